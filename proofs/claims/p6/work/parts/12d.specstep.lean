/-! a step of an expression's reader -/
def oXStep (kd : Int) (dot : Prop) (nu at_ : Int) (cc : Int → Int) (ru tg : Int) (xst tc xop : Int) (wt : Int → Int) (wc : Int) (op od : Int → Int) (cz : Int) (hgs ce ec : Int → Int) (ic r st2 tc2 xop2 : Int) (wt2 : Int → Int) (wc2 : Int) (op2 od2 : Int → Int) (cz2 : Int) (hgs2 ce2 ec2 : Int → Int) (ic2 : Int) : Prop :=
  (xst = 0 ∧ (hgs2 = hgs ∧ ce2 = ce ∧ ec2 = ec ∧ ic2 = ic) ∧ oOpd kd dot nu tc cc ru wt wc op od cz xst xop r st2 tc2 xop2 wt2 wc2 op2 od2 cz2)
  ∨ (xst = 1 ∧ (xop2 = xop ∧ wt2 = wt ∧ wc2 = wc ∧ op2 = op ∧ od2 = od ∧ cz2 = cz ∧ hgs2 = hgs ∧ ce2 = ce ∧ ec2 = ec ∧ ic2 = ic) ∧ oOccD kd tc r st2 tc2)
  ∨ (xst = 2 ∧ (xop2 = xop ∧ wt2 = wt ∧ ce2 = ce ∧ ec2 = ec ∧ ic2 = ic) ∧ oOccA kd at_ xop tg tc hgs wt wc op od cz r hgs2 st2 tc2 wc2 op2 od2 cz2)
  ∨ (xst = 3 ∧ (xop2 = xop ∧ hgs2 = hgs) ∧ oOpr kd tc wt wc op od cz ce ec ru tg xst ic r st2 tc2 wt2 wc2 op2 od2 cz2 ce2 ec2 ic2)
theorem opd_st {kd : Int} {dot : Prop} {nu tc : Int} {cc : Int → Int} {ru : Int} {wt : Int → Int} {wc : Int} {op od : Int → Int} {cz st xop r st2 tc2 xop2 : Int} {wt2 : Int → Int} {wc2 : Int} {op2 od2 : Int → Int} {cz2 : Int} (h : oOpd kd dot nu tc cc ru wt wc op od cz st xop r st2 tc2 xop2 wt2 wc2 op2 od2 cz2) (hn : 0 ≤ nu) (hr : r = 0) : (0 ≤ st2 ∧ st2 ≤ 3) ∧ (st2 = 1 ∨ st2 = 2 → 0 ≤ xop2 ∧ xop2 ≤ cc ru) := by
  have em : ∀ {ov dv : Int}, oEmit ov dv tc wt wc op od cz r st2 tc2 wc2 op2 od2 cz2 → st2 = 3 := by
    intro ov dv q
    rcases q with q | q | q
    · omega
    · omega
    · exact q.2.2.2.1
  have ope : ∀ {wh : Int}, oOpen wh tc wt wc r st2 tc2 wt2 wc2 → st2 = 0 := by
    intro wh q
    rcases q with q | q
    · omega
    · exact q.2.2.2.1
  rcases h with ⟨-, -, -, q⟩ | ⟨-, -, -, q⟩ | ⟨-, -, q⟩ | ⟨-, -, q⟩ | ⟨-, -, q⟩ | ⟨-, -, -, q⟩ | ⟨-, -, q⟩ | ⟨-, q⟩
  · rcases q with q | q | q
    · omega
    · omega
    · omega
  · have := em q
    omega
  · have := em q
    omega
  · have := ope q
    omega
  · have := ope q
    omega
  · have := ope q
    omega
  · omega
  · omega
theorem opr_st {kd tc : Int} {wt : Int → Int} {wc : Int} {op od : Int → Int} {cz : Int} {ce ec : Int → Int} {ru tg st ic r st2 tc2 : Int} {wt2 : Int → Int} {wc2 : Int} {op2 od2 : Int → Int} {cz2 : Int} {ce2 ec2 : Int → Int} {ic2 : Int} (h : oOpr kd tc wt wc op od cz ce ec ru tg st ic r st2 tc2 wt2 wc2 op2 od2 cz2 ce2 ec2 ic2) (hr : r = 0) : st2 = 0 ∨ st2 = 3 ∨ st2 = st := by
  rcases h with ⟨-, -, q⟩ | ⟨-, -, q⟩ | ⟨-, -, q⟩ | ⟨-, -, q⟩ | ⟨-, -, q⟩ | ⟨-, -, q⟩ | ⟨-, q, -⟩ | ⟨-, q⟩
  · rcases q with q | q
    · omega
    · exact Or.inl q.2.2.1
  · rcases q with q | q
    · omega
    · exact Or.inl q.2.2.1
  · obtain ⟨w1, -, q⟩ := q
    rcases q with q | q | q
    · omega
    · omega
    · exact Or.inl q.2.2.2.1
  · obtain ⟨w1, o1, d1, z1, -, q⟩ := q
    rcases q with q | q | q
    · omega
    · omega
    · exact Or.inr (Or.inl q.2.2.2.1)
  · obtain ⟨w1, -, q⟩ := q
    rcases q with q | q | q
    · omega
    · omega
    · exact Or.inl q.2.2.2.1
  · obtain ⟨w1, -, q⟩ := q
    rcases q with q | q | q
    · omega
    · omega
    · exact Or.inl q.2.2.2.1
  · exact Or.inr (Or.inr q.2.1)
  · omega
theorem occA_st {kd at_ xop tg tc : Int} {hgs wt : Int → Int} {wc : Int} {op od : Int → Int} {cz r : Int} {hgs2 : Int → Int} {st2 tc2 wc2 : Int} {op2 od2 : Int → Int} {cz2 : Int} (h : oOccA kd at_ xop tg tc hgs wt wc op od cz r hgs2 st2 tc2 wc2 op2 od2 cz2) (hr : r = 0) : st2 = 3 := by
  rcases h with q | q | ⟨-, -, -, q⟩
  · omega
  · omega
  · rcases q with q | q | q
    · omega
    · omega
    · exact q.2.2.2.1
theorem occD_inv {kd tc r st2 tc2 : Int} {wt : Int → Int} {wc oc cz : Int} (h : oOccD kd tc r st2 tc2) (hI : xInv wt wc tc oc cz) (hr : r = 0) : xInv wt wc tc2 oc cz ∧ st2 = 2 := by
  obtain ⟨a1, a2, a3, a4⟩ := hI
  rcases h with h | h | ⟨-, q1, q2, q3, q4⟩
  · omega
  · omega
  · exact ⟨⟨by omega, a2, a3, a4⟩, q3⟩
