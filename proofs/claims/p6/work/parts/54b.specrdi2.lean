/-! the loop of the class's reader -/
def XIN (st rc xru xta xic xst tc xop wc oc cz : Int) (cs cc wt : Int → Int) : Prop := st = 14 → (xru = rc - 1 ∧ (0 ≤ xta ∧ xta < 720) ∧ ¬ cs xta = -1 ∧ xic = 0 ∧ xInv wt wc tc oc cz ∧ (0 ≤ xst ∧ xst ≤ 3) ∧ (xst = 1 ∨ xst = 2 → 0 ≤ xop ∧ xop ≤ cc xru))
/-- it reads on, or a FAULT has come, or it is ready -/
def RDI (tx : Int → Int) (n : Int) (S0 : Nat → Int → Int) (f i a : Int) (st : Int) (ri : Int) (tp : Int) (ts : Int) (be : Int) (sc : Int) (rc : Int) (xst : Int) (tc : Int) (xop : Int) (wc : Int) (sn : Int → Int) (ac : Int → Int) (ic : Int → Int) (an : Int → Int) (ih : Int → Int) (rn : Int → Int) (rs : Int → Int) (cc : Int → Int) (cs : Int → Int) (wt : Int → Int) (xru xta xic oc cz : Int) : Prop :=
  (f = 0 ∧ ¬ st = 15 ∧ CHN tx n S0 (mkS st ri tp ts be sc rc xst tc xop wc sn ac ic an ih rn rs cc (bN cs) wt) ∧ i ≤ be ∧ STI st rc tp ts ∧ XIN st rc xru xta xic xst tc xop wc oc cz cs cc wt)
  ∨ (¬ f = 0 ∧ ∀ e : Nat → Int → Int, RES tx n S0 f a e)
  ∨ (f = 0 ∧ st = 15 ∧ 1 ≤ rc ∧ ∀ p : Int, RES tx n S0 0 p (mkS st ri tp ts be sc rc xst tc xop wc sn ac ic an ih rn rs cc (bN cs) wt))
theorem rdi_run {tx : Int → Int} {n : Int} {S0 : Nat → Int → Int} {i a : Int} {st : Int} {ri : Int} {tp : Int} {ts : Int} {be : Int} {sc : Int} {rc : Int} {xst : Int} {tc : Int} {xop : Int} {wc : Int} {sn : Int → Int} {ac : Int → Int} {ic : Int → Int} {an : Int → Int} {ih : Int → Int} {rn : Int → Int} {rs : Int → Int} {cc : Int → Int} {cs : Int → Int} {wt : Int → Int} {xru xta xic oc cz : Int} (h : RDI tx n S0 0 i a st ri tp ts be sc rc xst tc xop wc sn ac ic an ih rn rs cc cs wt xru xta xic oc cz) (h15 : ¬ st = 15) : CHN tx n S0 (mkS st ri tp ts be sc rc xst tc xop wc sn ac ic an ih rn rs cc (bN cs) wt) ∧ i ≤ be ∧ STI st rc tp ts ∧ XIN st rc xru xta xic xst tc xop wc oc cz cs cc wt := by
  rcases h with h | h | h
  · exact h.2.2
  · exact absurd rfl h.1
  · exact absurd h.2.1 h15
/-- a step that ends well, or with a FAULT -/
theorem rdi_next {tx : Int → Int} {n : Int} {S0 S : Nat → Int → Int} {r i a : Int} {st : Int} {ri : Int} {tp : Int} {ts : Int} {be : Int} {sc : Int} {rc : Int} {xst : Int} {tc : Int} {xop : Int} {wc : Int} {sn : Int → Int} {ac : Int → Int} {ic : Int → Int} {an : Int → Int} {ih : Int → Int} {rn : Int → Int} {rs : Int → Int} {cc : Int → Int} {cs : Int → Int} {wt : Int → Int} {xru xta xic oc cz : Int} (hc : CHN tx n S0 S) (hs : STEP tx n S r (mkS st ri tp ts be sc rc xst tc xop wc sn ac ic an ih rn rs cc (bN cs) wt)) (ha : a = kRun isBl tx n (S 4 0)) (h2 : r = 0 → STI st rc tp ts ∧ (st = 15 ∨ (i ≤ be ∧ XIN st rc xru xta xic xst tc xop wc oc cz cs cc wt))) : RDI tx n S0 r i a st ri tp ts be sc rc xst tc xop wc sn ac ic an ih rn rs cc cs wt xru xta xic oc cz := by
  by_cases hr : r = 0
  · subst hr
    obtain ⟨z1, z2⟩ := h2 rfl
    by_cases q : st = 15
    · exact Or.inr (Or.inr ⟨rfl, q, by have z3 := z1.2.1; omega, fun p => hc _ _ _ (res_end hs q p)⟩)
    · rcases z2 with z2 | z2
      · exact absurd z2 q
      · exact Or.inl ⟨rfl, q, chn_tr hc (chn_st hs q), z2.1, z1, z2.2⟩
  · exact Or.inr (Or.inl ⟨hr, fun e => by rw [ha]; exact hc _ _ _ (res_bad hs hr e)⟩)
theorem rdi_a {tx : Int → Int} {n : Int} {S0 : Nat → Int → Int} {i at_ a nm nu : Int} {st : Int} {ri : Int} {tp : Int} {ts : Int} {be : Int} {sc : Int} {rc : Int} {xst : Int} {tc : Int} {xop : Int} {wc : Int} {sn : Int → Int} {ac : Int → Int} {ic : Int → Int} {an : Int → Int} {ih : Int → Int} {rn : Int → Int} {rs : Int → Int} {cc : Int → Int} {cs : Int → Int} {wt : Int → Int} {r : Int} {st2 : Int} {sc2 : Int} {sn2 : Int → Int} {ac2 : Int → Int} {ic2 : Int → Int} {an2 : Int → Int} {ih2 : Int → Int} {ri2 : Int} {tp2 : Int} {rc2 : Int} {rn2 : Int → Int} {cc2 : Int → Int} {cs2 : Int → Int} {rs2 : Int → Int} {ts2 : Int} {xru xta xic oc cz : Int} {rk ec ce hgs rk2 ec2 ce2 hgs2 : Int → Int} (h : RDI tx n S0 0 i at_ st ri tp ts be sc rc xst tc xop wc sn ac ic an ih rn rs cc cs wt xru xta xic oc cz) (hs : oStepA (kKA tx n a) nm nu st sc sn ac ic an ih rk ri tp rc rn cc ec cs ce hgs rs ts r st2 sc2 sn2 ac2 ic2 an2 ih2 rk2 ri2 tp2 rc2 rn2 cc2 ec2 cs2 ce2 hgs2 rs2 ts2) (ha : a = kRun isBl tx n be) (hnm : kKA tx n a = 1 → nm = kCv tx n a 0) (hnu : kKA tx n a = 2 → nu = kDv tx n a 0) (h13 : st < 13) (hbe : 0 ≤ be ∧ be ≤ n) (ht : TBL sc rc sn ac ic an ih rk rn rs cc cs ce) (hu : 0 ≤ nu) : RDI tx n S0 r (i + 1) a st2 ri2 tp2 ts2 (kBA tx n a) sc2 rc2 xst tc xop wc sn2 ac2 ic2 an2 ih2 rn2 rs2 cc2 cs2 wt xru xta xic oc cz := by
  obtain ⟨hc, hi, hst, hx⟩ := rdi_run h (by omega)
  refine rdi_next hc (cls_a hs ha hnm hnu h13) ha (fun hr => ?_)
  obtain ⟨z1, z2, z3⟩ := stepA_st hs hr hst ht h13 hu
  refine ⟨z1, ?_⟩
  have g := kRun_in (pq := isBl) (tx := tx) (n := n) (a := be) hbe.2
  have g2 := kBA_rng (tx := tx) (n := n) (a := a) (by omega)
  by_cases q : a < n
  · exact Or.inr ⟨by omega, fun y => absurd y z2⟩
  · exact Or.inl (z3 (kA_end (tx := tx) (n := n) (a := a) (by omega)).1)
theorem rdi_b {tx : Int → Int} {n : Int} {S0 : Nat → Int → Int} {i at_ a : Int} {st : Int} {ri : Int} {tp : Int} {ts : Int} {be : Int} {sc : Int} {rc : Int} {xst : Int} {tc : Int} {xop : Int} {wc : Int} {sn : Int → Int} {ac : Int → Int} {ic : Int → Int} {an : Int → Int} {ih : Int → Int} {rn : Int → Int} {rs : Int → Int} {cc : Int → Int} {cs : Int → Int} {wt : Int → Int} {r st2 : Int} {xru xta xic oc cz : Int} (h : RDI tx n S0 0 i at_ st ri tp ts be sc rc xst tc xop wc sn ac ic an ih rn rs cc cs wt xru xta xic oc cz) (hs : oGoIf (kKA tx n a) 61 14 st r st2) (ha : a = kRun isBl tx n be) (h13 : st = 13) (hbe : 0 ≤ be ∧ be ≤ n) (hz : 0 ≤ cz ∧ cz ≤ 3000) (hw : ∀ j : Int, 0 ≤ j ∧ j < 40 → -128 ≤ wt j ∧ wt j < 128) : RDI tx n S0 r (i + 1) a st2 ri tp ts (kBA tx n a) sc rc 0 0 xop 0 sn ac ic an ih rn rs cc (zU cs ts cz) wt (rc - 1) ts 0 0 cz := by
  obtain ⟨hc, hi, hst, hx⟩ := rdi_run h (by omega)
  refine rdi_next hc (cls_b hs ha h13 hz.1) ha (fun hr => ?_)
  obtain ⟨b1, b2, b3, b4⟩ := hst
  have g := kRun_in (pq := isBl) (tx := tx) (n := n) (a := be) hbe.2
  have g2 := kBA_rng (tx := tx) (n := n) (a := a) (by omega)
  rcases hs with ⟨-, q1, q2⟩ | q
  · have g3 : a < n := by
      rcases Int.lt_or_le a n with y | y
      · exact y
      · have y2 := (kA_end (tx := tx) (n := n) (a := a) y).1
        omega
    refine ⟨⟨by omega, by omega, by omega, by omega⟩, Or.inr ⟨by omega, fun _ => ⟨rfl, b4 h13, ?_, rfl, ⟨by omega, rfl, hz, hw⟩, by omega, by omega⟩⟩⟩
    rw [zU_s]
    omega
  · omega
theorem ic_if {ico st2 : Int} (h : (ico = 1 ∧ st2 = 9) ∨ (ico = 0 ∧ st2 = 14)) : st2 = if ico = 1 then 9 else 14 := by
  split <;> omega
theorem ia_eq {x a : Int} (h : zI x = zI a) (ha : -2147483648 ≤ a ∧ a < 2147483648) (q : x = 0 ∨ x = 1) : a = x := ((zI_eq (by omega) ha).mp h).symm
theorem rx_ic {kd : Int} {dot : Prop} {nu at_ : Int} {cc : Int → Int} {ru xst tc xop : Int} {wt : Int → Int} {wc r st2 tc2 xop2 : Int} {wt2 : Int → Int} {wc2 ic2 : Int} (h : rXStep kd dot nu at_ cc ru xst tc xop wt wc r st2 tc2 xop2 wt2 wc2 ic2) (hr : r = 0) : ¬ kd = 0 ∧ (ic2 = 0 ∨ ic2 = 1) := by
  rcases h with ⟨a, c, d⟩ | ⟨a, c, d⟩ | ⟨a, c, d⟩ | ⟨a, c, d⟩
  · refine ⟨?_, Or.inl c⟩
    rcases d with d | d | d | d | d | d | d | d <;> omega
  · refine ⟨?_, Or.inl c.2.2.2⟩
    rcases d with d | d | d <;> omega
  · refine ⟨?_, Or.inl c.2.2⟩
    rcases d with d | d | d <;> omega
  · rcases d with ⟨a1, c1, d⟩ | ⟨a1, c1, d⟩ | ⟨a1, c1, d⟩ | ⟨a1, c1, d⟩ | ⟨a1, c1, d⟩ | ⟨a1, c1, d⟩ | ⟨a1, c1, d⟩ | ⟨a1, d⟩
    · exact ⟨by omega, Or.inl c1⟩
    · exact ⟨by omega, Or.inl c1⟩
    · exact ⟨by omega, Or.inl c1⟩
    · exact ⟨by omega, Or.inl c1.1⟩
    · exact ⟨by omega, Or.inl c1⟩
    · exact ⟨by omega, Or.inl c1⟩
    · exact ⟨by omega, by omega⟩
    · omega
theorem rdi_x {tx : Int → Int} {n : Int} {S0 : Nat → Int → Int} {i at_ a nm nu : Int} {st : Int} {ri : Int} {tp : Int} {ts : Int} {be : Int} {sc : Int} {rc : Int} {xst : Int} {tc : Int} {xop : Int} {wc : Int} {sn : Int → Int} {ac : Int → Int} {ic : Int → Int} {an : Int → Int} {ih : Int → Int} {rn : Int → Int} {rs : Int → Int} {cc : Int → Int} {cs : Int → Int} {wt : Int → Int} {r st2 xst2 tc2 xop2 wc2 : Int} {wt2 : Int → Int} {xru xta xic oc oc2 cz cz2 ico : Int} {op od hgs ce ec op2 od2 hgs2 ce2 ec2 : Int → Int} (h : RDI tx n S0 0 i at_ st ri tp ts be sc rc xst tc xop wc sn ac ic an ih rn rs cc cs wt xru xta xic oc cz) (hs : oXStep (kKA tx n a) (kRun isBl tx n (kBA tx n a) < n ∧ tx (kRun isBl tx n (kBA tx n a)) = 46) nu (kAtt rs ac an xru xop nm) cc xru xta xst tc xop wt wc op od cz hgs ce ec xic r xst2 tc2 xop2 wt2 wc2 op2 od2 cz2 hgs2 ce2 ec2 ico) (ha : a = kRun isBl tx n be) (hnm : kKA tx n a = 1 → nm = kCv tx n a 0) (hnu : kKA tx n a = 2 → nu = kDv tx n a 0) (h14 : st = 14) (hbe : 0 ≤ be ∧ be ≤ n) (hI : r = 0 → xInv wt2 wc2 tc2 oc2 cz2) (hS : r = 0 → (0 ≤ xst2 ∧ xst2 ≤ 3) ∧ (xst2 = 1 ∨ xst2 = 2 → 0 ≤ xop2 ∧ xop2 ≤ cc xru)) (h2 : r = 0 → (ico = 1 ∧ st2 = 9) ∨ (ico = 0 ∧ st2 = 14)) : RDI tx n S0 r (i + 1) a st2 ri tp ts (kBA tx n a) sc rc xst2 tc2 xop2 wc2 sn ac ic an ih rn rs cc cs wt2 xru xta ico oc2 cz2 := by
  obtain ⟨hc, hi, hst, hx⟩ := rdi_run h (by omega)
  obtain ⟨x1, x2, x3, x4, x5, x6, x7⟩ := hx h14
  refine rdi_next hc (cls_x hs ha x4 x1 hnm hnu h14 (fun hr => ic_if (h2 hr))) ha (fun hr => ?_)
  obtain ⟨b1, b2, b3, b4⟩ := hst
  have g := kRun_in (pq := isBl) (tx := tx) (n := n) (a := be) hbe.2
  have g2 := kBA_rng (tx := tx) (n := n) (a := a) (by omega)
  subst x4
  have q := rx_ic (xstep_r hs) hr
  have g3 : a < n := by
    rcases Int.lt_or_le a n with y | y
    · exact y
    · exact absurd (kA_end (tx := tx) (n := n) (a := a) y).1 q.1
  refine ⟨⟨by omega, by omega, by omega, by omega⟩, Or.inr ⟨by omega, fun y => ?_⟩⟩
  have y2 := h2 hr
  exact ⟨x1, x2, x3, by omega, hI hr, (hS hr).1, (hS hr).2⟩
theorem rx_ic2 {kd : Int} {dot : Prop} {nu at_ : Int} {cc : Int → Int} {ru tg xst tc xop : Int} {wt : Int → Int} {wc : Int} {op od : Int → Int} {cz : Int} {hgs ce ec : Int → Int} {ic r st2 tc2 xop2 : Int} {wt2 : Int → Int} {wc2 : Int} {op2 od2 : Int → Int} {cz2 : Int} {hgs2 ce2 ec2 : Int → Int} {ic2 : Int} (h : oXStep kd dot nu at_ cc ru tg xst tc xop wt wc op od cz hgs ce ec ic r st2 tc2 xop2 wt2 wc2 op2 od2 cz2 hgs2 ce2 ec2 ic2) (hi : ic = 0) (hr : r = 0) : ic2 = 0 ∨ ic2 = 1 := by
  subst hi
  exact (rx_ic (xstep_r h) hr).2
theorem rx_r {kd : Int} {dot : Prop} {nu at_ : Int} {cc : Int → Int} {ru tg xst tc xop : Int} {wt : Int → Int} {wc : Int} {op od : Int → Int} {cz : Int} {hgs ce ec : Int → Int} {ic r st2 tc2 xop2 : Int} {wt2 : Int → Int} {wc2 : Int} {op2 od2 : Int → Int} {cz2 : Int} {hgs2 ce2 ec2 : Int → Int} {ic2 : Int} (h : oXStep kd dot nu at_ cc ru tg xst tc xop wt wc op od cz hgs ce ec ic r st2 tc2 xop2 wt2 wc2 op2 od2 cz2 hgs2 ce2 ec2 ic2) (hi : ic = 0) : 0 ≤ r ∧ r ≤ 9 := by
  subst hi
  rcases xstep_r h with ⟨a, c, d⟩ | ⟨a, c, d⟩ | ⟨a, c, d⟩ | ⟨a, c, d⟩
  · rcases d with ⟨-, -, -, d⟩ | ⟨-, -, -, d⟩ | ⟨-, -, d⟩ | ⟨-, -, d⟩ | ⟨-, -, d⟩ | ⟨-, -, -, d⟩ | d | d
    · omega
    · rcases d with d | d | d <;> omega
    · rcases d with d | d | d <;> omega
    · rcases d with d | d <;> omega
    · rcases d with d | d <;> omega
    · rcases d with d | d <;> omega
    · omega
    · omega
  · rcases d with d | d | d <;> omega
  · rcases d with d | d | ⟨-, -, d⟩
    · omega
    · omega
    · rcases d with d | d | d <;> omega
  · rcases d with ⟨a1, c1, d⟩ | ⟨a1, c1, d⟩ | ⟨a1, c1, d⟩ | ⟨a1, c1, d⟩ | ⟨a1, c1, d⟩ | ⟨a1, c1, d⟩ | ⟨a1, c1, d⟩ | ⟨a1, d⟩
    · rcases d with d | d <;> omega
    · rcases d with d | d <;> omega
    · rcases d with d | d | d <;> omega
    · rcases d with d | d | d <;> omega
    · rcases d with d | d | d <;> omega
    · rcases d with d | d | d <;> omega
    · omega
    · omega
theorem stepA_rng {kd nm nu : Int} {st : Int} {sc : Int} {sn : Int → Int} {ac : Int → Int} {ic : Int → Int} {an : Int → Int} {ih : Int → Int} {rk : Int → Int} {ri : Int} {tp : Int} {rc : Int} {rn : Int → Int} {cc : Int → Int} {ec : Int → Int} {cs : Int → Int} {ce : Int → Int} {hgs : Int → Int} {rs : Int → Int} {ts : Int} {r : Int} {st2 : Int} {sc2 : Int} {sn2 : Int → Int} {ac2 : Int → Int} {ic2 : Int → Int} {an2 : Int → Int} {ih2 : Int → Int} {rk2 : Int → Int} {ri2 : Int} {tp2 : Int} {rc2 : Int} {rn2 : Int → Int} {cc2 : Int → Int} {ec2 : Int → Int} {cs2 : Int → Int} {ce2 : Int → Int} {hgs2 : Int → Int} {rs2 : Int → Int} {ts2 : Int} (h : oStepA kd nm nu st sc sn ac ic an ih rk ri tp rc rn cc ec cs ce hgs rs ts r st2 sc2 sn2 ac2 ic2 an2 ih2 rk2 ri2 tp2 rc2 rn2 cc2 ec2 cs2 ce2 hgs2 rs2 ts2) (h13 : 0 ≤ st ∧ st < 13) : (0 ≤ r ∧ r ≤ 9) ∧ (0 ≤ st2 ∧ st2 ≤ 15) ∧ ¬ st2 = 14 := by
  have hgo : ∀ {k nx : Int}, oGoIf kd k nx st r st2 → (r = 0 ∧ st2 = nx) ∨ (r = 1 ∧ st2 = st) := by
    intro k nx q
    rcases q with q | q
    · exact Or.inl ⟨q.1, q.2.2⟩
    · exact Or.inr ⟨q.1, q.2.2⟩
  rcases h with ⟨g, f, h⟩ | ⟨g, f, h⟩ | ⟨g, f, h⟩ | ⟨g, f, h⟩
  · rcases h with ⟨g, f, h⟩ | ⟨g, f, h⟩ | ⟨g, f, h⟩ | ⟨g, f, h⟩ | ⟨g, f, h⟩
    · rcases h with h | h <;> omega
    · rcases h with h | h | h | h <;> omega
    · rcases h with h | h <;> omega
    · rcases h with h | ⟨-, h⟩
      · omega
      · have z := hgo h
        omega
    · have z := hgo h
      omega
  · rcases h with ⟨g, f, h⟩ | ⟨g, f, h⟩ | ⟨g, f, h⟩ | ⟨g, f, h⟩ | ⟨g, f, h⟩ | ⟨g, f, h⟩
    · rcases h with h | h <;> omega
    · have z := hgo h
      omega
    · rcases h with h | h <;> omega
    · rcases h with h | h | h <;> omega
    · rcases h with h | h | h | h | h <;> omega
    · rcases h with h | h | h | h <;> omega
  · have z := hgo h
    omega
  · rcases h with ⟨h, h2, -⟩ | ⟨-, -, -, -, h⟩
    · omega
    · omega
theorem rdi_out {tx : Int → Int} {n : Int} {S0 : Nat → Int → Int} {f i a : Int} {st : Int} {ri : Int} {tp : Int} {ts : Int} {be : Int} {sc : Int} {rc : Int} {xst : Int} {tc : Int} {xop : Int} {wc : Int} {sn : Int → Int} {ac : Int → Int} {ic : Int → Int} {an : Int → Int} {ih : Int → Int} {rn : Int → Int} {rs : Int → Int} {cc : Int → Int} {cs : Int → Int} {wt : Int → Int} {xru xta xic oc cz : Int} (h : RDI tx n S0 f i a st ri tp ts be sc rc xst tc xop wc sn ac ic an ih rn rs cc cs wt xru xta xic oc cz) (hbe : be ≤ n) (hx : n < i ∨ ¬ f = 0 ∨ st = 15) : ∃ e : Nat → Int → Int, RES tx n S0 f a e ∧ (f = 0 → e = (mkS st ri tp ts be sc rc xst tc xop wc sn ac ic an ih rn rs cc (bN cs) wt) ∧ 1 ≤ rc) := by
  rcases h with h | h | h
  · exfalso
    have z := h.2.2.2.1
    omega
  · exact ⟨S0, h.2 _, fun z => absurd z h.1⟩
  · obtain ⟨rfl, h2, h3, h4⟩ := h
    exact ⟨_, h4 a, fun _ => ⟨rfl, h3⟩⟩
theorem ce_tb {sc : Int} {rc : Int} {sn : Int → Int} {ac : Int → Int} {ic : Int → Int} {an : Int → Int} {ih : Int → Int} {rk : Int → Int} {rn : Int → Int} {rs : Int → Int} {cc : Int → Int} {cs : Int → Int} {ce : Int → Int} {r k cz2 : Int} {ce2 : Int → Int} (h : TBL sc rc sn ac ic an ih rk rn rs cc cs ce) (hc : ce2 = ce ∨ (r = 0 ∧ ce2 = zU ce k cz2)) (hz : 0 ≤ cz2 ∧ cz2 ≤ 3000) (hk : ¬ cs k = -1) : TBL sc rc sn ac ic an ih rk rn rs cc cs ce2 := by
  rcases hc with rfl | ⟨-, rfl⟩
  · exact h
  · exact tb_ce h (by omega) hk
theorem tb_rk {sc : Int} {rc : Int} {sn : Int → Int} {ac : Int → Int} {ic : Int → Int} {an : Int → Int} {ih : Int → Int} {rk : Int → Int} {rn : Int → Int} {rs : Int → Int} {cc : Int → Int} {cs : Int → Int} {ce : Int → Int} {rk2 : Int → Int} (h : TBL sc rc sn ac ic an ih rk rn rs cc cs ce) (h2 : RKI ac ic ih rk2) : TBL sc rc sn ac ic an ih rk2 rn rs cc cs ce := by
  obtain ⟨⟨h1, h2'⟩, hsn, hac, hic, han, hih, hrk, hrn, hrs, hcc, hcs, hce, hcce⟩ := h
  exact ⟨⟨h1, h2'⟩, hsn, hac, hic, han, hih, h2, hrn, hrs, hcc, hcs, hce, hcce⟩
theorem tb_clear {sc : Int} {rc : Int} {sn : Int → Int} {ac : Int → Int} {ic : Int → Int} {an : Int → Int} {ih : Int → Int} {rk : Int → Int} {rn : Int → Int} {rs : Int → Int} {cc : Int → Int} {cs : Int → Int} {ce : Int → Int} (h : TBL sc rc sn ac ic an ih rk rn rs cc cs ce) : TBL 0 0 sn ac ic an ih rk rn rs cc cs ce := by
  obtain ⟨⟨h1, h2⟩, hsn, hac, hic, han, hih, hrk, hrn, hrs, hcc, hcs, hce, hcce⟩ := h
  exact ⟨⟨by omega, by omega⟩, hsn, hac, hic, han, hih, hrk, hrn, hrs, hcc, hcs, hce, hcce⟩
theorem rdi_0 {tx : Int → Int} {n : Int} {a : Int} {st : Int} {ri : Int} {tp : Int} {ts : Int} {be : Int} {sc : Int} {rc : Int} {xst : Int} {tc : Int} {xop : Int} {wc : Int} {sn : Int → Int} {ac : Int → Int} {ic : Int → Int} {an : Int → Int} {ih : Int → Int} {rn : Int → Int} {rs : Int → Int} {cc : Int → Int} {cs : Int → Int} {wt : Int → Int} {xru xta xic oc cz : Int} (h0 : st = 0) (hb : be = 0) : RDI tx n (mkS st ri tp ts be sc rc xst tc xop wc sn ac ic an ih rn rs cc (bN cs) wt) 0 0 a st ri tp ts be sc rc xst tc xop wc sn ac ic an ih rn rs cc cs wt xru xta xic oc cz := Or.inl ⟨rfl, by omega, chn_rf _ _ _, by omega, ⟨by omega, by omega, by omega, by omega⟩, fun z => by omega⟩
