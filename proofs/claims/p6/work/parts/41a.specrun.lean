/-! an expression's reader without its code -/
def kPopF (wt : Int → Int) (b : Int) : Nat → Int
  | 0 => 0
  | k + 1 => if b ≤ kBn (wt k) then kPopF wt b k else ((k + 1 : Nat) : Int)
def kPop (wt : Int → Int) (b k : Int) : Int := kPopF wt b k.toNat
theorem kSetF_pop (wt : Int → Int) (b : Int) : ∀ (k : Nat) (op od : Int → Int) (cz : Int), (kSetF wt b k op od cz).1 = kPopF wt b k := by
  intro k
  induction k with
  | zero => intro op od cz; rfl
  | succ k ih =>
    intro op od cz
    show (if b ≤ kBn (wt k) then kSetF wt b k (aOp op cz (wt k)) (aOp od cz 0) (aCz cz) else (((k + 1 : Nat) : Int), op, od, cz)).1 = (if b ≤ kBn (wt k) then kPopF wt b k else ((k + 1 : Nat) : Int))
    by_cases q : b ≤ kBn (wt k)
    · rw [if_pos q, if_pos q]
      exact ih _ _ _
    · rw [if_neg q, if_neg q]
theorem kSet_pop {wt : Int → Int} {b k : Int} {op od : Int → Int} {cz w1 : Int} {o1 d1 : Int → Int} {z1 : Int} (h : (w1, o1, d1, z1) = kSet wt b k op od cz) : w1 = kPop wt b k := by
  have q := congrArg Prod.fst h
  exact q.trans (kSetF_pop wt b _ _ _ _)
theorem kPop_0 {wt : Int → Int} {b k : Int} (h : k = 0) : kPop wt b k = k := by
  subst h
  rfl
theorem kPop_f {wt : Int → Int} {b k : Int} (h : 0 < k) (q : ¬ b ≤ kBn (wt (k - 1))) : kPop wt b k = k := by
  unfold kPop
  obtain ⟨j, rfl⟩ : ∃ j : Nat, k = ((j + 1 : Nat) : Int) := ⟨(k - 1).toNat, by omega⟩
  rw [show (((j + 1 : Nat) : Int)).toNat = j + 1 by omega]
  show (if b ≤ kBn (wt j) then _ else _) = _
  rw [if_neg (by rw [show ((j + 1 : Nat) : Int) - 1 = (j : Int) by omega] at q; exact q)]
theorem kPop_t {wt : Int → Int} {b k : Int} (h : 0 < k) (q : b ≤ kBn (wt (k - 1))) : kPop wt b k = kPop wt b (k - 1) := by
  unfold kPop
  obtain ⟨j, rfl⟩ : ∃ j : Nat, k = ((j + 1 : Nat) : Int) := ⟨(k - 1).toNat, by omega⟩
  rw [show (((j + 1 : Nat) : Int)).toNat = j + 1 by omega, show (((j + 1 : Nat) : Int) - 1) = (j : Int) by omega, show ((j : Int)).toNat = j by omega]
  show (if b ≤ kBn (wt j) then _ else _) = _
  rw [if_pos (by rw [show ((j + 1 : Nat) : Int) - 1 = (j : Int) by omega] at q; exact q)]
def rEmit (dv tc : Int) (wt : Int → Int) (wc r st2 tc2 wc2 : Int) : Prop := (r = 4 ∧ 40 < tc + 1) ∨ (r = 5 ∧ ¬ 40 < tc + 1 ∧ 2147483647 < dv) ∨ (r = 0 ∧ ¬ 40 < tc + 1 ∧ ¬ 2147483647 < dv ∧ st2 = 3 ∧ tc2 = tc + 1 ∧ wc2 = kPop wt 5 wc)
theorem emit_r {ov dv tc : Int} {wt : Int → Int} {wc : Int} {op od : Int → Int} {cz r st2 tc2 wc2 : Int} {op2 od2 : Int → Int} {cz2 : Int} (h : oEmit ov dv tc wt wc op od cz r st2 tc2 wc2 op2 od2 cz2) : rEmit dv tc wt wc r st2 tc2 wc2 := by
  rcases h with h | h | ⟨a, b, c, d, e, f⟩
  · exact Or.inl h
  · exact Or.inr (Or.inl h)
  · exact Or.inr (Or.inr ⟨a, b, c, d, e, kSet_pop f⟩)
def rBin (b kd tc : Int) (wt : Int → Int) (wc r st2 tc2 : Int) (wt2 : Int → Int) (wc2 : Int) : Prop := (r = 4 ∧ 40 < tc + 1) ∨ (r = 0 ∧ ¬ 40 < tc + 1 ∧ st2 = 0 ∧ tc2 = tc + 1 ∧ wt2 = zU wt (kPop wt b wc) kd ∧ wc2 = kPop wt b wc + 1)
theorem bin_r {b kd tc : Int} {wt : Int → Int} {wc : Int} {op od : Int → Int} {cz r st2 tc2 : Int} {wt2 : Int → Int} {wc2 : Int} {op2 od2 : Int → Int} {cz2 : Int} (h : oBin b kd tc wt wc op od cz r st2 tc2 wt2 wc2 op2 od2 cz2) : rBin b kd tc wt wc r st2 tc2 wt2 wc2 := by
  rcases h with h | ⟨a, b1, c, d, w1, e, f, g⟩
  · exact Or.inl h
  · have z := kSet_pop e
    subst z
    exact Or.inr ⟨a, b1, c, d, f, g⟩
def rCmp (kd tc : Int) (wt : Int → Int) (wc r st2 tc2 : Int) (wt2 : Int → Int) (wc2 : Int) : Prop := (r = 1 ∧ kBn (kTop wt (kPop wt 3 wc)) = 2) ∨ (r = 4 ∧ ¬ kBn (kTop wt (kPop wt 3 wc)) = 2 ∧ 40 < tc + 1) ∨ (r = 0 ∧ ¬ kBn (kTop wt (kPop wt 3 wc)) = 2 ∧ ¬ 40 < tc + 1 ∧ st2 = 0 ∧ tc2 = tc + 1 ∧ wt2 = zU wt (kPop wt 3 wc) kd ∧ wc2 = kPop wt 3 wc + 1)
theorem cmp_r {kd tc : Int} {wt : Int → Int} {wc : Int} {op od : Int → Int} {cz r st2 tc2 : Int} {wt2 : Int → Int} {wc2 : Int} {op2 od2 : Int → Int} {cz2 : Int} (h : oCmp kd tc wt wc op od cz r st2 tc2 wt2 wc2 op2 od2 cz2) : rCmp kd tc wt wc r st2 tc2 wt2 wc2 := by
  obtain ⟨w1, e, h⟩ := h
  have z := kSet_pop e
  subst z
  exact h
def rTurn (fr to tc : Int) (wt : Int → Int) (wc r st2 tc2 : Int) (wt2 : Int → Int) (wc2 : Int) : Prop := (r = 1 ∧ ¬ kTop wt (kPop wt 1 wc) = fr) ∨ (r = 4 ∧ kTop wt (kPop wt 1 wc) = fr ∧ 40 < tc + 1) ∨ (r = 0 ∧ kTop wt (kPop wt 1 wc) = fr ∧ ¬ 40 < tc + 1 ∧ st2 = 0 ∧ tc2 = tc + 1 ∧ wt2 = zU wt (kPop wt 1 wc - 1) to ∧ wc2 = kPop wt 1 wc)
theorem turn_r {fr to tc : Int} {wt : Int → Int} {wc : Int} {op od : Int → Int} {cz r st2 tc2 : Int} {wt2 : Int → Int} {wc2 : Int} {op2 od2 : Int → Int} {cz2 : Int} (h : oTurn fr to tc wt wc op od cz r st2 tc2 wt2 wc2 op2 od2 cz2) : rTurn fr to tc wt wc r st2 tc2 wt2 wc2 := by
  obtain ⟨w1, e, h⟩ := h
  have z := kSet_pop e
  subst z
  exact h
def rClose (tc : Int) (wt : Int → Int) (wc r st2 tc2 wc2 : Int) : Prop := (r = 1 ∧ ¬ kTop wt (kPop wt 1 wc) = 40) ∨ (r = 4 ∧ kTop wt (kPop wt 1 wc) = 40 ∧ 40 < tc + 1) ∨ (r = 0 ∧ kTop wt (kPop wt 1 wc) = 40 ∧ ¬ 40 < tc + 1 ∧ st2 = 3 ∧ tc2 = tc + 1 ∧ wc2 = kPop wt 5 (kPop wt 1 wc - 1))
theorem close_r {tc : Int} {wt : Int → Int} {wc : Int} {op od : Int → Int} {cz r st2 tc2 wc2 : Int} {op2 od2 : Int → Int} {cz2 : Int} (h : oClose tc wt wc op od cz r st2 tc2 wc2 op2 od2 cz2) : rClose tc wt wc r st2 tc2 wc2 := by
  obtain ⟨w1, o1, d1, z1, e, h⟩ := h
  have z := kSet_pop e
  subst z
  rcases h with h | h | ⟨a, b, c, d, f, g⟩
  · exact Or.inl h
  · exact Or.inr (Or.inl h)
  · exact Or.inr (Or.inr ⟨a, b, c, d, f, kSet_pop g⟩)
def rOpd (kd : Int) (dot : Prop) (nu tc : Int) (cc : Int → Int) (ru : Int) (wt : Int → Int) (wc xop r st2 tc2 xop2 : Int) (wt2 : Int → Int) (wc2 : Int) : Prop :=
  (kd = 2 ∧ dot ∧ (wt2 = wt ∧ wc2 = wc) ∧ ((r = 3 ∧ cc ru < nu) ∨ (r = 4 ∧ nu ≤ cc ru ∧ 40 < tc + 1) ∨ (r = 0 ∧ nu ≤ cc ru ∧ ¬ 40 < tc + 1 ∧ st2 = 1 ∧ tc2 = tc + 1 ∧ xop2 = nu)))
  ∨ (kd = 2 ∧ ¬ dot ∧ (wt2 = wt ∧ xop2 = xop) ∧ rEmit nu tc wt wc r st2 tc2 wc2)
  ∨ (kd = 8 ∧ (wt2 = wt ∧ xop2 = xop) ∧ rEmit 0 tc wt wc r st2 tc2 wc2)
  ∨ (kd = 40 ∧ (xop2 = xop) ∧ oOpen 40 tc wt wc r st2 tc2 wt2 wc2)
  ∨ (kd = 45 ∧ (xop2 = xop) ∧ oOpen 126 tc wt wc r st2 tc2 wt2 wc2)
  ∨ (kd = 9 ∧ kBn (kTop wt wc) ≤ 1 ∧ (xop2 = xop) ∧ oOpen 9 tc wt wc r st2 tc2 wt2 wc2)
  ∨ (kd = 9 ∧ ¬ kBn (kTop wt wc) ≤ 1 ∧ r = 1)
  ∨ (¬ (kd = 2 ∨ kd = 8 ∨ kd = 40 ∨ kd = 45 ∨ kd = 9) ∧ r = 1)
theorem opd_r {kd : Int} {dot : Prop} {nu tc : Int} {cc : Int → Int} {ru : Int} {wt : Int → Int} {wc : Int} {op od : Int → Int} {cz st xop r st2 tc2 xop2 : Int} {wt2 : Int → Int} {wc2 : Int} {op2 od2 : Int → Int} {cz2 : Int} (h : oOpd kd dot nu tc cc ru wt wc op od cz st xop r st2 tc2 xop2 wt2 wc2 op2 od2 cz2) : rOpd kd dot nu tc cc ru wt wc xop r st2 tc2 xop2 wt2 wc2 := by
  rcases h with ⟨a, b, c, d⟩ | ⟨a, b, c, d⟩ | ⟨a, c, d⟩ | ⟨a, c, d⟩ | ⟨a, c, d⟩ | ⟨a, b, c, d⟩ | ⟨a, b, c⟩ | ⟨a, b⟩
  · exact Or.inl ⟨a, b, ⟨c.1, c.2.1⟩, d⟩
  · exact Or.inr (Or.inl ⟨a, b, c, emit_r d⟩)
  · exact Or.inr (Or.inr (Or.inl ⟨a, c, emit_r d⟩))
  · exact Or.inr (Or.inr (Or.inr (Or.inl ⟨a, c.1, d⟩)))
  · exact Or.inr (Or.inr (Or.inr (Or.inr (Or.inl ⟨a, c.1, d⟩))))
  · exact Or.inr (Or.inr (Or.inr (Or.inr (Or.inr (Or.inl ⟨a, b, c.1, d⟩)))))
  · exact Or.inr (Or.inr (Or.inr (Or.inr (Or.inr (Or.inr (Or.inl ⟨a, b, c⟩))))))
  · exact Or.inr (Or.inr (Or.inr (Or.inr (Or.inr (Or.inr (Or.inr ⟨a, b⟩))))))
def rOpr (kd tc : Int) (wt : Int → Int) (wc r st2 tc2 : Int) (wt2 : Int → Int) (wc2 ic2 : Int) : Prop :=
  ((kd = 37 ∨ kd = 42 ∨ kd = 47) ∧ ic2 = 0 ∧ rBin 4 kd tc wt wc r st2 tc2 wt2 wc2)
  ∨ ((kd = 43 ∨ kd = 45) ∧ ic2 = 0 ∧ rBin 3 kd tc wt wc r st2 tc2 wt2 wc2)
  ∨ ((kd = 60 ∨ kd = 61) ∧ ic2 = 0 ∧ rCmp kd tc wt wc r st2 tc2 wt2 wc2)
  ∨ (kd = 41 ∧ (ic2 = 0 ∧ wt2 = wt) ∧ rClose tc wt wc r st2 tc2 wc2)
  ∨ (kd = 10 ∧ ic2 = 0 ∧ rTurn 9 10 tc wt wc r st2 tc2 wt2 wc2)
  ∨ (kd = 11 ∧ ic2 = 0 ∧ rTurn 10 11 tc wt wc r st2 tc2 wt2 wc2)
  ∨ (kd = 59 ∧ (wt2 = wt ∧ st2 = 3 ∧ tc2 = tc) ∧ ((r = 1 ∧ 0 < kPop wt 1 wc) ∨ (r = 0 ∧ kPop wt 1 wc = 0 ∧ wc2 = 0 ∧ ic2 = 1)))
  ∨ (¬ (kd = 37 ∨ kd = 42 ∨ kd = 47 ∨ kd = 43 ∨ kd = 45 ∨ kd = 60 ∨ kd = 61 ∨ kd = 41 ∨ kd = 10 ∨ kd = 11 ∨ kd = 59) ∧ r = 1)
theorem opr_r {kd tc : Int} {wt : Int → Int} {wc : Int} {op od : Int → Int} {cz : Int} {ce ec : Int → Int} {ru tg r st2 tc2 : Int} {wt2 : Int → Int} {wc2 : Int} {op2 od2 : Int → Int} {cz2 : Int} {ce2 ec2 : Int → Int} {ic2 : Int} (h : oOpr kd tc wt wc op od cz ce ec ru tg 3 0 r st2 tc2 wt2 wc2 op2 od2 cz2 ce2 ec2 ic2) : rOpr kd tc wt wc r st2 tc2 wt2 wc2 ic2 := by
  rcases h with ⟨a, c, d⟩ | ⟨a, c, d⟩ | ⟨a, c, d⟩ | ⟨a, c, d⟩ | ⟨a, c, d⟩ | ⟨a, c, d⟩ | ⟨a, c, d⟩ | ⟨a, d⟩
  · exact Or.inl ⟨a, c.2.2, bin_r d⟩
  · exact Or.inr (Or.inl ⟨a, c.2.2, bin_r d⟩)
  · exact Or.inr (Or.inr (Or.inl ⟨a, c.2.2, cmp_r d⟩))
  · exact Or.inr (Or.inr (Or.inr (Or.inl ⟨a, c.2.2, close_r d⟩)))
  · exact Or.inr (Or.inr (Or.inr (Or.inr (Or.inl ⟨a, c.2.2, turn_r d⟩))))
  · exact Or.inr (Or.inr (Or.inr (Or.inr (Or.inr (Or.inl ⟨a, c.2.2, turn_r d⟩)))))
  · refine Or.inr (Or.inr (Or.inr (Or.inr (Or.inr (Or.inr (Or.inl ⟨a, c, ?_⟩))))))
    have z := kSet_pop d.1
    rcases d.2 with q | q
    · exact Or.inl ⟨q.1, by omega⟩
    · exact Or.inr ⟨q.1, by omega, q.2.1, q.2.2.2.2⟩
  · exact Or.inr (Or.inr (Or.inr (Or.inr (Or.inr (Or.inr (Or.inr ⟨a, d⟩))))))
def rXStep (kd : Int) (dot : Prop) (nu at_ : Int) (cc : Int → Int) (ru xst tc xop : Int) (wt : Int → Int) (wc r st2 tc2 xop2 : Int) (wt2 : Int → Int) (wc2 ic2 : Int) : Prop :=
  (xst = 0 ∧ ic2 = 0 ∧ rOpd kd dot nu tc cc ru wt wc xop r st2 tc2 xop2 wt2 wc2)
  ∨ (xst = 1 ∧ (xop2 = xop ∧ wt2 = wt ∧ wc2 = wc ∧ ic2 = 0) ∧ oOccD kd tc r st2 tc2)
  ∨ (xst = 2 ∧ (xop2 = xop ∧ wt2 = wt ∧ ic2 = 0) ∧ ((r = 1 ∧ ¬ kd = 1) ∨ (r = 3 ∧ kd = 1 ∧ at_ = -1) ∨ (kd = 1 ∧ ¬ at_ = -1 ∧ rEmit (6 * xop + at_) tc wt wc r st2 tc2 wc2)))
  ∨ (xst = 3 ∧ xop2 = xop ∧ rOpr kd tc wt wc r st2 tc2 wt2 wc2 ic2)
theorem xstep_r {kd : Int} {dot : Prop} {nu at_ : Int} {cc : Int → Int} {ru tg xst tc xop : Int} {wt : Int → Int} {wc : Int} {op od : Int → Int} {cz : Int} {hgs ce ec : Int → Int} {r st2 tc2 xop2 : Int} {wt2 : Int → Int} {wc2 : Int} {op2 od2 : Int → Int} {cz2 : Int} {hgs2 ce2 ec2 : Int → Int} {ic2 : Int} (h : oXStep kd dot nu at_ cc ru tg xst tc xop wt wc op od cz hgs ce ec 0 r st2 tc2 xop2 wt2 wc2 op2 od2 cz2 hgs2 ce2 ec2 ic2) : rXStep kd dot nu at_ cc ru xst tc xop wt wc r st2 tc2 xop2 wt2 wc2 ic2 := by
  rcases h with ⟨a, c, d⟩ | ⟨a, c, d⟩ | ⟨a, c, d⟩ | ⟨a, c, d⟩
  · exact Or.inl ⟨a, c.2.2.2, opd_r d⟩
  · exact Or.inr (Or.inl ⟨a, ⟨c.1, c.2.1, c.2.2.1, c.2.2.2.2.2.2.2.2.2⟩, d⟩)
  · refine Or.inr (Or.inr (Or.inl ⟨a, ⟨c.1, c.2.1, c.2.2.2.2⟩, ?_⟩))
    rcases d with d | d | ⟨d1, d2, d3, d4⟩
    · exact Or.inl d
    · exact Or.inr (Or.inl d)
    · exact Or.inr (Or.inr ⟨d1, d2, emit_r d4⟩)
  · subst a
    exact Or.inr (Or.inr (Or.inr ⟨rfl, c.1, opr_r d⟩))

/-! the reader: a bundle of its fields -/
def mkS (st : Int) (ri : Int) (tp : Int) (ts : Int) (be : Int) (sc : Int) (rc : Int) (xst : Int) (tc : Int) (xop : Int) (wc : Int) (sn : Int → Int) (ac : Int → Int) (ic : Int → Int) (an : Int → Int) (ih : Int → Int) (rn : Int → Int) (rs : Int → Int) (cc : Int → Int) (cs : Int → Int) (wt : Int → Int) : Nat → Int → Int
  | 0 => fun _ => st
  | 1 => fun _ => ri
  | 2 => fun _ => tp
  | 3 => fun _ => ts
  | 4 => fun _ => be
  | 5 => fun _ => sc
  | 6 => fun _ => rc
  | 7 => fun _ => xst
  | 8 => fun _ => tc
  | 9 => fun _ => xop
  | 10 => fun _ => wc
  | 11 => sn
  | 12 => ac
  | 13 => ic
  | 14 => an
  | 15 => ih
  | 16 => rn
  | 17 => rs
  | 18 => cc
  | 19 => cs
  | _ => wt
def cnS (S : Nat → Int → Int) : Nat → Int → Int := mkS (S 0 0) (S 1 0) (S 2 0) (S 3 0) (S 4 0) (S 5 0) (S 6 0) (S 7 0) (S 8 0) (S 9 0) (S 10 0) (S 11) (S 12) (S 13) (S 14) (S 15) (S 16) (S 17) (S 18) (S 19) (S 20)
def bN (cs : Int → Int) : Int → Int := fun j => if cs j = -1 then -1 else 0
theorem bN_m {cs : Int → Int} {j : Int} : bN cs j = -1 ↔ cs j = -1 := by
  unfold bN
  split <;> omega
theorem bN_fill (cs : Int → Int) (a b : Int) : bN (zFill cs a b (-1)) = zFill (bN cs) a b (-1) := by
  funext j
  unfold bN zFill
  by_cases q : a ≤ j ∧ j < b
  · rw [if_pos q, if_pos q, if_pos rfl]
  · rw [if_neg q, if_neg q]
theorem bN_put (cs : Int → Int) {k v : Int} (h : 0 ≤ v) : bN (zU cs k v) = zU (bN cs) k 0 := by
  funext j
  unfold bN zU
  by_cases q : j = k
  · rw [if_pos q, if_pos q, if_neg (by omega)]
  · rw [if_neg q, if_neg q]
/-- a step of the reader: the TOKEN that begins at the place be, the FAULT r, the fields behind it -/
def STEPf (tx : Int → Int) (n : Int) (st : Int) (ri : Int) (tp : Int) (ts : Int) (be : Int) (sc : Int) (rc : Int) (xst : Int) (tc : Int) (xop : Int) (wc : Int) (sn : Int → Int) (ac : Int → Int) (ic : Int → Int) (an : Int → Int) (ih : Int → Int) (rn : Int → Int) (rs : Int → Int) (cc : Int → Int) (cs : Int → Int) (wt : Int → Int) (r : Int) (st2 : Int) (ri2 : Int) (tp2 : Int) (ts2 : Int) (be2 : Int) (sc2 : Int) (rc2 : Int) (xst2 : Int) (tc2 : Int) (xop2 : Int) (wc2 : Int) (sn2 : Int → Int) (ac2 : Int → Int) (ic2 : Int → Int) (an2 : Int → Int) (ih2 : Int → Int) (rn2 : Int → Int) (rs2 : Int → Int) (cc2 : Int → Int) (cs2 : Int → Int) (wt2 : Int → Int) : Prop :=
  be2 = kBA tx n (kRun isBl tx n be) ∧
  ((st = 14 ∧ (ri2 = ri ∧ tp2 = tp ∧ ts2 = ts ∧ sc2 = sc ∧ rc2 = rc ∧ sn2 = sn ∧ ac2 = ac ∧ ic2 = ic ∧ an2 = an ∧ ih2 = ih ∧ rn2 = rn ∧ rs2 = rs ∧ cc2 = cc ∧ cs2 = cs) ∧ ∃ ic2 : Int, rXStep (kKA tx n (kRun isBl tx n be)) (kRun isBl tx n (kBA tx n (kRun isBl tx n be)) < n ∧ tx (kRun isBl tx n (kBA tx n (kRun isBl tx n be))) = 46) (kDv tx n (kRun isBl tx n be) 0) (kAtt rs ac an (rc - 1) xop (kCv tx n (kRun isBl tx n be) 0)) cc (rc - 1) xst tc xop wt wc r xst2 tc2 xop2 wt2 wc2 ic2 ∧ (r = 0 → st2 = if ic2 = 1 then 9 else 14))
  ∨ (st < 13 ∧ (xst2 = xst ∧ tc2 = tc ∧ xop2 = xop ∧ wc2 = wc ∧ wt2 = wt) ∧ ∃ rk ec ce hgs rk2 ec2 ce2 hgs2 : Int → Int, oStepA (kKA tx n (kRun isBl tx n be)) (kCv tx n (kRun isBl tx n be) 0) (kDv tx n (kRun isBl tx n be) 0) st sc sn ac ic an ih rk ri tp rc rn cc ec cs ce hgs rs ts r st2 sc2 sn2 ac2 ic2 an2 ih2 rk2 ri2 tp2 rc2 rn2 cc2 ec2 cs2 ce2 hgs2 rs2 ts2)
  ∨ (st = 13 ∧ (ri2 = ri ∧ tp2 = tp ∧ ts2 = ts ∧ sc2 = sc ∧ rc2 = rc ∧ xop2 = xop ∧ sn2 = sn ∧ ac2 = ac ∧ ic2 = ic ∧ an2 = an ∧ ih2 = ih ∧ rn2 = rn ∧ rs2 = rs ∧ cc2 = cc ∧ wt2 = wt) ∧ (cs2 = zU cs ts 0 ∧ xst2 = 0 ∧ tc2 = 0 ∧ wc2 = 0) ∧ oGoIf (kKA tx n (kRun isBl tx n be)) 61 14 st r st2))
def STEP (tx : Int → Int) (n : Int) (S : Nat → Int → Int) (r : Int) (S2 : Nat → Int → Int) : Prop := STEPf tx n (S 0 0) (S 1 0) (S 2 0) (S 3 0) (S 4 0) (S 5 0) (S 6 0) (S 7 0) (S 8 0) (S 9 0) (S 10 0) (S 11) (S 12) (S 13) (S 14) (S 15) (S 16) (S 17) (S 18) (S 19) (S 20) r (S2 0 0) (S2 1 0) (S2 2 0) (S2 3 0) (S2 4 0) (S2 5 0) (S2 6 0) (S2 7 0) (S2 8 0) (S2 9 0) (S2 10 0) (S2 11) (S2 12) (S2 13) (S2 14) (S2 15) (S2 16) (S2 17) (S2 18) (S2 19) (S2 20)
def RUN (tx : Int → Int) (n : Int) : Nat → (Nat → Int → Int) → Int → Int → (Nat → Int → Int) → Prop
  | 0, _, _, _, _ => False
  | k + 1, S, f, p, e => ∃ (r : Int) (S2 : Nat → Int → Int), STEP tx n S r S2 ∧ ((¬ r = 0 ∧ f = r ∧ p = kRun isBl tx n (S 4 0)) ∨ (r = 0 ∧ S2 0 0 = 15 ∧ f = 0 ∧ e = cnS S2) ∨ (r = 0 ∧ ¬ S2 0 0 = 15 ∧ RUN tx n k S2 f p e))
def RES (tx : Int → Int) (n : Int) (S : Nat → Int → Int) (f p : Int) (e : Nat → Int → Int) : Prop := ∃ k : Nat, RUN tx n k S f p e
def CHN (tx : Int → Int) (n : Int) (S S2 : Nat → Int → Int) : Prop := ∀ (f p : Int) (e : Nat → Int → Int), RES tx n S2 f p e → RES tx n S f p e
theorem chn_rf (tx : Int → Int) (n : Int) (S : Nat → Int → Int) : CHN tx n S S := fun _ _ _ h => h
theorem chn_tr {tx : Int → Int} {n : Int} {S S2 S3 : Nat → Int → Int} (h : CHN tx n S S2) (h2 : CHN tx n S2 S3) : CHN tx n S S3 := fun f p e q => h f p e (h2 f p e q)
theorem chn_st {tx : Int → Int} {n : Int} {S S2 : Nat → Int → Int} (h : STEP tx n S 0 S2) (h2 : ¬ S2 0 0 = 15) : CHN tx n S S2 := fun f p e ⟨k, q⟩ => ⟨k + 1, 0, S2, h, Or.inr (Or.inr ⟨rfl, h2, q⟩)⟩
theorem res_end {tx : Int → Int} {n : Int} {S S2 : Nat → Int → Int} (h : STEP tx n S 0 S2) (h2 : S2 0 0 = 15) (p : Int) : RES tx n S 0 p (cnS S2) := ⟨1, 0, S2, h, Or.inr (Or.inl ⟨rfl, h2, rfl, rfl⟩)⟩
theorem res_bad {tx : Int → Int} {n : Int} {S S2 : Nat → Int → Int} {r : Int} (h : STEP tx n S r S2) (h2 : ¬ r = 0) (e : Nat → Int → Int) : RES tx n S r (kRun isBl tx n (S 4 0)) e := ⟨1, r, S2, h, Or.inl ⟨h2, rfl, rfl⟩⟩
