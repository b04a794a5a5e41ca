/-! an expression's reader: what waits, how tightly it binds, what is open -/
def kBn (x : Int) : Int := if x = 126 then 5 else if x = 42 ∨ x = 47 ∨ x = 37 then 4 else if x = 43 ∨ x = 45 then 3 else if x = 60 ∨ x = 61 then 2 else if x = 11 then 1 else 0
theorem kBn_rng (x : Int) : 0 ≤ kBn x ∧ kBn x ≤ 5 := by
  unfold kBn
  repeat' split
  all_goals omega
def kTop (wt : Int → Int) (k : Int) : Int := if 0 < k then wt (k - 1) else -1
def kOpn (x : Int) : Int := if x = 126 ∨ x = 11 ∨ x = 40 ∨ x = 9 ∨ x = 10 then 1 else 0
theorem kOpn_rng (x : Int) : 0 ≤ kOpn x ∧ kOpn x ≤ 1 := by
  unfold kOpn
  split <;> omega
def kOcF (wt : Int → Int) : Nat → Int
  | 0 => 0
  | k + 1 => kOcF wt k + kOpn (wt k)
def kOc (wt : Int → Int) (k : Int) : Int := kOcF wt k.toNat
theorem kOc_0 (wt : Int → Int) : kOc wt 0 = 0 := rfl
theorem kOc_s {wt : Int → Int} {k : Int} (h : 0 ≤ k) : kOc wt (k + 1) = kOc wt k + kOpn (wt k) := by
  unfold kOc
  rw [show (k + 1).toNat = k.toNat + 1 by omega]
  show kOcF wt k.toNat + kOpn (wt (k.toNat : Int)) = _
  rw [Int.toNat_of_nonneg h]
theorem kOcF_rng (wt : Int → Int) : ∀ k : Nat, 0 ≤ kOcF wt k ∧ kOcF wt k ≤ k := by
  intro k
  induction k with
  | zero => exact ⟨Int.le_refl 0, Int.le_refl 0⟩
  | succ k ih =>
    have q := kOpn_rng (wt k)
    show 0 ≤ kOcF wt k + kOpn (wt k) ∧ kOcF wt k + kOpn (wt k) ≤ ((k + 1 : Nat) : Int)
    omega
theorem kOc_rng (wt : Int → Int) {k : Int} (h : 0 ≤ k) : 0 ≤ kOc wt k ∧ kOc wt k ≤ k := by
  have q := kOcF_rng wt k.toNat
  unfold kOc
  omega
theorem kOcF_zU {wt : Int → Int} {j v : Int} : ∀ k : Nat, (k : Int) ≤ j → kOcF (zU wt j v) k = kOcF wt k := by
  intro k
  induction k with
  | zero => intro _; rfl
  | succ k ih =>
    intro h
    show kOcF (zU wt j v) k + kOpn (zU wt j v k) = kOcF wt k + kOpn (wt k)
    rw [ih (by omega), zU_n (by omega)]
theorem kOc_zU {wt : Int → Int} {j v k : Int} (h0 : 0 ≤ k) (h : k ≤ j) : kOc (zU wt j v) k = kOc wt k := kOcF_zU _ (by omega)
/-- all that binds at least so tightly ends, from the last that waits -/
def kSetF (wt : Int → Int) (b : Int) : Nat → (Int → Int) → (Int → Int) → Int → Int × (Int → Int) × (Int → Int) × Int
  | 0, op, od, cz => (0, op, od, cz)
  | k + 1, op, od, cz => if b ≤ kBn (wt k) then kSetF wt b k (aOp op cz (wt k)) (aOp od cz 0) (aCz cz) else (((k + 1 : Nat) : Int), op, od, cz)
def kSet (wt : Int → Int) (b k : Int) (op od : Int → Int) (cz : Int) : Int × (Int → Int) × (Int → Int) × Int := kSetF wt b k.toNat op od cz
theorem kSet_0 {wt : Int → Int} {b k : Int} {op od : Int → Int} {cz : Int} (h : k = 0) : kSet wt b k op od cz = (k, op, od, cz) := by
  subst h
  rfl
theorem kSet_f {wt : Int → Int} {b k : Int} {op od : Int → Int} {cz : Int} (h : 0 < k) (q : ¬ b ≤ kBn (wt (k - 1))) : kSet wt b k op od cz = (k, op, od, cz) := by
  unfold kSet
  obtain ⟨j, rfl⟩ : ∃ j : Nat, k = ((j + 1 : Nat) : Int) := ⟨(k - 1).toNat, by omega⟩
  rw [show (((j + 1 : Nat) : Int)).toNat = j + 1 by omega]
  show (if b ≤ kBn (wt j) then _ else _) = _
  rw [if_neg (by rw [show ((j + 1 : Nat) : Int) - 1 = (j : Int) by omega] at q; exact q)]
theorem kSet_t {wt : Int → Int} {b k : Int} {op od : Int → Int} {cz : Int} (h : 0 < k) (q : b ≤ kBn (wt (k - 1))) : kSet wt b k op od cz = kSet wt b (k - 1) (aOp op cz (wt (k - 1))) (aOp od cz 0) (aCz cz) := by
  unfold kSet
  obtain ⟨j, rfl⟩ : ∃ j : Nat, k = ((j + 1 : Nat) : Int) := ⟨(k - 1).toNat, by omega⟩
  rw [show (((j + 1 : Nat) : Int)).toNat = j + 1 by omega, show (((j + 1 : Nat) : Int) - 1) = (j : Int) by omega, show ((j : Int)).toNat = j by omega]
  show (if b ≤ kBn (wt j) then _ else _) = _
  rw [if_pos (by rw [show ((j + 1 : Nat) : Int) - 1 = (j : Int) by omega] at q; exact q)]
/-- what ends with a binding of one or more is open only as a - of a U or an else -/
theorem kOpn_bn {x b : Int} (h : 1 ≤ b) (q : b ≤ kBn x) : kOpn x = if x = 126 ∨ x = 11 then 1 else 0 := by
  unfold kBn at q
  unfold kOpn
  by_cases h1 : x = 126
  · rw [if_pos (Or.inl h1), if_pos (Or.inl h1)]
  · by_cases h2 : x = 11
    · rw [if_pos (Or.inr (Or.inl h2)), if_pos (Or.inr h2)]
    · rw [if_neg h1] at q
      by_cases h3 : x = 42 ∨ x = 47 ∨ x = 37
      · rw [if_neg (by omega), if_neg (by omega)]
      · rw [if_neg h3] at q
        by_cases h4 : x = 43 ∨ x = 45
        · rw [if_neg (by omega), if_neg (by omega)]
        · rw [if_neg h4] at q
          by_cases h5 : x = 60 ∨ x = 61
          · rw [if_neg (by omega), if_neg (by omega)]
          · rw [if_neg h5, if_neg h2] at q
            omega
theorem kTop_rng {wt : Int → Int} {k : Int} (h : ∀ j : Int, 0 ≤ j ∧ j < 40 → -128 ≤ wt j ∧ wt j < 128) (hk : 0 ≤ k ∧ k ≤ 40) : -128 ≤ kTop wt k ∧ kTop wt k < 128 := by
  unfold kTop
  by_cases q : 0 < k
  · rw [if_pos q]
    exact h (k - 1) (by omega)
  · rw [if_neg q]
    omega
def oOpen (wh tc : Int) (wt : Int → Int) (wc r st2 tc2 : Int) (wt2 : Int → Int) (wc2 : Int) : Prop := (r = 4 ∧ (40 < tc + 1 ∨ 20 ≤ kOc wt wc)) ∨ (r = 0 ∧ ¬ 40 < tc + 1 ∧ ¬ 20 ≤ kOc wt wc ∧ st2 = 0 ∧ tc2 = tc + 1 ∧ wt2 = zU wt wc wh ∧ wc2 = wc + 1)
def oEmit (ov dv tc : Int) (wt : Int → Int) (wc : Int) (op od : Int → Int) (cz r st2 tc2 wc2 : Int) (op2 od2 : Int → Int) (cz2 : Int) : Prop := (r = 4 ∧ 40 < tc + 1) ∨ (r = 5 ∧ ¬ 40 < tc + 1 ∧ 2147483647 < dv) ∨ (r = 0 ∧ ¬ 40 < tc + 1 ∧ ¬ 2147483647 < dv ∧ st2 = 3 ∧ tc2 = tc + 1 ∧ (wc2, op2, od2, cz2) = kSet wt 5 wc (aOp op cz ov) (aOp od cz dv) (aCz cz))
def xInv (wt : Int → Int) (wc tc oc cz : Int) : Prop := (0 ≤ wc ∧ wc ≤ tc ∧ tc ≤ 40) ∧ oc = kOc wt wc ∧ (0 ≤ cz ∧ cz ≤ 3000) ∧ (∀ j : Int, 0 ≤ j ∧ j < 40 → -128 ≤ wt j ∧ wt j < 128)
theorem wt_rng {wt : Int → Int} {k v : Int} (h : ∀ j : Int, 0 ≤ j ∧ j < 40 → -128 ≤ wt j ∧ wt j < 128) (hv : -128 ≤ v ∧ v < 128) : ∀ j : Int, 0 ≤ j ∧ j < 40 → -128 ≤ zU wt k v j ∧ zU wt k v j < 128 := by
  intro j hj
  by_cases q : j = k
  · rw [q, zU_s]
    exact hv
  · rw [zU_n q]
    exact h j hj
theorem kOc_put {wt : Int → Int} {k v : Int} (h : 0 ≤ k) : kOc (zU wt k v) (k + 1) = kOc wt k + kOpn v := by
  rw [kOc_s h, zU_s, kOc_zU h (by omega)]
theorem kOc_pop {wt : Int → Int} {k : Int} (h : 0 < k) : kOc wt (k - 1) + kOpn (kTop wt k) = kOc wt k := by
  have z := kOc_s (wt := wt) (k := k - 1) (by omega)
  rw [show k - 1 + 1 = k by omega] at z
  unfold kTop
  rw [if_pos h]
  omega
theorem kTop_pos {wt : Int → Int} {k : Int} (h0 : 0 ≤ k) (h : ¬ kTop wt k = -1) : 0 < k := by
  unfold kTop at h
  by_cases q : 0 < k
  · exact q
  · rw [if_neg q] at h
    exact absurd rfl h
def oBin (b kd tc : Int) (wt : Int → Int) (wc : Int) (op od : Int → Int) (cz r st2 tc2 : Int) (wt2 : Int → Int) (wc2 : Int) (op2 od2 : Int → Int) (cz2 : Int) : Prop := (r = 4 ∧ 40 < tc + 1) ∨ (r = 0 ∧ ¬ 40 < tc + 1 ∧ st2 = 0 ∧ tc2 = tc + 1 ∧ ∃ wc1 : Int, (wc1, op2, od2, cz2) = kSet wt b wc op od cz ∧ wt2 = zU wt wc1 kd ∧ wc2 = wc1 + 1)
def oCmp (kd tc : Int) (wt : Int → Int) (wc : Int) (op od : Int → Int) (cz r st2 tc2 : Int) (wt2 : Int → Int) (wc2 : Int) (op2 od2 : Int → Int) (cz2 : Int) : Prop := ∃ wc1 : Int, (wc1, op2, od2, cz2) = kSet wt 3 wc op od cz ∧ ((r = 1 ∧ kBn (kTop wt wc1) = 2) ∨ (r = 4 ∧ ¬ kBn (kTop wt wc1) = 2 ∧ 40 < tc + 1) ∨ (r = 0 ∧ ¬ kBn (kTop wt wc1) = 2 ∧ ¬ 40 < tc + 1 ∧ st2 = 0 ∧ tc2 = tc + 1 ∧ wt2 = zU wt wc1 kd ∧ wc2 = wc1 + 1))
def oTurn (fr to tc : Int) (wt : Int → Int) (wc : Int) (op od : Int → Int) (cz r st2 tc2 : Int) (wt2 : Int → Int) (wc2 : Int) (op2 od2 : Int → Int) (cz2 : Int) : Prop := ∃ wc1 : Int, (wc1, op2, od2, cz2) = kSet wt 1 wc op od cz ∧ ((r = 1 ∧ ¬ kTop wt wc1 = fr) ∨ (r = 4 ∧ kTop wt wc1 = fr ∧ 40 < tc + 1) ∨ (r = 0 ∧ kTop wt wc1 = fr ∧ ¬ 40 < tc + 1 ∧ st2 = 0 ∧ tc2 = tc + 1 ∧ wt2 = zU wt (wc1 - 1) to ∧ wc2 = wc1))
def oClose (tc : Int) (wt : Int → Int) (wc : Int) (op od : Int → Int) (cz r st2 tc2 wc2 : Int) (op2 od2 : Int → Int) (cz2 : Int) : Prop := ∃ (wc1 : Int) (op1 od1 : Int → Int) (cz1 : Int), (wc1, op1, od1, cz1) = kSet wt 1 wc op od cz ∧ ((r = 1 ∧ ¬ kTop wt wc1 = 40) ∨ (r = 4 ∧ kTop wt wc1 = 40 ∧ 40 < tc + 1) ∨ (r = 0 ∧ kTop wt wc1 = 40 ∧ ¬ 40 < tc + 1 ∧ st2 = 3 ∧ tc2 = tc + 1 ∧ (wc2, op2, od2, cz2) = kSet wt 5 (wc1 - 1) op1 od1 cz1))
def oFin (tg ru : Int) (wt : Int → Int) (wc : Int) (op od : Int → Int) (cz : Int) (ce ec : Int → Int) (r ic wc2 : Int) (op2 od2 : Int → Int) (cz2 : Int) (ce2 ec2 : Int → Int) (ic2 : Int) : Prop := (wc2, op2, od2, cz2) = kSet wt 1 wc op od cz ∧ ((r = 1 ∧ 0 < wc2 ∧ ce2 = ce ∧ ec2 = ec ∧ ic2 = ic) ∨ (r = 0 ∧ wc2 = 0 ∧ ce2 = zU ce tg cz2 ∧ ec2 = zU ec ru (ec ru + 1) ∧ ic2 = 1))
def oOccN (nu tc : Int) (cc : Int → Int) (ru r st st2 tc2 xop xop2 : Int) : Prop := (r = 3 ∧ cc ru < nu) ∨ (r = 4 ∧ nu ≤ cc ru ∧ 40 < tc + 1) ∨ (r = 0 ∧ nu ≤ cc ru ∧ ¬ 40 < tc + 1 ∧ st2 = 1 ∧ tc2 = tc + 1 ∧ xop2 = nu)
def oOccD (kd tc r st2 tc2 : Int) : Prop := (r = 1 ∧ ¬ kd = 46) ∨ (r = 4 ∧ kd = 46 ∧ 40 < tc + 1) ∨ (r = 0 ∧ kd = 46 ∧ ¬ 40 < tc + 1 ∧ st2 = 2 ∧ tc2 = tc + 1)
/-- which attribute of the symbol at a place of a rule a name is; -1 without -/
def kAtt (rs ac an : Int → Int) (ru k nm : Int) : Int := kFnd (fun j => an (6 * rs (4 * ru + k) + j)) (ac (rs (4 * ru + k))) nm 0
theorem kAtt_rng {rs ac : Int → Int} (an : Int → Int) {ru k : Int} (nm : Int) (h : ∀ j : Int, 0 ≤ j ∧ j < 120 → 0 ≤ rs j ∧ rs j < 12) (h2 : ∀ j : Int, 0 ≤ j ∧ j < 12 → 0 ≤ ac j ∧ ac j ≤ 6) (h3 : 0 ≤ ru ∧ ru < 30) (h4 : 0 ≤ k ∧ k < 4) : kAtt rs ac an ru k nm = -1 ∨ (0 ≤ kAtt rs ac an ru k nm ∧ kAtt rs ac an ru k nm < ac (rs (4 * ru + k)) ∧ kAtt rs ac an ru k nm < 6) := by
  have z := h (4 * ru + k) (by omega)
  have z2 := h2 (rs (4 * ru + k)) z
  unfold kAtt
  rcases kFnd_rng (fun j => an (6 * rs (4 * ru + k) + j)) (ac (rs (4 * ru + k))) nm 0 with q | q
  · exact Or.inl q
  · exact Or.inr ⟨q.1, q.2.1, by omega⟩
def oOccA (kd at_ xop tg tc : Int) (hgs wt : Int → Int) (wc : Int) (op od : Int → Int) (cz r : Int) (hgs2 : Int → Int) (st2 tc2 wc2 : Int) (op2 od2 : Int → Int) (cz2 : Int) : Prop := (r = 1 ∧ ¬ kd = 1) ∨ (r = 3 ∧ kd = 1 ∧ at_ = -1) ∨ (kd = 1 ∧ ¬ at_ = -1 ∧ hgs2 = zU hgs tg (orI (hgs tg) (shlI 1 (6 * xop + at_))) ∧ oEmit 46 (6 * xop + at_) tc wt wc op od cz r st2 tc2 wc2 op2 od2 cz2)
theorem open_inv {wh tc : Int} {wt : Int → Int} {wc r st2 tc2 : Int} {wt2 : Int → Int} {wc2 oc oc2 cz : Int} (h : oOpen wh tc wt wc r st2 tc2 wt2 wc2) (h1 : r = 0 → oc2 = kOc wt2 wc2) (hI : xInv wt wc tc oc cz) (hw : -128 ≤ wh ∧ wh < 128) (hr : r = 0) : xInv wt2 wc2 tc2 oc2 cz := by
  obtain ⟨a1, a2, a3, a4⟩ := hI
  rcases h with h | ⟨-, q1, q2, q3, q4, q5, q6⟩
  · omega
  · have z := h1 hr
    subst q5
    exact ⟨by omega, z, a3, wt_rng a4 hw⟩
theorem emit_inv {ov dv tc : Int} {wt : Int → Int} {wc : Int} {op od : Int → Int} {cz r st2 tc2 wc2 : Int} {op2 od2 : Int → Int} {cz2 oc oc2 : Int} (h : oEmit ov dv tc wt wc op od cz r st2 tc2 wc2 op2 od2 cz2) (h1 : r = 0 → 0 ≤ wc2 ∧ wc2 ≤ wc ∧ oc2 = kOc wt wc2 ∧ 0 ≤ cz2 ∧ cz2 ≤ 3000 ∧ kBn (kTop wt wc2) < 5) (hI : xInv wt wc tc oc cz) (hr : r = 0) : xInv wt wc2 tc2 oc2 cz2 := by
  obtain ⟨a1, a2, a3, a4⟩ := hI
  obtain ⟨z1, z2, z3, z4, z5, z6⟩ := h1 hr
  rcases h with h | h | ⟨-, q1, q2, q3, q4, q5⟩
  · omega
  · omega
  · exact ⟨by omega, z3, by omega, a4⟩
theorem occN_inv {nu tc : Int} {cc : Int → Int} {ru r st st2 tc2 xop xop2 : Int} {wt : Int → Int} {wc oc cz : Int} (h : oOccN nu tc cc ru r st st2 tc2 xop xop2) (hI : xInv wt wc tc oc cz) (hr : r = 0) : xInv wt wc tc2 oc cz := by
  obtain ⟨a1, a2, a3, a4⟩ := hI
  rcases h with h | h | ⟨-, q1, q2, q3, q4, q5⟩
  · omega
  · omega
  · exact ⟨by omega, a2, a3, a4⟩
def oOpd (kd : Int) (dot : Prop) (nu tc : Int) (cc : Int → Int) (ru : Int) (wt : Int → Int) (wc : Int) (op od : Int → Int) (cz st xop r st2 tc2 xop2 : Int) (wt2 : Int → Int) (wc2 : Int) (op2 od2 : Int → Int) (cz2 : Int) : Prop :=
  (kd = 2 ∧ dot ∧ (wt2 = wt ∧ wc2 = wc ∧ op2 = op ∧ od2 = od ∧ cz2 = cz) ∧ oOccN nu tc cc ru r st st2 tc2 xop xop2)
  ∨ (kd = 2 ∧ ¬ dot ∧ (wt2 = wt ∧ xop2 = xop) ∧ oEmit 2 nu tc wt wc op od cz r st2 tc2 wc2 op2 od2 cz2)
  ∨ (kd = 8 ∧ (wt2 = wt ∧ xop2 = xop) ∧ oEmit 8 0 tc wt wc op od cz r st2 tc2 wc2 op2 od2 cz2)
  ∨ (kd = 40 ∧ (xop2 = xop ∧ op2 = op ∧ od2 = od ∧ cz2 = cz) ∧ oOpen 40 tc wt wc r st2 tc2 wt2 wc2)
  ∨ (kd = 45 ∧ (xop2 = xop ∧ op2 = op ∧ od2 = od ∧ cz2 = cz) ∧ oOpen 126 tc wt wc r st2 tc2 wt2 wc2)
  ∨ (kd = 9 ∧ kBn (kTop wt wc) ≤ 1 ∧ (xop2 = xop ∧ op2 = op ∧ od2 = od ∧ cz2 = cz) ∧ oOpen 9 tc wt wc r st2 tc2 wt2 wc2)
  ∨ (kd = 9 ∧ ¬ kBn (kTop wt wc) ≤ 1 ∧ r = 1)
  ∨ (¬ (kd = 2 ∨ kd = 8 ∨ kd = 40 ∨ kd = 45 ∨ kd = 9) ∧ r = 1)
def oOpr (kd tc : Int) (wt : Int → Int) (wc : Int) (op od : Int → Int) (cz : Int) (ce ec : Int → Int) (ru tg st ic r st2 tc2 : Int) (wt2 : Int → Int) (wc2 : Int) (op2 od2 : Int → Int) (cz2 : Int) (ce2 ec2 : Int → Int) (ic2 : Int) : Prop :=
  ((kd = 37 ∨ kd = 42 ∨ kd = 47) ∧ (ce2 = ce ∧ ec2 = ec ∧ ic2 = ic) ∧ oBin 4 kd tc wt wc op od cz r st2 tc2 wt2 wc2 op2 od2 cz2)
  ∨ ((kd = 43 ∨ kd = 45) ∧ (ce2 = ce ∧ ec2 = ec ∧ ic2 = ic) ∧ oBin 3 kd tc wt wc op od cz r st2 tc2 wt2 wc2 op2 od2 cz2)
  ∨ ((kd = 60 ∨ kd = 61) ∧ (ce2 = ce ∧ ec2 = ec ∧ ic2 = ic) ∧ oCmp kd tc wt wc op od cz r st2 tc2 wt2 wc2 op2 od2 cz2)
  ∨ (kd = 41 ∧ (ce2 = ce ∧ ec2 = ec ∧ ic2 = ic ∧ wt2 = wt) ∧ oClose tc wt wc op od cz r st2 tc2 wc2 op2 od2 cz2)
  ∨ (kd = 10 ∧ (ce2 = ce ∧ ec2 = ec ∧ ic2 = ic) ∧ oTurn 9 10 tc wt wc op od cz r st2 tc2 wt2 wc2 op2 od2 cz2)
  ∨ (kd = 11 ∧ (ce2 = ce ∧ ec2 = ec ∧ ic2 = ic) ∧ oTurn 10 11 tc wt wc op od cz r st2 tc2 wt2 wc2 op2 od2 cz2)
  ∨ (kd = 59 ∧ (wt2 = wt ∧ st2 = st ∧ tc2 = tc) ∧ oFin tg ru wt wc op od cz ce ec r ic wc2 op2 od2 cz2 ce2 ec2 ic2)
  ∨ (¬ (kd = 37 ∨ kd = 42 ∨ kd = 47 ∨ kd = 43 ∨ kd = 45 ∨ kd = 60 ∨ kd = 61 ∨ kd = 41 ∨ kd = 10 ∨ kd = 11 ∨ kd = 59) ∧ r = 1)
/-- what holds of every place of the codes -/
def PK (op od : Int → Int) : Prop := ∀ j : Int, 0 ≤ j ∧ j < 3000 → (-128 ≤ op j ∧ op j < 128) ∧ (op j = 46 → 0 ≤ od j ∧ od j < 24)
theorem aOp_pk {op od : Int → Int} {cz v w : Int} (h : PK op od) (hv : -128 ≤ v ∧ v < 128) (hw : v = 46 → 0 ≤ w ∧ w < 24) : PK (aOp op cz v) (aOp od cz w) := by
  unfold aOp
  by_cases q : cz < 3000
  · rw [if_pos q, if_pos q]
    intro j hj
    by_cases z : j = cz
    · rw [z, zU_s, zU_s]
      exact ⟨hv, hw⟩
    · rw [zU_n z, zU_n z]
      exact h j hj
  · rw [if_neg q, if_neg q]
    exact h
theorem kSetF_pk {wt : Int → Int} {b : Int} (hw : ∀ j : Int, 0 ≤ j ∧ j < 40 → -128 ≤ wt j ∧ wt j < 128) : ∀ (k : Nat) (op od : Int → Int) (cz : Int), k ≤ 40 → PK op od → PK (kSetF wt b k op od cz).2.1 (kSetF wt b k op od cz).2.2.1 := by
  intro k
  induction k with
  | zero => intro op od cz _ h; exact h
  | succ k ih =>
    intro op od cz hk h
    by_cases q : b ≤ kBn (wt k)
    · have e : kSetF wt b (k + 1) op od cz = kSetF wt b k (aOp op cz (wt k)) (aOp od cz 0) (aCz cz) := if_pos q
      rw [e]
      exact ih _ _ _ (by omega) (aOp_pk h (hw k (by omega)) (fun _ => by omega))
    · have e : kSetF wt b (k + 1) op od cz = (((k + 1 : Nat) : Int), op, od, cz) := if_neg q
      rw [e]
      exact h
theorem kSet_pk {wt : Int → Int} {b k : Int} {op od : Int → Int} {cz w1 : Int} {o1 d1 : Int → Int} {z1 : Int} (h : (w1, o1, d1, z1) = kSet wt b k op od cz) (hw : ∀ j : Int, 0 ≤ j ∧ j < 40 → -128 ≤ wt j ∧ wt j < 128) (hk : 0 ≤ k ∧ k ≤ 40) (hp : PK op od) : PK o1 d1 := by
  have z := kSetF_pk (b := b) hw k.toNat op od cz (by omega) hp
  have e : kSetF wt b k.toNat op od cz = (w1, o1, d1, z1) := h.symm
  rw [e] at z
  exact z
