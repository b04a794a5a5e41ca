/-! the reference's TOKENS, over the same row of bytes -/
def kLo (x : Int) : Int := if 97 ≤ x ∧ x ≤ 122 then x - 96 else if 65 ≤ x ∧ x ≤ 90 then x - 38 else 0
theorem kLo_rng (x : Int) : 0 ≤ kLo x ∧ kLo x ≤ 52 := by
  unfold kLo
  repeat' split
  all_goals omega
theorem kLo_pos {x : Int} : 0 < kLo x ↔ isLt x = true := by
  rw [isLt_t]
  unfold kLo
  repeat' split
  all_goals omega
def kWd (v : Int) : Int := if v = 79437 then 0 else if v = 37768 then 1 else if v = 79438 then 2 else if v = 4805381 then 3 else if v = 21380 then 4 else if v = 62926 then 5 else if v = 582 then 6 else if v = 5275982 then 7 else if v = 1361093 then 8 else -1
theorem kWd_rng (v : Int) : -1 ≤ kWd v ∧ kWd v ≤ 8 := by
  unfold kWd
  repeat' split
  all_goals omega
def kMvF (tx : Int → Int) (n : Int) : Nat → Int → Int → Int → Int
  | 0, _, v, _ => v
  | m + 1, a, v, k => if a < n ∧ isLt (tx a) = true then kMvF tx n m (a + 1) (if k < 8 then 64 * v + kLo (tx a) else v) (k + 1) else v
theorem kMv_ex : ∃ g : (Int → Int) → Int → Int → Int → Int → Int, ∀ (tx : Int → Int) (n a v k : Int), g tx n a v k = kMvF tx n (n - a).toNat a v k := ⟨fun (tx : Int → Int) (n a v k : Int) => kMvF tx n (n - a).toNat a v k, fun _ _ _ _ _ => rfl⟩
noncomputable def kMv : (Int → Int) → Int → Int → Int → Int → Int := Classical.choose kMv_ex
theorem kMv_eq : ∀ (tx : Int → Int) (n a v k : Int), kMv tx n a v k = kMvF tx n (n - a).toNat a v k := Classical.choose_spec kMv_ex
theorem kMv_t {tx : Int → Int} {n a v k : Int} (h : a < n) (h2 : isLt (tx a) = true) : kMv tx n a v k = kMv tx n (a + 1) (if k < 8 then 64 * v + kLo (tx a) else v) (k + 1) := by
  repeat rw [kMv_eq]
  obtain ⟨m, hm⟩ : ∃ m : Nat, (n - a).toNat = m + 1 := ⟨(n - a).toNat - 1, by omega⟩
  rw [hm, show (n - (a + 1)).toNat = m by omega]
  show (if a < n ∧ isLt (tx a) = true then _ else v) = _
  rw [if_pos ⟨h, h2⟩]
theorem kMv_f {tx : Int → Int} {n a v k : Int} (h : ¬ (a < n ∧ isLt (tx a) = true)) : kMv tx n a v k = v := by
  repeat rw [kMv_eq]
  cases (n - a).toNat with
  | zero => rfl
  | succ m => exact if_neg h
def p64 (k : Int) : Int := 64 ^ k.toNat
theorem p64_0 : p64 0 = 1 := rfl
theorem p64_s {k : Int} (h : 0 ≤ k) : p64 (k + 1) = p64 k * 64 := by
  unfold p64
  rw [show (k + 1).toNat = k.toNat + 1 by omega, Int.pow_succ]
theorem p64_8 {k : Int} (h : 0 ≤ k ∧ k ≤ 8) : p64 k ≤ 281474976710656 := by
  have q : k = 0 ∨ k = 1 ∨ k = 2 ∨ k = 3 ∨ k = 4 ∨ k = 5 ∨ k = 6 ∨ k = 7 ∨ k = 8 := by omega
  rcases q with rfl | rfl | rfl | rfl | rfl | rfl | rfl | rfl | rfl <;> decide
theorem p64_4 {k : Int} (h : 0 ≤ k ∧ k ≤ 4) : p64 k ≤ 16777216 := by
  have q : k = 0 ∨ k = 1 ∨ k = 2 ∨ k = 3 ∨ k = 4 := by omega
  rcases q with rfl | rfl | rfl | rfl | rfl <;> decide
def kMw (len v : Int) : Int := if 4 < len then -1 else kWd v
def kMs (len v : Int) : Int := if 0 ≤ kMw len v then 2 else if 8 < len then 5 else 1
def kMt (len v : Int) : Int := if 0 ≤ kMw len v then kMw len v else v
/-- the last of the first n places that holds x; -1 without -/
def kLstF (f : Int → Int) (x : Int) : Nat → Int
  | 0 => -1
  | k + 1 => if f k = x then (k : Int) else kLstF f x k
theorem kLst_ex : ∃ g : (Int → Int) → Int → Int → Int, ∀ (f : Int → Int) (n x : Int), g f n x = kLstF f x n.toNat := ⟨fun (f : Int → Int) (n x : Int) => kLstF f x n.toNat, fun _ _ _ => rfl⟩
noncomputable def kLst : (Int → Int) → Int → Int → Int := Classical.choose kLst_ex
theorem kLst_eq : ∀ (f : Int → Int) (n x : Int), kLst f n x = kLstF f x n.toNat := Classical.choose_spec kLst_ex
theorem kLst_0 (f : Int → Int) (x : Int) : kLst f 0 x = -1 := by
  rw [kLst_eq]
  rfl
theorem kLst_s {f : Int → Int} {k x : Int} (h : 0 ≤ k) : kLst f (k + 1) x = if f k = x then k else kLst f k x := by
  repeat rw [kLst_eq]
  rw [show (k + 1).toNat = k.toNat + 1 by omega]
  show (if f (k.toNat : Int) = x then (k.toNat : Int) else kLstF f x k.toNat) = _
  rw [Int.toNat_of_nonneg h]
