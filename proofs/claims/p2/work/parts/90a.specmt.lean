/-! the reference's tests: ranks, graphs -/
theorem kCt_s {f : Int → Int} {a k : Int} (h : 0 ≤ k) : kCt f a (k + 1) = kCt f a k + (if f (a + k) = 1 then 1 else 0) := by
  unfold kCt
  rw [show (k + 1).toNat = k.toNat + 1 by omega]
  show kCtF f a k.toNat + (if f (a + (k.toNat : Int)) = 1 then 1 else 0) = _
  rw [Int.toNat_of_nonneg h]
theorem kCt_1 {f : Int → Int} {a k : Int} (h : 0 ≤ k) (q : f (a + k) = 1) : kCt f a (k + 1) = kCt f a k + 1 := by rw [kCt_s h, if_pos q]
theorem kCt_n {f : Int → Int} {a k : Int} (h : 0 ≤ k) (q : ¬ f (a + k) = 1) : kCt f a (k + 1) = kCt f a k := by rw [kCt_s h, if_neg q, Int.add_zero]
theorem kCt_0 (f : Int → Int) (a : Int) : kCt f a 0 = 0 := rfl
theorem kCt_mono {f : Int → Int} {b a : Int} (h : 0 ≤ a) : ∀ k : Nat, kCt f b a ≤ kCt f b (a + k) ∧ a - kCt f b a ≤ a + k - kCt f b (a + k) := by
  intro k
  induction k with
  | zero =>
    rw [show a + ((0 : Nat) : Int) = a by omega]
    omega
  | succ k ih =>
    rw [show a + ((k + 1 : Nat) : Int) = a + k + 1 by omega, kCt_s (by omega)]
    split <;> omega
theorem rk_lt {f : Int → Int} {b a n : Int} (h : 0 ≤ a ∧ a < n) : (f (b + a) = 1 → kCt f b a < kCt f b n) ∧ (¬ f (b + a) = 1 → a - kCt f b a < n - kCt f b n) := by
  have z := kCt_mono (f := f) (b := b) (a := a + 1) (by omega) (n - (a + 1)).toNat
  rw [show a + 1 + (((n - (a + 1)).toNat : Nat) : Int) = n by omega] at z
  exact ⟨fun q => by rw [kCt_1 h.1 q] at z; omega, fun q => by rw [kCt_n h.1 q] at z; omega⟩
