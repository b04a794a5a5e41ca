/-! the reference's tests: ranks, graphs -/
theorem kCt_s {f : Int → Int} {a k : Int} (h : 0 ≤ k) : kCt f a (k + 1) = kCt f a k + (if f (a + k) = 1 then 1 else 0) := by
  unfold kCt
  rw [show (k + 1).toNat = k.toNat + 1 by omega]
  show kCtF f a k.toNat + (if f (a + (k.toNat : Int)) = 1 then 1 else 0) = _
  rw [Int.toNat_of_nonneg h]
theorem kCt_1 {f : Int → Int} {a k : Int} (h : 0 ≤ k) (q : f (a + k) = 1) : kCt f a (k + 1) = kCt f a k + 1 := by rw [kCt_s h, if_pos q]
theorem kCt_n {f : Int → Int} {a k : Int} (h : 0 ≤ k) (q : ¬ f (a + k) = 1) : kCt f a (k + 1) = kCt f a k := by rw [kCt_s h, if_neg q, Int.add_zero]
theorem kCt_0 (f : Int → Int) (a : Int) : kCt f a 0 = 0 := rfl
theorem kCt_mono {f : Int → Int} {b a : Int} (h : 0 ≤ a) : ∀ k : Nat, kCt f b a ≤ kCt f b (a + k) ∧ a - kCt f b a ≤ a + k - kCt f b (a + k) := by
  intro k
  induction k with
  | zero =>
    rw [show a + ((0 : Nat) : Int) = a by omega]
    omega
  | succ k ih =>
    rw [show a + ((k + 1 : Nat) : Int) = a + k + 1 by omega, kCt_s (by omega)]
    split <;> omega
theorem rk_lt {f : Int → Int} {b a n : Int} (h : 0 ≤ a ∧ a < n) : (f (b + a) = 1 → kCt f b a < kCt f b n) ∧ (¬ f (b + a) = 1 → a - kCt f b a < n - kCt f b n) := by
  have z := kCt_mono (f := f) (b := b) (a := a + 1) (by omega) (n - (a + 1)).toNat
  rw [show a + 1 + (((n - (a + 1)).toNat : Nat) : Int) = n by omega] at z
  exact ⟨fun q => by rw [kCt_1 h.1 q] at z; omega, fun q => by rw [kCt_n h.1 q] at z; omega⟩
/-- the graphs that are fresh: different ones, none of them marked -/
def FRD (fs hg : Int → Int) (n : Int) : Prop := (∀ j k : Int, 0 ≤ j ∧ j < k ∧ k < n → ¬ fs j = fs k) ∧ (∀ j : Int, 0 ≤ j ∧ j < n → ¬ hg (fs j) = 1)
theorem frd_0 (fs hg : Int → Int) : FRD fs hg 0 := ⟨fun j k h => absurd h (by omega), fun j h => absurd h (by omega)⟩
theorem frd_add {fs hg : Int → Int} {n v : Int} (h : FRD fs hg n) (h0 : 0 ≤ n) (hv : ¬ hg v = 1) (hd : ∀ k : Int, 0 ≤ k ∧ k < n → ¬ fs k = v) : FRD (zU fs n v) hg (n + 1) := by
  refine ⟨fun j k hj => ?_, fun j hj => ?_⟩
  · rw [zU_n (by omega)]
    by_cases q : k = n
    · rw [q, zU_s]
      exact hd j (by omega)
    · rw [zU_n q]
      exact h.1 j k (by omega)
  · by_cases q : j = n
    · rw [q, zU_s]
      exact hv
    · rw [zU_n q]
      exact h.2 j (by omega)
theorem frd_up {fs hg : Int → Int} {n v : Int} (h : FRD fs hg n) : FRD (zU fs n v) hg n := ⟨fun j k hj => by rw [zU_n (by omega), zU_n (by omega)]; exact h.1 j k hj, fun j hj => by rw [zU_n (by omega)]; exact h.2 j hj⟩
theorem cgi_set {gc hg : Int → Int} {v : Int} (h : CGI gc hg) (hv : 0 ≤ v ∧ v < 6144) (h2 : ¬ hg v = 1) : CGI (zU gc (v / 512) (gc (v / 512) + 1)) (zU hg v 1) ∧ (0 ≤ gc (v / 512) ∧ gc (v / 512) < 512) ∧ kCt (zU hg v 1) 0 6144 = kCt hg 0 6144 + 1 := by
  have e : 512 * (v / 512) + v % 512 = v := by omega
  have z := cgi_add (g := v % 512) h (show 0 ≤ v / 512 ∧ v / 512 < 12 by omega) (by omega) (by rw [e]; exact h2)
  have z2 := cgi_lt (g := v % 512) h (show 0 ≤ v / 512 ∧ v / 512 < 12 by omega) (by omega) (by rw [e]; exact h2)
  rw [e] at z
  have y := h (v / 512) (by omega)
  have y2 := kCt_rng hg (512 * (v / 512)) (n := 512) (by omega)
  exact ⟨z, ⟨by omega, z2⟩, (kCt_set (n := 6144) (by omega) (by omega) h2).1⟩
