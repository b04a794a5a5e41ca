/-! the reference's tests: ranks, graphs -/
theorem kCt_s {f : Int → Int} {a k : Int} (h : 0 ≤ k) : kCt f a (k + 1) = kCt f a k + (if f (a + k) = 1 then 1 else 0) := by
  unfold kCt
  rw [show (k + 1).toNat = k.toNat + 1 by omega]
  show kCtF f a k.toNat + (if f (a + (k.toNat : Int)) = 1 then 1 else 0) = _
  rw [Int.toNat_of_nonneg h]
theorem kCt_1 {f : Int → Int} {a k : Int} (h : 0 ≤ k) (q : f (a + k) = 1) : kCt f a (k + 1) = kCt f a k + 1 := by rw [kCt_s h, if_pos q]
theorem kCt_n {f : Int → Int} {a k : Int} (h : 0 ≤ k) (q : ¬ f (a + k) = 1) : kCt f a (k + 1) = kCt f a k := by rw [kCt_s h, if_neg q, Int.add_zero]
theorem kCt_0 (f : Int → Int) (a : Int) : kCt f a 0 = 0 := rfl
theorem kCt_mono {f : Int → Int} {b a : Int} (h : 0 ≤ a) : ∀ k : Nat, kCt f b a ≤ kCt f b (a + k) ∧ a - kCt f b a ≤ a + k - kCt f b (a + k) := by
  intro k
  induction k with
  | zero =>
    rw [show a + ((0 : Nat) : Int) = a by omega]
    omega
  | succ k ih =>
    rw [show a + ((k + 1 : Nat) : Int) = a + k + 1 by omega, kCt_s (by omega)]
    split <;> omega
theorem rk_lt {f : Int → Int} {b a n : Int} (h : 0 ≤ a ∧ a < n) : (f (b + a) = 1 → kCt f b a < kCt f b n) ∧ (¬ f (b + a) = 1 → a - kCt f b a < n - kCt f b n) := by
  have z := kCt_mono (f := f) (b := b) (a := a + 1) (by omega) (n - (a + 1)).toNat
  rw [show a + 1 + (((n - (a + 1)).toNat : Nat) : Int) = n by omega] at z
  exact ⟨fun q => by rw [kCt_1 h.1 q] at z; omega, fun q => by rw [kCt_n h.1 q] at z; omega⟩
/-- the graphs that are fresh: different ones, none of them marked -/
def FRD (fs hg : Int → Int) (n : Int) : Prop := (∀ j k : Int, 0 ≤ j ∧ j < k ∧ k < n → ¬ fs j = fs k) ∧ (∀ j : Int, 0 ≤ j ∧ j < n → ¬ hg (fs j) = 1)
theorem frd_0 (fs hg : Int → Int) : FRD fs hg 0 := ⟨fun j k h => absurd h (by omega), fun j h => absurd h (by omega)⟩
theorem frd_add {fs hg : Int → Int} {n v : Int} (h : FRD fs hg n) (h0 : 0 ≤ n) (hv : ¬ hg v = 1) (hd : ∀ k : Int, 0 ≤ k ∧ k < n → ¬ fs k = v) : FRD (zU fs n v) hg (n + 1) := by
  refine ⟨fun j k hj => ?_, fun j hj => ?_⟩
  · rw [zU_n (by omega)]
    by_cases q : k = n
    · rw [q, zU_s]
      exact hd j (by omega)
    · rw [zU_n q]
      exact h.1 j k (by omega)
  · by_cases q : j = n
    · rw [q, zU_s]
      exact hv
    · rw [zU_n q]
      exact h.2 j (by omega)
theorem frd_up {fs hg : Int → Int} {n v : Int} (h : FRD fs hg n) : FRD (zU fs n v) hg n := ⟨fun j k hj => by rw [zU_n (by omega), zU_n (by omega)]; exact h.1 j k hj, fun j hj => by rw [zU_n (by omega)]; exact h.2 j hj⟩
theorem cgi_set {gc hg : Int → Int} {v : Int} (h : CGI gc hg) (hv : 0 ≤ v ∧ v < 6144) (h2 : ¬ hg v = 1) : CGI (zU gc (v / 512) (gc (v / 512) + 1)) (zU hg v 1) ∧ (0 ≤ gc (v / 512) ∧ gc (v / 512) < 512) ∧ kCt (zU hg v 1) 0 6144 = kCt hg 0 6144 + 1 := by
  have e : 512 * (v / 512) + v % 512 = v := by omega
  have z := cgi_add (g := v % 512) h (show 0 ≤ v / 512 ∧ v / 512 < 12 by omega) (by omega) (by rw [e]; exact h2)
  have z2 := cgi_lt (g := v % 512) h (show 0 ≤ v / 512 ∧ v / 512 < 12 by omega) (by omega) (by rw [e]; exact h2)
  rw [e] at z
  have y := h (v / 512) (by omega)
  have y2 := kCt_rng hg (512 * (v / 512)) (n := 512) (by omega)
  exact ⟨z, ⟨by omega, z2⟩, (kCt_set (n := 6144) (by omega) (by omega) h2).1⟩
/-- what the equations' OCCS are within -/
def OCI (rc : Int) (mef meo mem mop moa : Int → Int) : Prop := ∀ r q : Int, (0 ≤ r ∧ r < rc) → (0 ≤ q ∧ q < 24) → 0 ≤ mef (24 * r + q) → (0 ≤ meo (24 * r + q) ∧ 0 ≤ mem (24 * r + q) ∧ meo (24 * r + q) + mem (24 * r + q) ≤ 3000) ∧ ∀ j : Int, meo (24 * r + q) ≤ j ∧ j < meo (24 * r + q) + mem (24 * r + q) → (0 ≤ mop j ∧ mop j ≤ 3) ∧ (0 ≤ moa j ∧ moa j < 6)
theorem oci_eqi {rc orders occs : Int} {mef meo mem mor moo mop moa mac mcc mrs : Int → Int} (h : EQI rc orders occs mef meo mem mor moo mop moa mac mcc mrs) (ho : occs ≤ 3000) (hac : ∀ j : Int, 0 ≤ j ∧ j < 12 → 0 ≤ mac j ∧ mac j < 7) (hrs : ∀ j : Int, 0 ≤ j ∧ j < 120 → 0 ≤ mrs j ∧ mrs j < 12) (hr : rc ≤ 30) : OCI rc mef meo mem mop moa := by
  intro r q h1 h2 h3
  obtain ⟨-, b, c⟩ := h r q h1 h2 h3
  refine ⟨by omega, fun j hj => ?_⟩
  have y := c j hj
  have y2 := hrs (4 * r + mop j) (by omega)
  have y3 := hac _ y2
  omega
def kSmF (f : Int → Int) : Nat → Int
  | 0 => 0
  | k + 1 => kSmF f k + f k
def kSm (f : Int → Int) (n : Int) : Int := kSmF f n.toNat
theorem kSmF_le {f : Int → Int} {m : Int} : ∀ k : Nat, (∀ j : Int, 0 ≤ j ∧ j < k → 0 ≤ f j ∧ f j ≤ m) → 0 ≤ kSmF f k ∧ kSmF f k ≤ m * k := by
  intro k
  induction k with
  | zero => intro _; exact ⟨Int.le_refl _, by rw [show ((0 : Nat) : Int) = 0 by rfl, Int.mul_zero]; exact Int.le_refl _⟩
  | succ k ih =>
    intro h
    have z := ih (fun j hj => h j (by omega))
    have y := h k (by omega)
    have e : m * ((k + 1 : Nat) : Int) = m * k + m := by
      rw [show ((k + 1 : Nat) : Int) = (k : Int) + 1 by omega, Int.mul_add, Int.mul_one]
    show 0 ≤ kSmF f k + f k ∧ kSmF f k + f k ≤ _
    rw [e]
    omega
theorem kSm_512 {f : Int → Int} (h : BR f 12 0 512) : 0 ≤ kSm f 12 ∧ kSm f 12 ≤ 6144 := by
  have z := kSmF_le (f := f) (m := 512) 12 (fun j hj => by have y := h j hj; omega)
  exact ⟨z.1, by have y := z.2; unfold kSm; exact y⟩
theorem kSmF_out {f : Int → Int} {i v : Int} : ∀ k : Nat, (k : Int) ≤ i → kSmF (zU f i v) k = kSmF f k := by
  intro k
  induction k with
  | zero => intro _; rfl
  | succ k ih =>
    intro h
    show kSmF (zU f i v) k + zU f i v k = kSmF f k + f k
    rw [ih (by omega), zU_n (by omega)]
theorem kSmF_in {f : Int → Int} {i v : Int} : ∀ k : Nat, 0 ≤ i → i < k → kSmF (zU f i v) k = kSmF f k - f i + v := by
  intro k
  induction k with
  | zero => intro h1 h2; omega
  | succ k ih =>
    intro h1 h2
    show kSmF (zU f i v) k + zU f i v k = kSmF f k + f k - f i + v
    by_cases q : (k : Int) = i
    · rw [kSmF_out k (by omega), q, zU_s]
      omega
    · rw [ih h1 (by omega), zU_n q]
      omega
theorem kSm_in {f : Int → Int} {i v : Int} (h : 0 ≤ i ∧ i < 12) : kSm (zU f i v) 12 = kSm f 12 - f i + v := kSmF_in 12 h.1 h.2
