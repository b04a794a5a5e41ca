theorem zU_le {f : Int → Int} {i v j m : Int} (h : f j ≤ m) (hv : v ≤ m) : zU f i v j ≤ m := by
  unfold zU
  split <;> omega
/-! of TOKENS: ranges, what a kind tells -/
theorem kKw_rng (v : Int) : kKw v = 1 ∨ (3 ≤ kKw v ∧ kKw v ≤ 11) := by
  unfold kKw
  repeat' split
  all_goals omega
theorem kLk_rng (n v : Int) : kLk n v = -1 ∨ kLk n v = 1 ∨ (3 ≤ kLk n v ∧ kLk n v ≤ 11) := by
  have z := kKw_rng v
  unfold kLk
  repeat' split
  all_goals omega
theorem kKA_rng {tx : Int → Int} {n a : Int} (h : ∀ j : Int, 0 ≤ j ∧ j < 3000 → -128 ≤ tx j ∧ tx j < 128) (ha : 0 ≤ a) (hn : n ≤ 3000) : -128 ≤ kKA tx n a ∧ kKA tx n a < 128 := by
  have z := kLk_rng (kRun isLt tx n a - a) (kCv tx n a 0)
  repeat rw [kKA_eq]
  by_cases q : n ≤ a
  · rw [if_pos q]
    omega
  · have z2 := h a (by omega)
    rw [if_neg q]
    repeat' split
    all_goals omega
theorem kKA_nm {tx : Int → Int} {n a : Int} (h : kKA tx n a = 1) : a < n ∧ isLt (tx a) = true ∧ kRun isLt tx n a - a ≤ 8 := by
  rw [kKA_eq] at h
  by_cases q : n ≤ a
  · rw [if_pos q] at h
    omega
  · rw [if_neg q] at h
    by_cases q2 : isLt (tx a) = true
    · rw [if_pos q2] at h
      refine ⟨by omega, q2, ?_⟩
      unfold kLk at h
      by_cases q3 : 8 < kRun isLt tx n a - a
      · rw [if_pos q3] at h
        omega
      · omega
    · rw [if_neg q2] at h
      by_cases q3 : isDg (tx a) = true
      · rw [if_pos q3] at h
        omega
      · rw [if_neg q3] at h
        by_cases q4 : isSg (tx a) = true
        · rw [if_pos q4] at h
          have z := isSg_t.mp q4
          omega
        · rw [if_neg q4] at h
          omega
theorem kKA_nu {tx : Int → Int} {n a : Int} (h : kKA tx n a = 2) : a < n ∧ isDg (tx a) = true := by
  have z := kLk_rng (kRun isLt tx n a - a) (kCv tx n a 0)
  rw [kKA_eq] at h
  by_cases q : n ≤ a
  · rw [if_pos q] at h
    omega
  · rw [if_neg q] at h
    by_cases q2 : isLt (tx a) = true
    · rw [if_pos q2] at h
      omega
    · rw [if_neg q2] at h
      by_cases q3 : isDg (tx a) = true
      · exact ⟨by omega, q3⟩
      · rw [if_neg q3] at h
        by_cases q4 : isSg (tx a) = true
        · rw [if_pos q4] at h
          have z := isSg_t.mp q4
          omega
        · rw [if_neg q4] at h
          omega
theorem kCvF_ge (tx : Int → Int) (n : Int) : ∀ (k : Nat) (a v : Int), 0 ≤ v → 0 ≤ kCvF tx n k a v := by
  intro k
  induction k with
  | zero => intro a v h; exact h
  | succ k ih =>
    intro a v h
    show 0 ≤ (if a < n ∧ isLt (tx a) = true then kCvF tx n k (a + 1) (256 * v + tx a) else v)
    by_cases q : a < n ∧ isLt (tx a) = true
    · have z := isLt_t.mp q.2
      rw [if_pos q]
      exact ih _ _ (by omega)
    · rw [if_neg q]
      exact h
theorem kCv_ge (tx : Int → Int) (n a : Int) : 0 ≤ kCv tx n a 0 := by
  rw [kCv_eq]
  exact kCvF_ge tx n _ a 0 (by omega)
/-- the end of a text is no byte's; all else is at least one byte -/
theorem kBA_rng {tx : Int → Int} {n a : Int} (h : a ≤ n) : a ≤ kBA tx n a ∧ kBA tx n a ≤ n ∧ (a < n → a + 1 ≤ kBA tx n a) := by
  repeat rw [kBA_eq]
  by_cases q : n ≤ a
  · rw [if_pos q]
    omega
  · rw [if_neg q]
    by_cases q2 : isLt (tx a) = true
    · rw [if_pos q2, kRun_t (by omega) q2]
      have z := kRun_in (pq := isLt) (tx := tx) (n := n) (a := a + 1) (by omega)
      omega
    · rw [if_neg q2]
      by_cases q3 : isDg (tx a) = true
      · rw [if_pos q3, kRun_t (by omega) q3]
        have z := kRun_in (pq := isDg) (tx := tx) (n := n) (a := a + 1) (by omega)
        omega
      · rw [if_neg q3]
        omega
theorem kKA_0 {tx : Int → Int} {n a : Int} (h : kKA tx n a = 0) : n ≤ a := by
  have z := kLk_rng (kRun isLt tx n a - a) (kCv tx n a 0)
  rw [kKA_eq] at h
  by_cases q : n ≤ a
  · exact q
  · rw [if_neg q] at h
    by_cases q2 : isLt (tx a) = true
    · rw [if_pos q2] at h
      omega
    · rw [if_neg q2] at h
      by_cases q3 : isDg (tx a) = true
      · rw [if_pos q3] at h
        omega
      · rw [if_neg q3] at h
        by_cases q4 : isSg (tx a) = true
        · rw [if_pos q4] at h
          have z := isSg_t.mp q4
          omega
        · rw [if_neg q4] at h
          omega
/-- a NAME's number, out of what next says of it -/
theorem tok_nm {tx : Int → Int} {n a nm : Int} (h : a < n ∧ isLt (tx a) = true ∧ kRun isLt tx n a - a ≤ 8 → nm = kCv tx n a 0) (hk : kKA tx n a = 1) : nm = kCv tx n a 0 := h (kKA_nm hk)
theorem tok_nu {tx : Int → Int} {n a nu : Int} (h : a < n ∧ isDg (tx a) = true → nu = kDv tx n a 0) (hk : kKA tx n a = 2) : nu = kDv tx n a 0 := h (kKA_nu hk)
