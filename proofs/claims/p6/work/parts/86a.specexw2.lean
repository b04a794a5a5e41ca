/-! of the signs of an expression -/
theorem kLv_c {c : Int} (h : 1 ≤ kLv c) : 37 ≤ c ∧ c ≤ 61 := by
  unfold kLv at h
  split at h
  · omega
  · split at h
    · omega
    · split at h
      · omega
      · omega
theorem kLv_b {c l : Int} (h : l = kLv c) (h1 : 1 ≤ l) : kBn c = l + 1 := by
  have z := kLv_bn c
  omega
theorem kLv_0 {c : Int} (h : 0 = kLv c) : ¬ (2 ≤ kBn c ∧ kBn c ≤ 4) := by
  have z := kLv_bn c
  omega
