/-! a text's TOKENS depend on its first n bytes alone -/
theorem kRun_cg {pq : Int → Bool} {tx tx2 : Int → Int} {n : Int} (h : ∀ j : Int, j < n → tx j = tx2 j) : ∀ (k : Nat) (a : Int), (n - a).toNat = k → kRun pq tx n a = kRun pq tx2 n a := by
  intro k
  induction k with
  | zero => intro a hk; rw [kRun_f (by omega), kRun_f (by omega)]
  | succ k ih =>
    intro a hk
    by_cases q : a < n ∧ pq (tx a) = true
    · rw [kRun_t q.1 q.2, kRun_t q.1 (by rw [← h a q.1]; exact q.2)]
      exact ih (a + 1) (by omega)
    · rw [kRun_f q, kRun_f (fun z => q ⟨z.1, by rw [h a z.1]; exact z.2⟩)]
theorem kDv_cg {tx tx2 : Int → Int} {n : Int} (h : ∀ j : Int, j < n → tx j = tx2 j) : ∀ (k : Nat) (a v : Int), (n - a).toNat = k → kDv tx n a v = kDv tx2 n a v := by
  intro k
  induction k with
  | zero => intro a v hk; rw [kDv_f (by omega), kDv_f (by omega)]
  | succ k ih =>
    intro a v hk
    by_cases q : a < n ∧ isDg (tx a) = true
    · rw [kDv_t q.1 q.2, kDv_t q.1 (by rw [← h a q.1]; exact q.2), h a q.1]
      exact ih (a + 1) _ (by omega)
    · rw [kDv_f q, kDv_f (fun z => q ⟨z.1, by rw [h a z.1]; exact z.2⟩)]
theorem kCv_cg {tx tx2 : Int → Int} {n : Int} (h : ∀ j : Int, j < n → tx j = tx2 j) : ∀ (k : Nat) (a v : Int), (n - a).toNat = k → kCv tx n a v = kCv tx2 n a v := by
  intro k
  induction k with
  | zero => intro a v hk; rw [kCv_f (by omega), kCv_f (by omega)]
  | succ k ih =>
    intro a v hk
    by_cases q : a < n ∧ isLt (tx a) = true
    · rw [kCv_t q.1 q.2, kCv_t q.1 (by rw [← h a q.1]; exact q.2), h a q.1]
      exact ih (a + 1) _ (by omega)
    · rw [kCv_f q, kCv_f (fun z => q ⟨z.1, by rw [h a z.1]; exact z.2⟩)]
theorem kKA_cg {tx tx2 : Int → Int} {n a : Int} (h : ∀ j : Int, j < n → tx j = tx2 j) : kKA tx n a = kKA tx2 n a := by
  rw [kKA_eq, kKA_eq]
  by_cases q : n ≤ a
  · rw [if_pos q, if_pos q]
  · rw [if_neg q, if_neg q, h a (by omega), kRun_cg h _ a rfl, kCv_cg h _ a 0 rfl]
theorem kBA_cg {tx tx2 : Int → Int} {n a : Int} (h : ∀ j : Int, j < n → tx j = tx2 j) : kBA tx n a = kBA tx2 n a := by
  rw [kBA_eq, kBA_eq]
  by_cases q : n ≤ a
  · rw [if_pos q, if_pos q]
  · rw [if_neg q, if_neg q, h a (by omega), kRun_cg (pq := isLt) h _ a rfl, kRun_cg (pq := isDg) h _ a rfl]
theorem stp_cg {tx tx2 : Int → Int} {n : Int} (h : ∀ j : Int, j < n → tx j = tx2 j) (S : Nat → Int → Int) (r : Int) (S2 : Nat → Int → Int) : STEP tx n S r S2 = STEP tx2 n S r S2 := by
  have e1 : kRun isBl tx n = kRun isBl tx2 n := funext fun a => kRun_cg h _ a rfl
  have e2 : kBA tx n = kBA tx2 n := funext fun a => kBA_cg h
  have e3 : kKA tx n = kKA tx2 n := funext fun a => kKA_cg h
  have e4 : kCv tx n = kCv tx2 n := funext fun a => funext fun v => kCv_cg h _ a v rfl
  have e5 : kDv tx n = kDv tx2 n := funext fun a => funext fun v => kDv_cg h _ a v rfl
  have e6 : ∀ a : Int, (a < n ∧ tx a = 46) = (a < n ∧ tx2 a = 46) := fun a => propext ⟨fun z => ⟨z.1, (h a z.1).symm.trans z.2⟩, fun z => ⟨z.1, (h a z.1).trans z.2⟩⟩
  unfold STEP STEPf
  rw [e1, e2, e3, e4, e5, e6]
theorem run_cg {tx tx2 : Int → Int} {n : Int} (h : ∀ j : Int, j < n → tx j = tx2 j) : ∀ (k : Nat) (S : Nat → Int → Int) (f p : Int) (e : Nat → Int → Int), RUN tx n k S f p e → RUN tx2 n k S f p e := by
  have e1 : kRun isBl tx n = kRun isBl tx2 n := funext fun a => kRun_cg h _ a rfl
  intro k
  induction k with
  | zero => intro S f p e z; exact z
  | succ k ih =>
    intro S f p e z
    obtain ⟨r, S2, z1, z2⟩ := z
    refine ⟨r, S2, by rw [← stp_cg h]; exact z1, ?_⟩
    rcases z2 with z2 | z2 | z2
    · exact Or.inl ⟨z2.1, z2.2.1, by rw [← e1]; exact z2.2.2⟩
    · exact Or.inr (Or.inl z2)
    · exact Or.inr (Or.inr ⟨z2.1, z2.2.1, ih S2 f p e z2.2.2⟩)
/-- the reading depends on a text's first n bytes alone -/
theorem res_cg {tx tx2 : Int → Int} {n : Int} (h : ∀ j : Int, j < n → tx j = tx2 j) {S : Nat → Int → Int} {f p : Int} {e : Nat → Int → Int} (z : RES tx n S f p e) : RES tx2 n S f p e := by
  obtain ⟨k, z⟩ := z
  exact ⟨k, run_cg h k S f p e z⟩
