/-! the reference's next TOKEN -/
theorem kMS_ex : ∃ g : (Int → Int) → Int → Int → Int, ∀ (tx : Int → Int) (n a : Int), g tx n a = if n ≤ a then 0 else if isLt (tx a) = true then kMs (kRun isLt tx n a - a) (kMv tx n a 0 0) else if isDg (tx a) = true then 3 else if isSg (tx a) = true then 4 else 5 := ⟨fun (tx : Int → Int) (n a : Int) => if n ≤ a then 0 else if isLt (tx a) = true then kMs (kRun isLt tx n a - a) (kMv tx n a 0 0) else if isDg (tx a) = true then 3 else if isSg (tx a) = true then 4 else 5, fun _ _ _ => rfl⟩
noncomputable def kMS : (Int → Int) → Int → Int → Int := Classical.choose kMS_ex
theorem kMS_eq : ∀ (tx : Int → Int) (n a : Int), kMS tx n a = if n ≤ a then 0 else if isLt (tx a) = true then kMs (kRun isLt tx n a - a) (kMv tx n a 0 0) else if isDg (tx a) = true then 3 else if isSg (tx a) = true then 4 else 5 := Classical.choose_spec kMS_ex
theorem kMT_ex : ∃ g : (Int → Int) → Int → Int → Int, ∀ (tx : Int → Int) (n a : Int), g tx n a = if n ≤ a then 0 else if isLt (tx a) = true then kMt (kRun isLt tx n a - a) (kMv tx n a 0 0) else if isDg (tx a) = true then kDv tx n a 0 else tx a := ⟨fun (tx : Int → Int) (n a : Int) => if n ≤ a then 0 else if isLt (tx a) = true then kMt (kRun isLt tx n a - a) (kMv tx n a 0 0) else if isDg (tx a) = true then kDv tx n a 0 else tx a, fun _ _ _ => rfl⟩
noncomputable def kMT : (Int → Int) → Int → Int → Int := Classical.choose kMT_ex
theorem kMT_eq : ∀ (tx : Int → Int) (n a : Int), kMT tx n a = if n ≤ a then 0 else if isLt (tx a) = true then kMt (kRun isLt tx n a - a) (kMv tx n a 0 0) else if isDg (tx a) = true then kDv tx n a 0 else tx a := Classical.choose_spec kMT_ex
theorem mA_end {tx : Int → Int} {n a : Int} (h : n ≤ a) : kMS tx n a = 0 ∧ kMT tx n a = 0 ∧ kBA tx n a = n := ⟨by rw [kMS_eq, if_pos h], by rw [kMT_eq, if_pos h], by rw [kBA_eq, if_pos h]⟩
theorem mA_let {tx : Int → Int} {n a : Int} (h : a < n) (hl : isLt (tx a) = true) : kMS tx n a = kMs (kRun isLt tx n a - a) (kMv tx n a 0 0) ∧ kMT tx n a = kMt (kRun isLt tx n a - a) (kMv tx n a 0 0) ∧ kBA tx n a = kRun isLt tx n a := by
  repeat rw [kMS_eq]
  repeat rw [kMT_eq]
  rw [if_neg (by omega), if_pos hl, if_neg (by omega), if_pos hl]
  exact ⟨rfl, rfl, (kA_let h hl).2⟩
theorem mA_dig {tx : Int → Int} {n a : Int} (h : a < n) (hl : isDg (tx a) = true) : kMS tx n a = 3 ∧ kMT tx n a = kDv tx n a 0 ∧ kBA tx n a = kRun isDg tx n a := by
  have q : ¬ isLt (tx a) = true := fun z => by
    have z1 := isLt_t.mp z
    have z2 := isDg_t.mp hl
    omega
  repeat rw [kMS_eq]
  repeat rw [kMT_eq]
  rw [if_neg (by omega), if_neg q, if_pos hl, if_neg (by omega), if_neg q, if_pos hl]
  exact ⟨rfl, rfl, (kA_dig h hl).2⟩
theorem mA_oth {tx : Int → Int} {n a : Int} (h : a < n) (q : ¬ isLt (tx a) = true) (q2 : ¬ isDg (tx a) = true) : kMS tx n a = (if isSg (tx a) = true then 4 else 5) ∧ kMT tx n a = tx a ∧ kBA tx n a = a + 1 := by
  have h1 : ¬ n ≤ a := by omega
  repeat rw [kMS_eq]
  repeat rw [kMT_eq]
  rw [if_neg h1, if_neg q, if_neg q2, if_neg h1, if_neg q, if_neg q2]
  refine ⟨rfl, rfl, ?_⟩
  by_cases q3 : isSg (tx a) = true
  · exact (kA_sgn h q3).2
  · exact (kA_bad h q q2 q3).2
