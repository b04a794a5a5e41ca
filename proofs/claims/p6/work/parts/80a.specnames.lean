/-! names: the class's number and the reference's, of the same letters (the last one first) -/
def R256 : List Int → Int
  | [] => 0
  | x :: l => 256 * R256 l + x
def R64 : List Int → Int
  | [] => 0
  | x :: l => 64 * R64 l + kLo x
def LET (l : List Int) : Prop := ∀ x ∈ l, isLt x = true
def NMR (v w : Int) : Prop := ∃ l : List Int, LET l ∧ v = R256 l ∧ w = R64 l
theorem LET_c {x : Int} {l : List Int} (h : LET (x :: l)) : isLt x = true ∧ LET l := ⟨h x (List.mem_cons_self), fun y hy => h y (List.mem_cons_of_mem _ hy)⟩
theorem LET_p {x : Int} {l : List Int} (hx : isLt x = true) (h : LET l) : LET (x :: l) := fun y hy => by
  rcases List.mem_cons.mp hy with rfl | q
  · exact hx
  · exact h y q
theorem LET_n : LET [] := fun _ h => absurd h List.not_mem_nil
theorem R256_ge : ∀ l : List Int, LET l → 0 ≤ R256 l := by
  intro l
  induction l with
  | nil => intro _; exact Int.le_refl 0
  | cons x l ih =>
    intro h
    have z := isLt_t.mp (LET_c h).1
    have z2 := ih (LET_c h).2
    show 0 ≤ 256 * R256 l + x
    omega
theorem R64_ge : ∀ l : List Int, LET l → 0 ≤ R64 l := by
  intro l
  induction l with
  | nil => intro _; exact Int.le_refl 0
  | cons x l ih =>
    intro h
    have z := kLo_rng x
    have z2 := ih (LET_c h).2
    show 0 ≤ 64 * R64 l + kLo x
    omega
theorem R256_inj : ∀ l l2 : List Int, LET l → LET l2 → R256 l = R256 l2 → l = l2 := by
  intro l
  induction l with
  | nil =>
    intro l2 _ h2 e
    cases l2 with
    | nil => rfl
    | cons y l2 =>
      have z := isLt_t.mp (LET_c h2).1
      have z2 := R256_ge l2 (LET_c h2).2
      have e : 0 = 256 * R256 l2 + y := e
      omega
  | cons x l ih =>
    intro l2 h h2 e
    have y1 := isLt_t.mp (LET_c h).1
    have y2 := R256_ge l (LET_c h).2
    cases l2 with
    | nil =>
      have e : 256 * R256 l + x = 0 := e
      omega
    | cons y l2 =>
      have z := isLt_t.mp (LET_c h2).1
      have e : 256 * R256 l + x = 256 * R256 l2 + y := e
      have q : x = y := by omega
      rw [q, ih l2 (LET_c h).2 (LET_c h2).2 (by omega)]
theorem kLo_inj {x y : Int} (hx : isLt x = true) (hy : isLt y = true) (h : kLo x = kLo y) : x = y := by
  have a := isLt_t.mp hx
  have b := isLt_t.mp hy
  unfold kLo at h
  by_cases p : 97 ≤ x ∧ x ≤ 122
  · rw [if_pos p] at h
    by_cases q : 97 ≤ y ∧ y ≤ 122
    · rw [if_pos q] at h
      omega
    · rw [if_neg q, if_pos (by omega)] at h
      omega
  · rw [if_neg p, if_pos (by omega)] at h
    by_cases q : 97 ≤ y ∧ y ≤ 122
    · rw [if_pos q] at h
      omega
    · rw [if_neg q, if_pos (by omega)] at h
      omega
theorem R64_inj : ∀ l l2 : List Int, LET l → LET l2 → R64 l = R64 l2 → l = l2 := by
  intro l
  induction l with
  | nil =>
    intro l2 _ h2 e
    cases l2 with
    | nil => rfl
    | cons y l2 =>
      have z := kLo_pos.mpr (LET_c h2).1
      have z2 := R64_ge l2 (LET_c h2).2
      have e : 0 = 64 * R64 l2 + kLo y := e
      omega
  | cons x l ih =>
    intro l2 h h2 e
    have y1 := kLo_pos.mpr (LET_c h).1
    have y2 := R64_ge l (LET_c h).2
    have y3 := kLo_rng x
    cases l2 with
    | nil =>
      have e : 64 * R64 l + kLo x = 0 := e
      omega
    | cons y l2 =>
      have z := kLo_pos.mpr (LET_c h2).1
      have z3 := kLo_rng y
      have e : 64 * R64 l + kLo x = 64 * R64 l2 + kLo y := e
      have q : x = y := kLo_inj (LET_c h).1 (LET_c h2).1 (by omega)
      subst q
      rw [ih l2 (LET_c h).2 (LET_c h2).2 (by omega)]
theorem nmr_inj {v w v2 w2 : Int} (h : NMR v w) (h2 : NMR v2 w2) : v = v2 ↔ w = w2 := by
  obtain ⟨l, a, rfl, rfl⟩ := h
  obtain ⟨l2, b, rfl, rfl⟩ := h2
  constructor
  · intro e
    rw [R256_inj l l2 a b e]
  · intro e
    rw [R64_inj l l2 a b e]
theorem nmr_ge {v w : Int} (h : NMR v w) : 0 ≤ v ∧ 0 ≤ w := by
  obtain ⟨l, a, rfl, rfl⟩ := h
  exact ⟨R256_ge l a, R64_ge l a⟩
/-- a run of at most eight letters -/
theorem run_nmr {tx : Int → Int} {n : Int} : ∀ (m : Nat) (a k : Int) (l : List Int), (n - a).toNat = m → LET l → kRun isLt tx n a - a + k ≤ 8 → NMR (kCv tx n a (R256 l)) (kMv tx n a (R64 l) k) := by
  intro m
  induction m with
  | zero =>
    intro a k l hm hl _
    rw [kCv_f (by omega), kMv_f (by omega)]
    exact ⟨l, hl, rfl, rfl⟩
  | succ m ih =>
    intro a k l hm hl hk
    by_cases q : a < n ∧ isLt (tx a) = true
    · rw [kRun_t q.1 q.2] at hk
      have z := kRun_in (pq := isLt) (tx := tx) (n := n) (a := a + 1) (by omega)
      rw [kCv_t q.1 q.2, kMv_t q.1 q.2, if_pos (by omega)]
      exact ih (a + 1) (k + 1) (tx a :: l) (by omega) (LET_p q.2 hl) (by omega)
    · rw [kCv_f q, kMv_f q]
      exact ⟨l, hl, rfl, rfl⟩
theorem nmr_w {l : List Int} (h : l.all (fun x => isLt x) = true) : NMR (R256 l) (R64 l) := ⟨l, fun x hx => List.all_eq_true.mp h x hx, rfl, rfl⟩
theorem kw_wd {v w : Int} (h : NMR v w) : (kKw v = 1 ∧ kWd w = -1) ∨ ((0 ≤ kWd w ∧ kWd w ≤ 8) ∧ kKw v = kWd w + 3) := by
  have c0 : v = 7567725 ↔ w = 79437 := nmr_inj h (nmr_w (l := [109, 121, 115]) (by decide))
  have c1 : v = 6909544 ↔ w = 37768 := nmr_inj h (nmr_w (l := [104, 110, 105]) (by decide))
  have c2 : v = 7567726 ↔ w = 79438 := nmr_inj h (nmr_w (l := [110, 121, 115]) (by decide))
  have c3 : v = 1920298085 ↔ w = 4805381 := nmr_inj h (nmr_w (l := [101, 108, 117, 114]) (by decide))
  have c4 : v = 6647396 ↔ w = 21380 := nmr_inj h (nmr_w (l := [100, 110, 101]) (by decide))
  have c5 : v = 7305070 ↔ w = 62926 := nmr_inj h (nmr_w (l := [110, 119, 111]) (by decide))
  have c6 : v = 26982 ↔ w = 582 := nmr_inj h (nmr_w (l := [102, 105]) (by decide))
  have c7 : v = 1952998766 ↔ w = 5275982 := nmr_inj h (nmr_w (l := [110, 101, 104, 116]) (by decide))
  have c8 : v = 1701606245 ↔ w = 1361093 := nmr_inj h (nmr_w (l := [101, 115, 108, 101]) (by decide))
  unfold kKw kWd
  by_cases q0 : w = 79437
  · rw [if_pos q0, if_pos (c0.mpr q0)]
    omega
  rw [if_neg q0, if_neg (fun z => q0 (c0.mp z))]
  by_cases q1 : w = 37768
  · rw [if_pos q1, if_pos (c1.mpr q1)]
    omega
  rw [if_neg q1, if_neg (fun z => q1 (c1.mp z))]
  by_cases q2 : w = 79438
  · rw [if_pos q2, if_pos (c2.mpr q2)]
    omega
  rw [if_neg q2, if_neg (fun z => q2 (c2.mp z))]
  by_cases q3 : w = 4805381
  · rw [if_pos q3, if_pos (c3.mpr q3)]
    omega
  rw [if_neg q3, if_neg (fun z => q3 (c3.mp z))]
  by_cases q4 : w = 21380
  · rw [if_pos q4, if_pos (c4.mpr q4)]
    omega
  rw [if_neg q4, if_neg (fun z => q4 (c4.mp z))]
  by_cases q5 : w = 62926
  · rw [if_pos q5, if_pos (c5.mpr q5)]
    omega
  rw [if_neg q5, if_neg (fun z => q5 (c5.mp z))]
  by_cases q6 : w = 582
  · rw [if_pos q6, if_pos (c6.mpr q6)]
    omega
  rw [if_neg q6, if_neg (fun z => q6 (c6.mp z))]
  by_cases q7 : w = 5275982
  · rw [if_pos q7, if_pos (c7.mpr q7)]
    omega
  rw [if_neg q7, if_neg (fun z => q7 (c7.mp z))]
  by_cases q8 : w = 1361093
  · rw [if_pos q8, if_pos (c8.mpr q8)]
    omega
  rw [if_neg q8, if_neg (fun z => q8 (c8.mp z))]
  exact Or.inl ⟨rfl, rfl⟩
/-- a TOKEN as both have it -/
def TKR (tx : Int → Int) (n a : Int) : Prop :=
  (kMS tx n a = 0 ∧ kKA tx n a = 0 ∧ n ≤ a)
  ∨ (kMS tx n a = 1 ∧ kKA tx n a = 1 ∧ NMR (kCv tx n a 0) (kMT tx n a) ∧ a < n)
  ∨ (kMS tx n a = 2 ∧ kKA tx n a = kMT tx n a + 3 ∧ (0 ≤ kMT tx n a ∧ kMT tx n a ≤ 8) ∧ a < n)
  ∨ (kMS tx n a = 3 ∧ kKA tx n a = 2 ∧ kMT tx n a = kDv tx n a 0 ∧ a < n)
  ∨ (kMS tx n a = 4 ∧ kKA tx n a = kMT tx n a ∧ isSg (kMT tx n a) = true ∧ a < n)
  ∨ (kMS tx n a = 5 ∧ kKA tx n a = -1 ∧ a < n)
theorem tkr (tx : Int → Int) (n a : Int) : TKR tx n a := by
  rcases Int.lt_or_le a n with q | q
  · by_cases ql : isLt (tx a) = true
    · have k1 := (kA_let (tx := tx) q ql).1
      obtain ⟨m1, m2, -⟩ := mA_let (tx := tx) q ql
      by_cases q8 : 8 < kRun isLt tx n a - a
      · refine Or.inr (Or.inr (Or.inr (Or.inr (Or.inr ⟨?_, ?_, q⟩))))
        · rw [m1]
          have w0 : kMw (kRun isLt tx n a - a) (kMv tx n a 0 0) = -1 := if_pos (by omega)
          unfold kMs
          rw [w0, if_neg (by decide), if_pos q8]
        · rw [k1]
          unfold kLk
          rw [if_pos q8]
      · have z : NMR (kCv tx n a 0) (kMv tx n a 0 0) := run_nmr (n - a).toNat a 0 [] rfl LET_n (by omega)
        have z2 := kw_wd z
        by_cases q4 : 4 < kRun isLt tx n a - a
        · refine Or.inr (Or.inl ⟨?_, ?_, ?_, q⟩)
          · rw [m1]
            have w0 : kMw (kRun isLt tx n a - a) (kMv tx n a 0 0) = -1 := if_pos q4
            unfold kMs
            rw [w0, if_neg (by decide), if_neg q8]
          · rw [k1]
            unfold kLk
            rw [if_neg q8, if_pos q4]
          · rw [m2]
            have w0 : kMw (kRun isLt tx n a - a) (kMv tx n a 0 0) = -1 := if_pos q4
            unfold kMt
            rw [w0, if_neg (by decide)]
            exact z
        · have w1 : kMw (kRun isLt tx n a - a) (kMv tx n a 0 0) = kWd (kMv tx n a 0 0) := by
            unfold kMw
            rw [if_neg q4]
          have w2 : kLk (kRun isLt tx n a - a) (kCv tx n a 0) = kKw (kCv tx n a 0) := by
            unfold kLk
            rw [if_neg q8, if_neg q4]
          rcases z2 with ⟨y1, y2⟩ | ⟨y1, y2⟩
          · refine Or.inr (Or.inl ⟨?_, ?_, ?_, q⟩)
            · rw [m1]
              unfold kMs
              rw [w1, if_neg (by omega), if_neg q8]
            · rw [k1, w2]
              exact y1
            · rw [m2]
              unfold kMt
              rw [w1, if_neg (by omega)]
              exact z
          · have m3 : kMT tx n a = kWd (kMv tx n a 0 0) := by
              rw [m2]
              unfold kMt
              rw [w1, if_pos y1.1]
            refine Or.inr (Or.inr (Or.inl ⟨?_, ?_, ?_, q⟩))
            · rw [m1]
              unfold kMs
              rw [w1, if_pos y1.1]
            · rw [k1, w2, m3]
              exact y2
            · rw [m3]
              exact y1
    · by_cases qd : isDg (tx a) = true
      · obtain ⟨m1, m2, -⟩ := mA_dig (tx := tx) q qd
        exact Or.inr (Or.inr (Or.inr (Or.inl ⟨m1, (kA_dig q qd).1, m2, q⟩)))
      · obtain ⟨m1, m2, -⟩ := mA_oth (tx := tx) q ql qd
        by_cases qs : isSg (tx a) = true
        · rw [if_pos qs] at m1
          refine Or.inr (Or.inr (Or.inr (Or.inr (Or.inl ⟨m1, ?_, ?_, q⟩))))
          · rw [m2]
            exact (kA_sgn q qs).1
          · rw [m2]
            exact qs
        · rw [if_neg qs] at m1
          exact Or.inr (Or.inr (Or.inr (Or.inr (Or.inr ⟨m1, (kA_bad q ql qd qs).1, q⟩))))
  · exact Or.inl ⟨(mA_end q).1, (kA_end q).1, q⟩
