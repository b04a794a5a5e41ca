/-! plain facts: what a fresh object's calls answer -/
theorem nnF {x : Int32} (a : ¬ x < 0) (b : ¬ 0 ≤ x) : False := by
  rw [Int32.lt_iff_toInt_lt] at a
  rw [Int32.le_iff_toInt_le] at b
  omega
def inI (v l h : Int32) : Int32 := if l ≤ v ∧ v ≤ h then 1 else 0
theorem inI_a {v l h : Int32} (c : v < l) : (0 : Int32) = inI v l h := by
  unfold inI
  rw [if_neg]
  rintro ⟨a, _⟩
  rw [Int32.lt_iff_toInt_lt] at c
  rw [Int32.le_iff_toInt_le] at a
  omega
theorem inI_b {v l h : Int32} (c : h < v) : (0 : Int32) = inI v l h := by
  unfold inI
  rw [if_neg]
  rintro ⟨_, a⟩
  rw [Int32.lt_iff_toInt_lt] at c
  rw [Int32.le_iff_toInt_le] at a
  omega
theorem inI_t {v l h : Int32} (c : ¬ v < l) (d : ¬ h < v) : (1 : Int32) = inI v l h := by
  unfold inI
  rw [if_pos]
  rw [Int32.lt_iff_toInt_lt] at c d
  rw [Int32.le_iff_toInt_le, Int32.le_iff_toInt_le]
  omega
theorem inI_e {v l h : Int32} (c : h < l) : inI v l h = 0 := by
  unfold inI
  rw [if_neg]
  rintro ⟨a, b⟩
  rw [Int32.lt_iff_toInt_lt] at c
  rw [Int32.le_iff_toInt_le] at a b
  omega
def endR (n : Int32) : Int32 := if n = 0 then 0 else -1
theorem endR_n {n : Int32} (h : n ≠ 0) : (-1 : Int32) = endR n := by
  unfold endR
  rw [if_neg h]
theorem endR_a {n : Int32} (c : n < 0) : (-1 : Int32) = endR n := endR_n (fun h => absurd (h ▸ c) (by decide))
theorem endR_0 {n : Int32} (a : ¬ n < 0) (b : n ≤ 0) : n = 0 := by
  rw [Int32.lt_iff_toInt_lt] at a
  rw [Int32.le_iff_toInt_le] at b
  have z : (0 : Int32).toInt = 0 := by decide
  exact Int32.toInt_inj.mp (by omega)
theorem endR_b {n : Int32} (b : ¬ n ≤ 0) : (-1 : Int32) = endR n := endR_n (fun h => by subst h; exact b (by decide))
theorem endM_0 {n r : Int32} (hw : r = inI n 0 0) (c : ¬ r = 0) : n = 0 := by
  subst hw
  unfold inI at c
  by_cases h : 0 ≤ n ∧ n ≤ 0
  · exact endR_0 (fun q => by rw [Int32.lt_iff_toInt_lt] at q; have h1 := Int32.le_iff_toInt_le.mp h.1; omega) h.2
  · rw [if_neg h] at c
    exact absurd rfl c
theorem endM_a {n r : Int32} (hw : r = inI n 0 0) (c : r = 0) : (-1 : Int32) = endR n := by
  refine endR_n (fun h => ?_)
  subst h
  rw [hw] at c
  exact absurd c (by decide)
def aboutR (n : Int32) : Int32 := if n = 0 ∨ n = 1 ∨ n = 2 ∨ n = 3 ∨ n = 4 then 0 else -1
theorem aboutR_n {n : Int32} (a : ¬ n = 0) (b : ¬ n = 1) (c : ¬ n = 2) (d : ¬ n = 3) (f : ¬ n = 4) : (-1 : Int32) = aboutR n := by
  unfold aboutR
  rw [if_neg]
  rintro (h | h | h | h | h)
  · exact a h
  · exact b h
  · exact c h
  · exact d h
  · exact f h
theorem sw_0_4 {n : Int32} (a : ¬ n = 0) (b : ¬ n = 1) (c : ¬ n = 2) (d : ¬ n = 3) (f : ¬ n = 4) : n.toInt < 0 ∨ 4 < n.toInt := by
  rcases Classical.em (n.toInt < 0 ∨ 4 < n.toInt) with h | h
  · exact h
  · exfalso
    have q : n.toInt = 0 ∨ n.toInt = 1 ∨ n.toInt = 2 ∨ n.toInt = 3 ∨ n.toInt = 4 := by omega
    rcases q with q | q | q | q | q
    · exact a (Int32.toInt_inj.mp (q.trans (by decide)))
    · exact b (Int32.toInt_inj.mp (q.trans (by decide)))
    · exact c (Int32.toInt_inj.mp (q.trans (by decide)))
    · exact d (Int32.toInt_inj.mp (q.trans (by decide)))
    · exact f (Int32.toInt_inj.mp (q.trans (by decide)))
/-- a script that one call fits in, of at most six ints, has six -/
theorem six_of {L : Nat} (h : L ≤ 6) (c : ¬ Int32.ofNat L - 6 < 0) : L = 6 := by
  have q : L = 0 ∨ L = 1 ∨ L = 2 ∨ L = 3 ∨ L = 4 ∨ L = 5 ∨ L = 6 := by omega
  rcases q with rfl | rfl | rfl | rfl | rfl | rfl | rfl
  · exact absurd (by decide) c
  · exact absurd (by decide) c
  · exact absurd (by decide) c
  · exact absurd (by decide) c
  · exact absurd (by decide) c
  · exact absurd (by decide) c
  · rfl
theorem lt16 {j : Nat} (h : j < 2 ^ 4) : j = 0 ∨ j = 1 ∨ j = 2 ∨ j = 3 ∨ j = 4 ∨ j = 5 ∨ j = 6 ∨ j = 7 ∨ j = 8 ∨ j = 9 ∨ j = 10 ∨ j = 11 ∨ j = 12 ∨ j = 13 ∨ j = 14 ∨ j = 15 := by omega
theorem dflX0 : ∀ j, j < 11 → defaultValue (tyX0 j) = vp_V [.null, .null, .int 0, .int 0, .int 0, .int 0, .int 0, .null, .int 0, .int 0, .int 0] j := fun j hj => match j, hj with
  | 0, _ => rfl
  | 1, _ => rfl
  | 2, _ => rfl
  | 3, _ => rfl
  | 4, _ => rfl
  | 5, _ => rfl
  | 6, _ => rfl
  | 7, _ => rfl
  | 8, _ => rfl
  | 9, _ => rfl
  | 10, _ => rfl
  | j + 11, h => absurd h (by omega)
theorem dflX1 : ∀ j, j < 18 → defaultValue (tyX1 j) = vp_V [.int 0, .null, .null, .null, .null, .null, .null, .int 0, .null, .null, .null, .null, .null, .null, .null, .null, .null, .int 0] j := fun j hj => match j, hj with
  | 0, _ => rfl
  | 1, _ => rfl
  | 2, _ => rfl
  | 3, _ => rfl
  | 4, _ => rfl
  | 5, _ => rfl
  | 6, _ => rfl
  | 7, _ => rfl
  | 8, _ => rfl
  | 9, _ => rfl
  | 10, _ => rfl
  | 11, _ => rfl
  | 12, _ => rfl
  | 13, _ => rfl
  | 14, _ => rfl
  | 15, _ => rfl
  | 16, _ => rfl
  | 17, _ => rfl
  | j + 18, h => absurd h (by omega)
theorem dflX2 : ∀ j, j < 7 → defaultValue (tyX2 j) = vp_V [.null, .null, .null, .int 0, .int 0, .int 0, .int 0] j := fun j hj => match j, hj with
  | 0, _ => rfl
  | 1, _ => rfl
  | 2, _ => rfl
  | 3, _ => rfl
  | 4, _ => rfl
  | 5, _ => rfl
  | 6, _ => rfl
  | j + 7, h => absurd h (by omega)
theorem dflX3 : ∀ j, j < 7 → defaultValue (tyX3 j) = vp_V [.null, .int 0, .int 0, .int 0, .int 0, .long 0, .long 0] j := fun j hj => match j, hj with
  | 0, _ => rfl
  | 1, _ => rfl
  | 2, _ => rfl
  | 3, _ => rfl
  | 4, _ => rfl
  | 5, _ => rfl
  | 6, _ => rfl
  | j + 7, h => absurd h (by omega)
theorem dflX4 : ∀ j, j < 6 → defaultValue (tyX4 j) = vp_V [.int 0, .null, .null, .null, .null, .null] j := fun j hj => match j, hj with
  | 0, _ => rfl
  | 1, _ => rfl
  | 2, _ => rfl
  | 3, _ => rfl
  | 4, _ => rfl
  | 5, _ => rfl
  | j + 6, h => absurd h (by omega)
theorem dflX5 : ∀ j, j < 7 → defaultValue (tyX5 j) = vp_V [.null, .null, .null, .int 0, .int 0, .int 0, .null] j := fun j hj => match j, hj with
  | 0, _ => rfl
  | 1, _ => rfl
  | 2, _ => rfl
  | 3, _ => rfl
  | 4, _ => rfl
  | 5, _ => rfl
  | 6, _ => rfl
  | j + 7, h => absurd h (by omega)
theorem dflX6 : ∀ j, j < 15 → defaultValue (tyX6 j) = vp_V [.null, .null, .int 0, .null, .null, .null, .null, .null, .null, .null, .null, .null, .null, .null, .null] j := fun j hj => match j, hj with
  | 0, _ => rfl
  | 1, _ => rfl
  | 2, _ => rfl
  | 3, _ => rfl
  | 4, _ => rfl
  | 5, _ => rfl
  | 6, _ => rfl
  | 7, _ => rfl
  | 8, _ => rfl
  | 9, _ => rfl
  | 10, _ => rfl
  | 11, _ => rfl
  | 12, _ => rfl
  | 13, _ => rfl
  | 14, _ => rfl
  | j + 15, h => absurd h (by omega)
theorem dflX7 : ∀ j, j < 14 → defaultValue (tyX7 j) = vp_V [.null, .null, .int 0, .null, .null, .null, .null, .null, .null, .null, .int 0, .null, .null, .int 0] j := fun j hj => match j, hj with
  | 0, _ => rfl
  | 1, _ => rfl
  | 2, _ => rfl
  | 3, _ => rfl
  | 4, _ => rfl
  | 5, _ => rfl
  | 6, _ => rfl
  | 7, _ => rfl
  | 8, _ => rfl
  | 9, _ => rfl
  | 10, _ => rfl
  | 11, _ => rfl
  | 12, _ => rfl
  | 13, _ => rfl
  | j + 14, h => absurd h (by omega)
theorem dflX8 : ∀ j, j < 13 → defaultValue (tyX8 j) = vp_V [.null, .int 0, .null, .null, .null, .null, .null, .null, .null, .null, .null, .int 0, .int 0] j := fun j hj => match j, hj with
  | 0, _ => rfl
  | 1, _ => rfl
  | 2, _ => rfl
  | 3, _ => rfl
  | 4, _ => rfl
  | 5, _ => rfl
  | 6, _ => rfl
  | 7, _ => rfl
  | 8, _ => rfl
  | 9, _ => rfl
  | 10, _ => rfl
  | 11, _ => rfl
  | 12, _ => rfl
  | j + 13, h => absurd h (by omega)
theorem dflX9 : ∀ j, j < 80 → defaultValue (tyX9 j) = vp_V [.null, .int 0, .null, .int 0, .null, .int 0, .int 0, .int 0, .int 0, .int 0, .long 0, .int 0, .int 0, .int 0, .int 0, .int 0, .int 0, .null, .null, .null, .null, .int 0, .null, .null, .null, .null, .null, .null, .null, .int 0, .null, .null, .int 0, .null, .null, .int 0, .int 0, .int 0, .null, .null, .int 0, .int 0, .int 0, .null, .null, .null, .null, .null, .int 0, .null, .null, .null, .null, .null, .null, .null, .null, .null, .int 0, .null, .null, .null, .null, .null, .null, .null, .int 0, .null, .int 0, .null, .null, .null, .null, .null, .int 0, .null, .null, .int 0, .null, .null] j := fun j hj => match j, hj with
  | 0, _ => rfl
  | 1, _ => rfl
  | 2, _ => rfl
  | 3, _ => rfl
  | 4, _ => rfl
  | 5, _ => rfl
  | 6, _ => rfl
  | 7, _ => rfl
  | 8, _ => rfl
  | 9, _ => rfl
  | 10, _ => rfl
  | 11, _ => rfl
  | 12, _ => rfl
  | 13, _ => rfl
  | 14, _ => rfl
  | 15, _ => rfl
  | 16, _ => rfl
  | 17, _ => rfl
  | 18, _ => rfl
  | 19, _ => rfl
  | 20, _ => rfl
  | 21, _ => rfl
  | 22, _ => rfl
  | 23, _ => rfl
  | 24, _ => rfl
  | 25, _ => rfl
  | 26, _ => rfl
  | 27, _ => rfl
  | 28, _ => rfl
  | 29, _ => rfl
  | 30, _ => rfl
  | 31, _ => rfl
  | 32, _ => rfl
  | 33, _ => rfl
  | 34, _ => rfl
  | 35, _ => rfl
  | 36, _ => rfl
  | 37, _ => rfl
  | 38, _ => rfl
  | 39, _ => rfl
  | 40, _ => rfl
  | 41, _ => rfl
  | 42, _ => rfl
  | 43, _ => rfl
  | 44, _ => rfl
  | 45, _ => rfl
  | 46, _ => rfl
  | 47, _ => rfl
  | 48, _ => rfl
  | 49, _ => rfl
  | 50, _ => rfl
  | 51, _ => rfl
  | 52, _ => rfl
  | 53, _ => rfl
  | 54, _ => rfl
  | 55, _ => rfl
  | 56, _ => rfl
  | 57, _ => rfl
  | 58, _ => rfl
  | 59, _ => rfl
  | 60, _ => rfl
  | 61, _ => rfl
  | 62, _ => rfl
  | 63, _ => rfl
  | 64, _ => rfl
  | 65, _ => rfl
  | 66, _ => rfl
  | 67, _ => rfl
  | 68, _ => rfl
  | 69, _ => rfl
  | 70, _ => rfl
  | 71, _ => rfl
  | 72, _ => rfl
  | 73, _ => rfl
  | 74, _ => rfl
  | 75, _ => rfl
  | 76, _ => rfl
  | 77, _ => rfl
  | 78, _ => rfl
  | 79, _ => rfl
  | j + 80, h => absurd h (by omega)
