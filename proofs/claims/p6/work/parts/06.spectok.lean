/-! what a text's TOKENS are, over a row of bytes tx and an end n -/
def isBl (x : Int) : Bool := decide (x = 32 ∨ x = 10)
def isLt (x : Int) : Bool := decide (97 ≤ x ∧ x ≤ 122 ∨ 65 ≤ x ∧ x ≤ 90)
def isDg (x : Int) : Bool := decide (48 ≤ x ∧ x ≤ 57)
def isSg (x : Int) : Bool := decide (x = 37 ∨ x = 40 ∨ x = 41 ∨ x = 42 ∨ x = 43 ∨ x = 45 ∨ x = 46 ∨ x = 47 ∨ x = 58 ∨ x = 59 ∨ x = 60 ∨ x = 61)
theorem isBl_t {x : Int} : isBl x = true ↔ (x = 32 ∨ x = 10) := decide_eq_true_iff
theorem isLt_t {x : Int} : isLt x = true ↔ (97 ≤ x ∧ x ≤ 122 ∨ 65 ≤ x ∧ x ≤ 90) := decide_eq_true_iff
theorem isDg_t {x : Int} : isDg x = true ↔ (48 ≤ x ∧ x ≤ 57) := decide_eq_true_iff
theorem isSg_t {x : Int} : isSg x = true ↔ (x = 37 ∨ x = 40 ∨ x = 41 ∨ x = 42 ∨ x = 43 ∨ x = 45 ∨ x = 46 ∨ x = 47 ∨ x = 58 ∨ x = 59 ∨ x = 60 ∨ x = 61) := decide_eq_true_iff
/-- the first place from a on that isn't of a kind, n at the latest -/
def kRunF (pq : Int → Bool) (tx : Int → Int) (n : Int) : Nat → Int → Int
  | 0, a => a
  | k + 1, a => if a < n ∧ pq (tx a) = true then kRunF pq tx n k (a + 1) else a
theorem kRun_ex : ∃ g : (Int → Bool) → (Int → Int) → Int → Int → Int, ∀ (pq : Int → Bool) (tx : Int → Int) (n a : Int), g pq tx n a = kRunF pq tx n (n - a).toNat a := ⟨fun (pq : Int → Bool) (tx : Int → Int) (n a : Int) => kRunF pq tx n (n - a).toNat a, fun _ _ _ _ => rfl⟩
noncomputable def kRun : (Int → Bool) → (Int → Int) → Int → Int → Int := Classical.choose kRun_ex
theorem kRun_eq : ∀ (pq : Int → Bool) (tx : Int → Int) (n a : Int), kRun pq tx n a = kRunF pq tx n (n - a).toNat a := Classical.choose_spec kRun_ex
theorem kRun_t {pq : Int → Bool} {tx : Int → Int} {n a : Int} (h : a < n) (h2 : pq (tx a) = true) : kRun pq tx n a = kRun pq tx n (a + 1) := by
  repeat rw [kRun_eq]
  obtain ⟨k, hk⟩ : ∃ k : Nat, (n - a).toNat = k + 1 := ⟨(n - a).toNat - 1, by omega⟩
  rw [hk, show (n - (a + 1)).toNat = k by omega]
  show (if a < n ∧ pq (tx a) = true then kRunF pq tx n k (a + 1) else a) = _
  rw [if_pos ⟨h, h2⟩]
theorem kRun_f {pq : Int → Bool} {tx : Int → Int} {n a : Int} (h : ¬ (a < n ∧ pq (tx a) = true)) : kRun pq tx n a = a := by
  repeat rw [kRun_eq]
  cases (n - a).toNat with
  | zero => rfl
  | succ k => exact if_neg h
theorem kRun_rng {pq : Int → Bool} {tx : Int → Int} {n : Int} : ∀ (k : Nat) (a : Int), (n - a).toNat = k → a ≤ n → a ≤ kRun pq tx n a ∧ kRun pq tx n a ≤ n := by
  intro k
  induction k with
  | zero =>
    intro a hk ha
    rw [kRun_f (by omega)]
    omega
  | succ k ih =>
    intro a hk ha
    by_cases h : a < n ∧ pq (tx a) = true
    · rw [kRun_t h.1 h.2]
      have := ih (a + 1) (by omega) (by omega)
      omega
    · rw [kRun_f h]
      omega
theorem kRun_in {pq : Int → Bool} {tx : Int → Int} {n a : Int} (h : a ≤ n) : a ≤ kRun pq tx n a ∧ kRun pq tx n a ≤ n := kRun_rng _ a rfl h
/-- the places of a run are of its kind -/
theorem kRun_all {pq : Int → Bool} {tx : Int → Int} {n : Int} : ∀ (k : Nat) (a : Int), (n - a).toNat = k → ∀ j : Int, a ≤ j → j < kRun pq tx n a → pq (tx j) = true := by
  intro k
  induction k with
  | zero =>
    intro a hk j h1 h2
    rw [kRun_f (by omega)] at h2
    omega
  | succ k ih =>
    intro a hk j h1 h2
    by_cases h : a < n ∧ pq (tx a) = true
    · rw [kRun_t h.1 h.2] at h2
      by_cases q : j = a
      · subst q
        exact h.2
      · exact ih (a + 1) (by omega) j (by omega) h2
    · rw [kRun_f h] at h2
      omega
theorem kRun_end {pq : Int → Bool} {tx : Int → Int} {n : Int} : ∀ (k : Nat) (a : Int), (n - a).toNat = k → kRun pq tx n a < n → pq (tx (kRun pq tx n a)) = false := by
  intro k
  induction k with
  | zero =>
    intro a hk h
    rw [kRun_f (by omega)] at h ⊢
    omega
  | succ k ih =>
    intro a hk h
    by_cases q : a < n ∧ pq (tx a) = true
    · rw [kRun_t q.1 q.2] at h ⊢
      exact ih (a + 1) (by omega) h
    · rw [kRun_f q] at h ⊢
      cases hb : pq (tx a) with
      | false => rfl
      | true => exact absurd ⟨h, hb⟩ q
/-- digits from a on, capped as soon as they pass 2147483647 -/
def kDvF (tx : Int → Int) (n : Int) : Nat → Int → Int → Int
  | 0, _, v => v
  | k + 1, a, v => if a < n ∧ isDg (tx a) = true then kDvF tx n k (a + 1) (if v ≤ 2147483647 then 10 * v + tx a - 48 else v) else v
theorem kDv_ex : ∃ g : (Int → Int) → Int → Int → Int → Int, ∀ (tx : Int → Int) (n a v : Int), g tx n a v = kDvF tx n (n - a).toNat a v := ⟨fun (tx : Int → Int) (n a v : Int) => kDvF tx n (n - a).toNat a v, fun _ _ _ _ => rfl⟩
noncomputable def kDv : (Int → Int) → Int → Int → Int → Int := Classical.choose kDv_ex
theorem kDv_eq : ∀ (tx : Int → Int) (n a v : Int), kDv tx n a v = kDvF tx n (n - a).toNat a v := Classical.choose_spec kDv_ex
theorem kDv_t {tx : Int → Int} {n a v : Int} (h : a < n) (h2 : isDg (tx a) = true) : kDv tx n a v = kDv tx n (a + 1) (if v ≤ 2147483647 then 10 * v + tx a - 48 else v) := by
  repeat rw [kDv_eq]
  obtain ⟨k, hk⟩ : ∃ k : Nat, (n - a).toNat = k + 1 := ⟨(n - a).toNat - 1, by omega⟩
  rw [hk, show (n - (a + 1)).toNat = k by omega]
  show (if a < n ∧ isDg (tx a) = true then _ else v) = _
  rw [if_pos ⟨h, h2⟩]
theorem kDv_f {tx : Int → Int} {n a v : Int} (h : ¬ (a < n ∧ isDg (tx a) = true)) : kDv tx n a v = v := by
  repeat rw [kDv_eq]
  cases (n - a).toNat with
  | zero => rfl
  | succ k => exact if_neg h
/-- letters from a on, 256 for each place -/
def kCvF (tx : Int → Int) (n : Int) : Nat → Int → Int → Int
  | 0, _, v => v
  | k + 1, a, v => if a < n ∧ isLt (tx a) = true then kCvF tx n k (a + 1) (256 * v + tx a) else v
theorem kCv_ex : ∃ g : (Int → Int) → Int → Int → Int → Int, ∀ (tx : Int → Int) (n a v : Int), g tx n a v = kCvF tx n (n - a).toNat a v := ⟨fun (tx : Int → Int) (n a v : Int) => kCvF tx n (n - a).toNat a v, fun _ _ _ _ => rfl⟩
noncomputable def kCv : (Int → Int) → Int → Int → Int → Int := Classical.choose kCv_ex
theorem kCv_eq : ∀ (tx : Int → Int) (n a v : Int), kCv tx n a v = kCvF tx n (n - a).toNat a v := Classical.choose_spec kCv_ex
theorem kCv_t {tx : Int → Int} {n a v : Int} (h : a < n) (h2 : isLt (tx a) = true) : kCv tx n a v = kCv tx n (a + 1) (256 * v + tx a) := by
  repeat rw [kCv_eq]
  obtain ⟨k, hk⟩ : ∃ k : Nat, (n - a).toNat = k + 1 := ⟨(n - a).toNat - 1, by omega⟩
  rw [hk, show (n - (a + 1)).toNat = k by omega]
  show (if a < n ∧ isLt (tx a) = true then _ else v) = _
  rw [if_pos ⟨h, h2⟩]
theorem kCv_f {tx : Int → Int} {n a v : Int} (h : ¬ (a < n ∧ isLt (tx a) = true)) : kCv tx n a v = v := by
  repeat rw [kCv_eq]
  cases (n - a).toNat with
  | zero => rfl
  | succ k => exact if_neg h
/-- a word of at most four letters, by its letters: its kind; 1 is a NAME -/
def kKw (v : Int) : Int := if v = 7567725 then 3 else if v = 6909544 then 4 else if v = 7567726 then 5 else if v = 1920298085 then 6 else if v = 6647396 then 7 else if v = 7305070 then 8 else if v = 26982 then 9 else if v = 1952998766 then 10 else if v = 1701606245 then 11 else 1
theorem lI_lN {n : Nat} (h : n < 2 ^ 63) : lI (n : Int) = lN n := by
  apply Int64.toInt_inj.mp
  rw [lI_toInt (by omega), pk_lT h]
theorem lI_shl8 {v : Int} (h : 0 ≤ v ∧ v < 36028797018963968) : lI v <<< ((zI 8).toInt64 &&& 63) = lI (256 * v) := by
  obtain ⟨k, rfl⟩ : ∃ k : Nat, v = k := ⟨v.toNat, by omega⟩
  rw [lI_lN (by omega), g_shl (k := 8) (p := 256) (by decide) (by decide) (by decide) (by omega), show (256 * (k : Int)) = ((k * 256 : Nat) : Int) by omega, lI_lN (by omega)]
theorem lI_or8 {v x : Int} (h : 0 ≤ v ∧ v < 36028797018963968) (hc : 0 ≤ x ∧ x < 256) : lI (256 * v) ||| lI x = lI (256 * v + x) := by
  obtain ⟨k, rfl⟩ : ∃ k : Nat, v = k := ⟨v.toNat, by omega⟩
  obtain ⟨j, rfl⟩ : ∃ j : Nat, x = j := ⟨x.toNat, by omega⟩
  rw [show (256 * (k : Int)) = ((k * 256 : Nat) : Int) by omega, lI_lN (by omega), lI_lN (by omega), g_or (k := 8) (p := 256) (by decide) (by omega) (by omega), show (((k * 256 : Nat) : Int) + (j : Int)) = ((k * 256 + j : Nat) : Int) by omega, lI_lN (by omega)]
theorem lI_of (x : Int64) : ∃ i : Int, (-9223372036854775808 ≤ i ∧ i < 9223372036854775808) ∧ x = lI i := ⟨x.toInt, ⟨by have := Int64.le_toInt x; omega, by have := Int64.toInt_lt x; omega⟩, (Int64.ofInt_toInt x).symm⟩
theorem zv_anyL {p : Program} {l : Launch} {e : Env} {R : Room} {s : State} {m : MethodId} {args : Array Value} {below : List Frame} {meth : Method} {c : Code} {H : Heap} {locs : List Loc} {cells slots : Nat} {Q : State → Prop} {pc : Nat} {ls : Array Slot} {rest : List Value} {x : Int64} (k : ∀ a : Int, (-9223372036854775808 ≤ a ∧ a < 9223372036854775808) → x = lI a → W p l e R s m args below meth c H locs cells slots Q (F0 m pc ls (.long (lI a) :: rest))) : W p l e R s m args below meth c H locs cells slots Q (F0 m pc ls (.long x :: rest)) := by
  obtain ⟨a, h, rfl⟩ := lI_of x
  exact k a h rfl
/-- how large the number of k letters can be -/
def p256 (k : Int) : Int := 256 ^ k.toNat
theorem p256_0 : p256 0 = 1 := rfl
theorem p256_s {k : Int} (h : 0 ≤ k) : p256 (k + 1) = p256 k * 256 := by
  unfold p256
  rw [show (k + 1).toNat = k.toNat + 1 by omega, Int.pow_succ]
theorem p256_7 {k : Int} (h : 0 ≤ k ∧ k ≤ 7) : p256 k ≤ 72057594037927936 := by
  have q : k = 0 ∨ k = 1 ∨ k = 2 ∨ k = 3 ∨ k = 4 ∨ k = 5 ∨ k = 6 ∨ k = 7 := by omega
  rcases q with rfl | rfl | rfl | rfl | rfl | rfl | rfl | rfl <;> decide
theorem p256_4 {k : Int} (h : 0 ≤ k ∧ k ≤ 4) : p256 k ≤ 4294967296 := by
  have q : k = 0 ∨ k = 1 ∨ k = 2 ∨ k = 3 ∨ k = 4 := by omega
  rcases q with rfl | rfl | rfl | rfl | rfl <;> decide
/-- the kind of a run of letters -/
def kLk (len v : Int) : Int := if 8 < len then -1 else if 4 < len then 1 else kKw v
theorem isBl_f {x : Int} : isBl x = false ↔ ¬ (x = 32 ∨ x = 10) := decide_eq_false_iff_not
theorem isLt_f {x : Int} : isLt x = false ↔ ¬ (97 ≤ x ∧ x ≤ 122 ∨ 65 ≤ x ∧ x ≤ 90) := decide_eq_false_iff_not
theorem isDg_f {x : Int} : isDg x = false ↔ ¬ (48 ≤ x ∧ x ≤ 57) := decide_eq_false_iff_not
theorem isSg_f {x : Int} : isSg x = false ↔ ¬ (x = 37 ∨ x = 40 ∨ x = 41 ∨ x = 42 ∨ x = 43 ∨ x = 45 ∨ x = 46 ∨ x = 47 ∨ x = 58 ∨ x = 59 ∨ x = 60 ∨ x = 61) := decide_eq_false_iff_not
/-- the kind of the TOKEN that begins at a, and the place behind it -/
theorem kKA_ex : ∃ g : (Int → Int) → Int → Int → Int, ∀ (tx : Int → Int) (n a : Int), g tx n a = if n ≤ a then 0 else if isLt (tx a) = true then kLk (kRun isLt tx n a - a) (kCv tx n a 0) else if isDg (tx a) = true then 2 else if isSg (tx a) = true then tx a else -1 := ⟨fun (tx : Int → Int) (n a : Int) => if n ≤ a then 0 else if isLt (tx a) = true then kLk (kRun isLt tx n a - a) (kCv tx n a 0) else if isDg (tx a) = true then 2 else if isSg (tx a) = true then tx a else -1, fun _ _ _ => rfl⟩
noncomputable def kKA : (Int → Int) → Int → Int → Int := Classical.choose kKA_ex
theorem kKA_eq : ∀ (tx : Int → Int) (n a : Int), kKA tx n a = if n ≤ a then 0 else if isLt (tx a) = true then kLk (kRun isLt tx n a - a) (kCv tx n a 0) else if isDg (tx a) = true then 2 else if isSg (tx a) = true then tx a else -1 := Classical.choose_spec kKA_ex
theorem kBA_ex : ∃ g : (Int → Int) → Int → Int → Int, ∀ (tx : Int → Int) (n a : Int), g tx n a = if n ≤ a then n else if isLt (tx a) = true then kRun isLt tx n a else if isDg (tx a) = true then kRun isDg tx n a else a + 1 := ⟨fun (tx : Int → Int) (n a : Int) => if n ≤ a then n else if isLt (tx a) = true then kRun isLt tx n a else if isDg (tx a) = true then kRun isDg tx n a else a + 1, fun _ _ _ => rfl⟩
noncomputable def kBA : (Int → Int) → Int → Int → Int := Classical.choose kBA_ex
theorem kBA_eq : ∀ (tx : Int → Int) (n a : Int), kBA tx n a = if n ≤ a then n else if isLt (tx a) = true then kRun isLt tx n a else if isDg (tx a) = true then kRun isDg tx n a else a + 1 := Classical.choose_spec kBA_ex
theorem kA_end {tx : Int → Int} {n a : Int} (h : n ≤ a) : kKA tx n a = 0 ∧ kBA tx n a = n := ⟨by rw [kKA_eq, if_pos h], by rw [kBA_eq, if_pos h]⟩
theorem kA_let {tx : Int → Int} {n a : Int} (h : a < n) (hl : isLt (tx a) = true) : kKA tx n a = kLk (kRun isLt tx n a - a) (kCv tx n a 0) ∧ kBA tx n a = kRun isLt tx n a := by
  repeat rw [kKA_eq]
  repeat rw [kBA_eq]
  rw [if_neg (by omega), if_pos hl, if_neg (by omega), if_pos hl]
  exact ⟨rfl, rfl⟩
theorem kA_dig {tx : Int → Int} {n a : Int} (h : a < n) (hl : isDg (tx a) = true) : kKA tx n a = 2 ∧ kBA tx n a = kRun isDg tx n a := by
  have q : ¬ isLt (tx a) = true := fun z => by
    have z1 := isLt_t.mp z
    have z2 := isDg_t.mp hl
    omega
  repeat rw [kKA_eq]
  repeat rw [kBA_eq]
  rw [if_neg (by omega), if_neg q, if_pos hl, if_neg (by omega), if_neg q, if_pos hl]
  exact ⟨rfl, rfl⟩
theorem kA_sgn {tx : Int → Int} {n a : Int} (h : a < n) (hl : isSg (tx a) = true) : kKA tx n a = tx a ∧ kBA tx n a = a + 1 := by
  have q : ¬ isLt (tx a) = true := fun z => by
    have z1 := isLt_t.mp z
    have z2 := isSg_t.mp hl
    omega
  have q2 : ¬ isDg (tx a) = true := fun z => by
    have z1 := isDg_t.mp z
    have z2 := isSg_t.mp hl
    omega
  repeat rw [kKA_eq]
  repeat rw [kBA_eq]
  rw [if_neg (by omega), if_neg q, if_neg q2, if_pos hl, if_neg (by omega), if_neg q, if_neg q2]
  exact ⟨rfl, rfl⟩
theorem kA_bad {tx : Int → Int} {n a : Int} (h : a < n) (q : ¬ isLt (tx a) = true) (q2 : ¬ isDg (tx a) = true) (q3 : ¬ isSg (tx a) = true) : kKA tx n a = -1 ∧ kBA tx n a = a + 1 := by
  repeat rw [kKA_eq]
  repeat rw [kBA_eq]
  rw [if_neg (by omega), if_neg q, if_neg q2, if_neg q3, if_neg (by omega), if_neg q, if_neg q2]
  exact ⟨rfl, rfl⟩
