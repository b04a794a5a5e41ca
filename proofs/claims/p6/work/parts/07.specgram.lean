/-! the tables of a grammar: where a name stands first; a row that is filled -/
def kFndF (f : Int → Int) (n x : Int) : Nat → Int → Int
  | 0, _ => -1
  | k + 1, a => if a < n then (if f a = x then a else kFndF f n x k (a + 1)) else -1
def kFnd (f : Int → Int) (n x a : Int) : Int := kFndF f n x (n - a).toNat a
theorem kFnd_out {f : Int → Int} {n x a : Int} (h : n ≤ a) : kFnd f n x a = -1 := by
  unfold kFnd
  rw [show (n - a).toNat = 0 by omega]
  rfl
theorem kFnd_yes {f : Int → Int} {n x a : Int} (h : a < n) (q : f a = x) : kFnd f n x a = a := by
  unfold kFnd
  obtain ⟨k, hk⟩ : ∃ k : Nat, (n - a).toNat = k + 1 := ⟨(n - a).toNat - 1, by omega⟩
  rw [hk]
  show (if a < n then (if f a = x then a else kFndF f n x k (a + 1)) else -1) = a
  rw [if_pos h, if_pos q]
theorem kFnd_no {f : Int → Int} {n x a : Int} (h : a < n) (q : ¬ f a = x) : kFnd f n x a = kFnd f n x (a + 1) := by
  unfold kFnd
  obtain ⟨k, hk⟩ : ∃ k : Nat, (n - a).toNat = k + 1 := ⟨(n - a).toNat - 1, by omega⟩
  rw [hk, show (n - (a + 1)).toNat = k by omega]
  show (if a < n then (if f a = x then a else kFndF f n x k (a + 1)) else -1) = _
  rw [if_pos h, if_neg q]
theorem kFnd_rngF {f : Int → Int} {n x : Int} : ∀ (k : Nat) (a : Int), (n - a).toNat = k → kFnd f n x a = -1 ∨ (a ≤ kFnd f n x a ∧ kFnd f n x a < n ∧ f (kFnd f n x a) = x) := by
  intro k
  induction k with
  | zero =>
    intro a hk
    exact Or.inl (kFnd_out (by omega))
  | succ k ih =>
    intro a hk
    by_cases q : f a = x
    · rw [kFnd_yes (by omega) q]
      exact Or.inr ⟨by omega, by omega, q⟩
    · rw [kFnd_no (by omega) q]
      rcases ih (a + 1) (by omega) with h | h
      · exact Or.inl h
      · exact Or.inr ⟨by omega, h.2⟩
theorem kFnd_rng (f : Int → Int) (n x a : Int) : kFnd f n x a = -1 ∨ (a ≤ kFnd f n x a ∧ kFnd f n x a < n ∧ f (kFnd f n x a) = x) := kFnd_rngF _ a rfl
def zFill (f : Int → Int) (a b v : Int) : Int → Int := fun j => if a ≤ j ∧ j < b then v else f j
theorem zFill_0 (f : Int → Int) (a v : Int) : f = zFill f a a v := by
  funext j
  unfold zFill
  rw [if_neg (by omega)]
theorem zFill_s {f : Int → Int} {a b v : Int} (h : a ≤ b) : zU (zFill f a b v) b v = zFill f a (b + 1) v := by
  funext j
  unfold zU zFill
  by_cases q : j = b
  · rw [if_pos q, if_pos (by omega)]
  · rw [if_neg q]
    by_cases z : a ≤ j ∧ j < b
    · rw [if_pos z, if_pos (by omega)]
    · rw [if_neg z, if_neg (by omega)]
theorem zFill_in {f : Int → Int} {a b v j : Int} (h : a ≤ j ∧ j < b) : zFill f a b v j = v := if_pos h
theorem zFill_out {f : Int → Int} {a b v j : Int} (h : ¬ (a ≤ j ∧ j < b)) : zFill f a b v j = f j := if_neg h
/-- the code: what is added is left out once it is full -/
def aOp (op : Int → Int) (cz v : Int) : Int → Int := if cz < 3000 then zU op cz v else op
def aCz (cz : Int) : Int := if cz < 3000 then cz + 1 else cz
theorem aCz_rng {cz : Int} (h : 0 ≤ cz ∧ cz ≤ 3000) : 0 ≤ aCz cz ∧ aCz cz ≤ 3000 ∧ cz ≤ aCz cz := by
  unfold aCz
  split <;> omega
