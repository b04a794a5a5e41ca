/-! four bytes at the tape's end -/
def fPut (f : Int → Int) (k w : Int) : Int → Int := zU (zU (zU (zU f k (zB (shrI w 24))) (k + 1) (zB (shrI w 16))) (k + 2) (zB (shrI w 8))) (k + 3) (zB w)
theorem shrI_0 {w : Int} (h : -2147483648 ≤ w ∧ w < 2147483648) : shrI w 0 = w := by
  unfold shrI
  rw [show zI 0 = (0 : Int32) from rfl, sb_shr0, zI_toInt h]
theorem fPut_lo {f : Int → Int} {k w j : Int} (h : j < k) : fPut f k w j = f j := by
  unfold fPut
  rw [zU_n (by omega), zU_n (by omega), zU_n (by omega), zU_n (by omega)]
theorem fPut_byte {f : Int → Int} {k w : Int} (h : ∀ j : Int, 0 ≤ j ∧ j < 3000 → -128 ≤ f j ∧ f j < 128) : ∀ j : Int, 0 ≤ j ∧ j < 3000 → -128 ≤ fPut f k w j ∧ fPut f k w j < 128 := by
  intro j hj
  unfold fPut zU
  repeat' split
  all_goals first | exact zB_rng _ | exact h j hj
/-- the same on the first n places, whatever was behind -/
theorem fPut_same {f g : Int → Int} {k w : Int} (h : ∀ j : Int, 0 ≤ j ∧ j < k → f j = g j) : ∀ j : Int, 0 ≤ j ∧ j < k + 4 → fPut f k w j = fPut g k w j := by
  intro j hj
  unfold fPut zU
  repeat' split
  all_goals first | rfl | (exact h j (by omega))
def fFeed (f : Int → Int) (k a b x y z : Int) : Int → Int := fPut (fPut (fPut (fPut (fPut f k a) (k + 4) b) (k + 8) x) (k + 12) y) (k + 16) z
