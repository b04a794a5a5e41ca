/-! a tree that is being read -/
def TRN (N n rc : Int) (zr za zp zm zc cc rs : Int → Int) : Prop := (1 ≤ N ∧ N ≤ 200) ∧ (-1 ≤ n ∧ n < N) ∧ ∀ k : Int, 0 ≤ k ∧ k < N → (0 ≤ zr k ∧ zr k < rc) ∧ (0 ≤ zm k ∧ zm k ≤ cc (zr k)) ∧ ((za k = -1 ∧ rs (4 * zr k) = 0) ∨ ((0 ≤ za k ∧ za k < k) ∧ (1 ≤ zp k ∧ zp k ≤ zm (za k)) ∧ rs (4 * zr (za k) + zp k) = rs (4 * zr k))) ∧ (∀ c : Int, 1 ≤ c ∧ c ≤ zm k → (0 ≤ zc (4 * k + c) ∧ zc (4 * k + c) < N) ∧ rs (4 * zr (zc (4 * k + c))) = rs (4 * zr k + c)) ∧ (zm k < cc (zr k) → k ≤ n ∧ ∀ j : Int, k < j ∧ j < N → k ≤ za j)
section TRN
variable {N n rc rl : Int} {zr za zp zm zc cc rs nr na np nc : Int → Int}
theorem trn_root (hr : 0 ≤ rl ∧ rl < rc) (h0 : rs (4 * rl) = 0) (hC : ∀ j : Int, 0 ≤ j ∧ j < rc → 0 ≤ cc j ∧ cc j ≤ 3) : TRN 1 0 rc (zU zr 0 rl) (zU za 0 (-1)) (zU zp 0 0) (zU zm 0 0) zc cc rs := by
  refine ⟨by omega, by omega, fun k hk => ?_⟩
  have e : k = 0 := by omega
  subst e
  have y := hC rl hr
  rw [zU_s, zU_s, zU_s]
  exact ⟨hr, by omega, Or.inl ⟨rfl, h0⟩, fun c hc => absurd hc (by omega), fun _ => ⟨by omega, fun j hj => absurd hj (by omega)⟩⟩
theorem trn_child (h : TRN N n rc zr za zp zm zc cc rs) (hn : 0 ≤ n) (hl : zm n < cc (zr n)) (hN : N < 200) (hr : 0 ≤ rl ∧ rl < rc) (hs : rs (4 * rl) = rs (4 * zr n + zm n + 1)) (hC : ∀ j : Int, 0 ≤ j ∧ j < rc → 0 ≤ cc j ∧ cc j ≤ 3) : TRN (N + 1) N rc (zU zr N rl) (zU za N n) (zU zp N (zm n + 1)) (zU (zU zm N 0) n (zm n + 1)) (zU zc (4 * n + (zm n + 1)) N) cc rs := by
  obtain ⟨a, b, g⟩ := h
  have hn9 := g n ⟨hn, b.2⟩
  have hcn := hC (zr n) hn9.1
  have hcl := hC rl hr
  have mN : zU (zU zm N 0) n (zm n + 1) N = 0 := by rw [zU_n (by omega), zU_s]
  have mn : zU (zU zm N 0) n (zm n + 1) n = zm n + 1 := zU_s _ _ _
  have mk : ∀ k : Int, ¬ k = N → ¬ k = n → zU (zU zm N 0) n (zm n + 1) k = zm k := fun k h1 h2 => by rw [zU_n h2, zU_n h1]
  generalize zU (zU zm N 0) n (zm n + 1) = zm2 at mN mn mk ⊢
  refine ⟨by omega, by omega, fun k hk => ?_⟩
  by_cases q : k = N
  · subst q
    rw [mN, zU_s, zU_s, zU_s, mn, zU_n (f := zr) (j := n) (by omega)]
    refine ⟨hr, by omega, Or.inr ⟨by omega, by omega, ?_⟩, fun c hc => absurd hc (by omega), fun _ => ⟨by omega, fun j hj => absurd hj (by omega)⟩⟩
    rw [show 4 * zr n + (zm n + 1) = 4 * zr n + zm n + 1 by omega]
    exact hs.symm
  · obtain ⟨k1, k2, k3, k4, k5⟩ := g k (by omega)
    have hck := hC (zr k) k1
    rw [zU_n (f := zr) (j := k) q, zU_n (f := za) (j := k) q, zU_n (f := zp) (j := k) q]
    have hm : zm k ≤ zm2 k ∧ zm2 k ≤ cc (zr k) := by
      by_cases q2 : k = n
      · rw [q2, mn]
        omega
      · rw [mk k q q2]
        omega
    refine ⟨k1, by omega, ?_, fun c hc => ?_, fun hi => ⟨by omega, fun j hj => ?_⟩⟩
    · rcases k3 with k3 | ⟨k3, k6, k7⟩
      · exact Or.inl k3
      · rw [zU_n (f := zr) (j := za k) (by omega)]
        refine Or.inr ⟨k3, ?_, k7⟩
        by_cases q2 : za k = n
        · rw [q2, mn]
          rw [q2] at k6
          omega
        · rw [mk (za k) (by omega) q2]
          exact k6
    · by_cases q2 : k = n ∧ c = zm n + 1
      · obtain ⟨q2, q3⟩ := q2
        subst q2 q3
        rw [zU_s, zU_s]
        refine ⟨by omega, ?_⟩
        rw [show 4 * zr k + (zm k + 1) = 4 * zr k + zm k + 1 by omega]
        exact hs
      · have hc2 : c ≤ zm k := by
          by_cases q3 : k = n
          · rw [q3, mn] at hc
            rw [q3]
            have q4 : ¬ c = zm n + 1 := fun z => q2 ⟨q3, z⟩
            omega
          · rw [mk k q q3] at hc
            exact hc.2
        have y := k4 c (by omega)
        have q5 : ¬ 4 * k + c = 4 * n + (zm n + 1) := by
          intro z
          have q6 : k = n := by omega
          exact q2 ⟨q6, by rw [q6] at z; omega⟩
        rw [zU_n (f := zc) q5, zU_n (f := zr) (by omega)]
        exact ⟨by omega, y.2⟩
    · have y := k5 (by omega)
      by_cases q2 : j = N
      · rw [q2, zU_s]
        exact y.1
      · rw [zU_n q2]
        exact y.2 j (by omega)
theorem trn_up (h : TRN N n rc zr za zp zm zc cc rs) (hn : 0 ≤ n) (hl : ¬ zm n < cc (zr n)) : TRN N (za n) rc zr za zp zm zc cc rs := by
  obtain ⟨a, b, g⟩ := h
  have hn9 := (g n ⟨hn, b.2⟩).2.2.1
  refine ⟨a, by omega, fun k hk => ?_⟩
  obtain ⟨k1, k2, k3, k4, k5⟩ := g k hk
  refine ⟨k1, k2, k3, k4, fun hi => ?_⟩
  have y := k5 hi
  have q : ¬ k = n := fun z => hl (by rw [← z]; exact hi)
  exact ⟨y.2 n (by omega), y.2⟩
/-- the rows of the tree are those that were read -/
def CPY (i : Int) (nr na np nc zr za zp zc : Int → Int) : Prop := ∀ j : Int, 0 ≤ j ∧ j < i → (nr j = zr j ∧ na j = za j ∧ np j = zp j) ∧ nc (4 * j) = j ∧ ∀ c : Int, 1 ≤ c ∧ c ≤ 3 → nc (4 * j + c) = zc (4 * j + c)
theorem trn_fin (h : TRN N n rc zr za zp zm zc cc rs) (hn : n < 0) (hC : ∀ j : Int, 0 ≤ j ∧ j < rc → 0 ≤ cc j ∧ cc j ≤ 3) (hc : CPY N nr na np nc zr za zp zc) : TRI N rc nr na np nc cc rs := by
  obtain ⟨a, b, g⟩ := h
  have full : ∀ k : Int, 0 ≤ k ∧ k < N → zm k = cc (zr k) := fun k hk => by
    obtain ⟨k1, k2, k3, k4, k5⟩ := g k hk
    by_cases q : zm k < cc (zr k)
    · have y := k5 q
      omega
    · omega
  intro k hk
  obtain ⟨k1, k2, k3, k4, k5⟩ := g k hk
  obtain ⟨⟨c1, c2, c3⟩, c4, c5⟩ := hc k hk
  rw [c1, c2, c3]
  refine ⟨k1, c4, ?_, fun c hcc => ?_⟩
  · rcases k3 with k3 | ⟨k3, k6, k7⟩
    · exact Or.inl k3
    · rw [(hc (za k) (by omega)).1.1]
      have y := full (za k) (by omega)
      exact Or.inr ⟨k3, by omega, k7⟩
  · have y := full k hk
    have y2 := hC (zr k) k1
    have z := k4 c (by omega)
    rw [c5 c (by omega), (hc _ z.1).1.1]
    exact z
theorem cpy_s {i g0 g1 g2 : Int} {nc2 : Int → Int} (h : CPY i nr na np nc zr za zp zc) (e0 : g0 = zr i) (e1 : g1 = za i) (e2 : g2 = zp i) (h4 : ∀ j : Int, j < 4 * i → nc2 j = nc j) (h5 : nc2 (4 * i) = i) (h6 : ∀ c : Int, 1 ≤ c ∧ c < 4 → nc2 (4 * i + c) = zc (4 * i + c)) : CPY (i + 1) (zU nr i g0) (zU na i g1) (zU np i g2) nc2 zr za zp zc := by
  subst e0 e1 e2
  intro j hj
  by_cases q : j = i
  · subst q
    rw [zU_s, zU_s, zU_s]
    exact ⟨⟨rfl, rfl, rfl⟩, h5, fun c hc => h6 c (by omega)⟩
  · rw [zU_n q, zU_n q, zU_n q]
    have y := h j (by omega)
    refine ⟨y.1, by rw [h4 _ (by omega)]; exact y.2.1, fun c hc => ?_⟩
    rw [h4 _ (by omega)]
    exact y.2.2 c hc
theorem cpy_0 : CPY 0 nr na np nc zr za zp zc := fun j hj => absurd hj (by omega)
end TRN
