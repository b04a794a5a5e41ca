/-! the reference's code: how high its stack is at each place -/
def kSgF (fr : Int → Int) : Nat → Int
  | 0 => 0
  | k + 1 => kSgF fr k + (if fr k = 6 then 1 else 0)
def kSg (fr : Int → Int) (k : Int) : Int := kSgF fr k.toNat
theorem kSg_s {fr : Int → Int} {k : Int} (h : 0 ≤ k) : kSg fr (k + 1) = kSg fr k + (if fr k = 6 then 1 else 0) := by
  unfold kSg
  rw [show (k + 1).toNat = k.toNat + 1 by omega]
  show kSgF fr k.toNat + (if fr (k.toNat : Int) = 6 then 1 else 0) = _
  rw [Int.toNat_of_nonneg h]
theorem kSg_6 {fr : Int → Int} {k : Int} (h : 0 ≤ k) (q : fr k = 6) : kSg fr (k + 1) = kSg fr k + 1 := by rw [kSg_s h, if_pos q]
theorem kSg_n {fr : Int → Int} {k : Int} (h : 0 ≤ k) (q : ¬ fr k = 6) : kSg fr (k + 1) = kSg fr k := by rw [kSg_s h, if_neg q, Int.add_zero]
theorem kSgF_rng (fr : Int → Int) : ∀ k : Nat, 0 ≤ kSgF fr k ∧ kSgF fr k ≤ k := by
  intro k
  induction k with
  | zero => exact ⟨Int.le_refl 0, Int.le_refl 0⟩
  | succ k ih =>
    show 0 ≤ kSgF fr k + (if fr k = 6 then 1 else 0) ∧ kSgF fr k + (if fr k = 6 then 1 else 0) ≤ ((k + 1 : Nat) : Int)
    split <;> omega
theorem kSg_rng (fr : Int → Int) {k : Int} (h : 0 ≤ k) : 0 ≤ kSg fr k ∧ kSg fr k ≤ k := by
  have q := kSgF_rng fr k.toNat
  unfold kSg
  omega
theorem kSgF_out {fr : Int → Int} {j v : Int} : ∀ k : Nat, (k : Int) ≤ j → kSgF (zU fr j v) k = kSgF fr k := by
  intro k
  induction k with
  | zero => intro _; rfl
  | succ k ih =>
    intro h
    show kSgF (zU fr j v) k + (if zU fr j v k = 6 then 1 else 0) = kSgF fr k + (if fr k = 6 then 1 else 0)
    rw [ih (by omega), zU_n (by omega)]
theorem kSg_out {fr : Int → Int} {j v k : Int} (h0 : 0 ≤ k) (h : k ≤ j) : kSg (zU fr j v) k = kSg fr k := kSgF_out _ (by omega)
def OKP (ht orr oo : Int → Int) (first occs orders q : Int) : Prop :=
  ((orr q = 0 ∨ orr q = 1 ∨ (orr q = 2 ∧ first ≤ oo q ∧ oo q < occs)) ∧ (0 ≤ ht q ∧ ht q ≤ 58) ∧ ht (q + 1) = ht q + 1)
  ∨ (orr q = 3 ∧ (1 ≤ ht q ∧ ht q ≤ 59) ∧ ht (q + 1) = ht q)
  ∨ (orr q = 4 ∧ (2 ≤ ht q ∧ ht q ≤ 59) ∧ ht (q + 1) = ht q - 1)
  ∨ (orr q = 5 ∧ (1 ≤ ht q ∧ ht q ≤ 59) ∧ ht (q + 1) = ht q - 1 ∧ (q + 1 < oo q ∧ oo q ≤ orders) ∧ ht (oo q) = ht q - 1 ∧ orr (oo q - 1) = 6 ∧ ht (oo q - 1) = ht q)
  ∨ (orr q = 6 ∧ (1 ≤ ht q ∧ ht q ≤ 59) ∧ (q < oo q ∧ oo q ≤ orders) ∧ ht (oo q) = ht q)
def PND (fr ff : Int → Int) (fm q : Int) : Prop := ∃ i : Int, (1 ≤ i ∧ i < fm) ∧ ((fr i = 2 ∧ ff i = q) ∨ (fr i = 3 ∧ ff i % 4096 = q))
def FRP (ht orr fr ff : Int → Int) (fm from_ orders : Int) : Prop := ∀ i : Int, 1 ≤ i ∧ i < fm → (fr i = 2 → (from_ ≤ ff i ∧ ff i < orders) ∧ orr (ff i) = 5 ∧ ht (ff i) = kSg fr i + 1 ∧ ht (ff i + 1) = kSg fr i) ∧ (fr i = 3 → 0 ≤ ff i ∧ (from_ ≤ ff i % 4096 ∧ ff i % 4096 < orders) ∧ orr (ff i % 4096) = 6 ∧ ht (ff i % 4096) = kSg fr i + 1)
def GI (d from_ first orders occs fm : Int) (orr oo fr ff : Int → Int) : Prop := ∃ ht : Int → Int, ht from_ = 0 ∧ ht orders = kSg fr fm + d ∧ (∀ q : Int, from_ ≤ q ∧ q < orders → OKP ht orr oo first occs orders q ∨ PND fr ff fm q) ∧ FRP ht orr fr ff fm from_ orders
section GL
variable {d from_ first orders occs occs2 orders2 fm f v q : Int} {orr oo fr ff ht ht2 orr2 oo2 : Int → Int}
theorem okp_ext (h : OKP ht orr oo first occs orders q) (hq : q < orders) (ho : orders ≤ orders2) (hc : occs ≤ occs2) (h1 : ∀ p : Int, p < orders → orr2 p = orr p) (h2 : oo2 q = oo q) (h3 : ∀ p : Int, p ≤ orders → ht2 p = ht p) : OKP ht2 orr2 oo2 first occs2 orders2 q := by
  have e1 := h1 q hq
  have e3 := h3 q (by omega)
  have e4 := h3 (q + 1) (by omega)
  unfold OKP
  rw [e1, h2, e3, e4]
  rcases h with ⟨a, b, c⟩ | h | h | ⟨a, b, c, e, g, i, j⟩ | ⟨a, b, c, e⟩
  · exact Or.inl ⟨by omega, b, c⟩
  · exact Or.inr (Or.inl h)
  · exact Or.inr (Or.inr (Or.inl h))
  · refine Or.inr (Or.inr (Or.inr (Or.inl ⟨a, b, c, by omega, ?_, ?_, ?_⟩)))
    · rw [h3 _ e.2]
      exact g
    · rw [h1 _ (by omega)]
      exact i
    · rw [h3 _ (by omega)]
      exact j
  · refine Or.inr (Or.inr (Or.inr (Or.inr ⟨a, b, by omega, ?_⟩)))
    rw [h3 _ c.2]
    exact e
theorem g_push (h : GI d from_ first orders occs fm orr oo fr ff) (hm : 1 ≤ fm) (hf : ¬ f = 2 ∧ ¬ f = 3 ∧ ¬ f = 6) : GI d from_ first orders occs (fm + 1) orr oo (zU fr fm f) (zU ff fm v) := by
  obtain ⟨ht, a, b, c, e⟩ := h
  refine ⟨ht, a, ?_, ?_, ?_⟩
  · rw [kSg_n (by omega) (by rw [zU_s]; exact hf.2.2), kSg_out (by omega) (by omega)]
    exact b
  · intro q hq
    rcases c q hq with g | ⟨i, hi, g⟩
    · exact Or.inl g
    · exact Or.inr ⟨i, by omega, by rw [zU_n (by omega), zU_n (by omega)]; exact g⟩
  · intro i hi
    by_cases z : i = fm
    · subst z
      rw [zU_s]
      exact ⟨fun y => absurd y hf.1, fun y => absurd y hf.2.1⟩
    · rw [zU_n z, zU_n z, kSg_out (by omega) (by omega)]
      exact e i (by omega)
theorem g_pushS (h : GI 1 from_ first orders occs fm orr oo fr ff) (hm : 1 ≤ fm) : GI 0 from_ first orders occs (fm + 1) orr oo (zU fr fm 6) (zU ff fm v) := by
  obtain ⟨ht, a, b, c, e⟩ := h
  refine ⟨ht, a, ?_, ?_, ?_⟩
  · rw [kSg_6 (by omega) (zU_s _ _ _), kSg_out (by omega) (by omega), Int.add_zero]
    exact b
  · intro q hq
    rcases c q hq with g | ⟨i, hi, g⟩
    · exact Or.inl g
    · exact Or.inr ⟨i, by omega, by rw [zU_n (by omega), zU_n (by omega)]; exact g⟩
  · intro i hi
    by_cases z : i = fm
    · subst z
      rw [zU_s]
      exact ⟨fun y => by omega, fun y => by omega⟩
    · rw [zU_n z, zU_n z, kSg_out (by omega) (by omega)]
      exact e i (by omega)
theorem g_pop (h : GI d from_ first orders occs fm orr oo fr ff) (hm : 2 ≤ fm) (hf : ¬ fr (fm - 1) = 2 ∧ ¬ fr (fm - 1) = 3 ∧ ¬ fr (fm - 1) = 6) : GI d from_ first orders occs (fm - 1) orr oo fr ff := by
  obtain ⟨ht, a, b, c, e⟩ := h
  have z := kSg_n (fr := fr) (k := fm - 1) (by omega) hf.2.2
  rw [show fm - 1 + 1 = fm by omega] at z
  refine ⟨ht, a, by rw [b, z], ?_, fun i hi => e i (by omega)⟩
  intro q hq
  rcases c q hq with g | ⟨i, hi, g⟩
  · exact Or.inl g
  · by_cases y : i = fm - 1
    · subst y
      omega
    · exact Or.inr ⟨i, by omega, g⟩
/-- one order more, and how high the stack is behind it -/
theorem g_add {o w H : Int} (hf : from_ ≤ orders) (hc : occs ≤ occs2) (a : ht from_ = 0) (c : ∀ q : Int, from_ ≤ q ∧ q < orders → OKP ht orr oo first occs orders q ∨ PND fr ff fm q) (e : FRP ht orr fr ff fm from_ orders) (hn : OKP (zU ht (orders + 1) H) (zU orr orders o) (zU oo orders w) first occs2 (orders + 1) orders) : (zU ht (orders + 1) H) from_ = 0 ∧ (zU ht (orders + 1) H) (orders + 1) = H ∧ (∀ q : Int, from_ ≤ q ∧ q < orders + 1 → OKP (zU ht (orders + 1) H) (zU orr orders o) (zU oo orders w) first occs2 (orders + 1) q ∨ PND fr ff fm q) ∧ FRP (zU ht (orders + 1) H) (zU orr orders o) fr ff fm from_ (orders + 1) := by
  refine ⟨by rw [zU_n (by omega)]; exact a, zU_s _ _ _, ?_, ?_⟩
  · intro q hq
    by_cases z : q = orders
    · rw [z]
      exact Or.inl hn
    · rcases c q (by omega) with g | g
      · exact Or.inl (okp_ext g (by omega) (by omega) hc (fun p hp => zU_n (by omega)) (zU_n z) (fun p hp => zU_n (by omega)))
      · exact Or.inr g
  · intro i hi
    obtain ⟨e1, e2⟩ := e i hi
    refine ⟨fun y => ?_, fun y => ?_⟩
    · obtain ⟨g1, g2, g3, g4⟩ := e1 y
      rw [zU_n (by omega), zU_n (by omega), zU_n (by omega)]
      exact ⟨by omega, g2, g3, g4⟩
    · obtain ⟨g1, g2, g3, g4⟩ := e2 y
      rw [zU_n (by omega), zU_n (by omega)]
      exact ⟨g1, by omega, g3, g4⟩
theorem g_emit {o : Int} (h : GI 0 from_ first orders occs fm orr oo fr ff) (hf : from_ ≤ orders) (hm : 1 ≤ fm ∧ fm ≤ 50) (hc : occs ≤ occs2) (ho : o = 0 ∨ o = 1 ∨ (o = 2 ∧ first ≤ v ∧ v < occs2)) : GI 1 from_ first (orders + 1) occs2 fm (zU orr orders o) (zU oo orders v) fr ff := by
  obtain ⟨ht, a, b, c, e⟩ := h
  have r := kSg_rng fr (k := fm) (by omega)
  refine ⟨_, g_add (H := kSg fr fm + 1) hf hc a c e (Or.inl ⟨?_, ?_, ?_⟩)⟩
  · rw [zU_s, zU_s]
    exact ho
  · rw [zU_n (by omega)]
    omega
  · rw [zU_s, zU_n (by omega)]
    omega
theorem g_minus (h : GI 1 from_ first orders occs fm orr oo fr ff) (hf : from_ ≤ orders) (hm : 2 ≤ fm ∧ fm ≤ 50) (h5 : fr (fm - 1) = 5) : GI 1 from_ first (orders + 1) occs (fm - 1) (zU orr orders 3) (zU oo orders v) fr ff := by
  have h9 := g_pop h hm.1 (by omega)
  obtain ⟨ht, a, b, c, e⟩ := h9
  have r := kSg_rng fr (k := fm - 1) (by omega)
  refine ⟨_, g_add (H := kSg fr (fm - 1) + 1) hf (Int.le_refl _) a c e (Or.inr (Or.inl ⟨zU_s _ _ _, ?_, ?_⟩))⟩
  · rw [zU_n (by omega)]
    omega
  · rw [zU_s, zU_n (by omega)]
    omega
theorem g_sign (h : GI 1 from_ first orders occs fm orr oo fr ff) (hf : from_ ≤ orders) (hm : 2 ≤ fm ∧ fm ≤ 50) (h6 : fr (fm - 1) = 6) : GI 1 from_ first (orders + 1) occs (fm - 1) (zU orr orders 4) (zU oo orders v) fr ff := by
  obtain ⟨ht, a, b, c, e⟩ := h
  have z := kSg_6 (fr := fr) (k := fm - 1) (by omega) h6
  rw [show fm - 1 + 1 = fm by omega] at z
  have r := kSg_rng fr (k := fm - 1) (by omega)
  have c2 : ∀ q : Int, from_ ≤ q ∧ q < orders → OKP ht orr oo first occs orders q ∨ PND fr ff (fm - 1) q := by
    intro q hq
    rcases c q hq with g | ⟨i, hi, g⟩
    · exact Or.inl g
    · by_cases y : i = fm - 1
      · subst y
        omega
      · exact Or.inr ⟨i, by omega, g⟩
  refine ⟨_, g_add (fm := fm - 1) (H := kSg fr (fm - 1) + 1) hf (Int.le_refl _) a c2 (fun i hi => e i (by omega)) (Or.inr (Or.inr (Or.inl ⟨zU_s _ _ _, ?_, ?_⟩)))⟩
  · rw [zU_n (by omega)]
    omega
  · rw [zU_s, zU_n (by omega)]
    omega
theorem g_then (h : GI 1 from_ first orders occs fm orr oo fr ff) (hf : from_ ≤ orders) (hm : 2 ≤ fm ∧ fm ≤ 50) (h1 : fr (fm - 1) = 1) : GI 0 from_ first (orders + 1) occs fm (zU orr orders 5) (zU oo orders v) (zU fr (fm - 1) 2) (zU ff (fm - 1) orders) := by
  have h9 := g_pop h hm.1 (by omega)
  obtain ⟨ht, a, b, c, e⟩ := h9
  have r := kSg_rng fr (k := fm - 1) (by omega)
  have s1 : kSg (zU fr (fm - 1) 2) fm = kSg fr (fm - 1) := by
    have z := kSg_n (fr := zU fr (fm - 1) 2) (k := fm - 1) (by omega) (by rw [zU_s]; decide)
    rw [show fm - 1 + 1 = fm by omega] at z
    rw [z]
    exact kSg_out (by omega) (by omega)
  refine ⟨zU ht (orders + 1) (kSg fr (fm - 1)), by rw [zU_n (by omega)]; exact a, by rw [zU_s, s1, Int.add_zero], ?_, ?_⟩
  · intro q hq
    by_cases z : q = orders
    · exact Or.inr ⟨fm - 1, by omega, Or.inl ⟨zU_s _ _ _, by rw [zU_s, z]⟩⟩
    · rcases c q (by omega) with g | ⟨i, hi, g⟩
      · exact Or.inl (okp_ext g (by omega) (by omega) (Int.le_refl _) (fun p hp => zU_n (by omega)) (zU_n z) (fun p hp => zU_n (by omega)))
      · exact Or.inr ⟨i, by omega, by rw [zU_n (by omega), zU_n (by omega)]; exact g⟩
  · intro i hi
    by_cases z : i = fm - 1
    · subst z
      rw [zU_s, zU_s, kSg_out (by omega) (by omega)]
      refine ⟨fun _ => ⟨by omega, zU_s _ _ _, ?_, zU_s _ _ _⟩, fun y => by omega⟩
      rw [zU_n (by omega)]
      omega
    · obtain ⟨e1, e2⟩ := e i (by omega)
      rw [zU_n z, zU_n z, kSg_out (by omega) (by omega)]
      refine ⟨fun y => ?_, fun y => ?_⟩
      · obtain ⟨g1, g2, g3, g4⟩ := e1 y
        rw [zU_n (by omega), zU_n (by omega), zU_n (by omega)]
        exact ⟨by omega, g2, g3, g4⟩
      · obtain ⟨g1, g2, g3, g4⟩ := e2 y
        rw [zU_n (by omega), zU_n (by omega)]
        exact ⟨g1, by omega, g3, g4⟩
theorem g_else {w : Int} (h : GI 1 from_ first orders occs fm orr oo fr ff) (hf : 0 ≤ from_ ∧ from_ ≤ orders ∧ orders < 4096) (hm : 2 ≤ fm ∧ fm ≤ 50) (h2 : fr (fm - 1) = 2) (hw : w = ff (fm - 1) * 4096 + orders) : GI 0 from_ first (orders + 1) occs fm (zU orr orders 6) (zU (zU oo (ff (fm - 1)) (orders + 1)) orders v) (zU fr (fm - 1) 3) (zU ff (fm - 1) w) := by
  obtain ⟨ht, a, b, c, e⟩ := h
  have r := kSg_rng fr (k := fm - 1) (by omega)
  obtain ⟨t1, t2, t3, t4⟩ := (e (fm - 1) (by omega)).1 h2
  have z9 := kSg_n (fr := fr) (k := fm - 1) (by omega) (by omega)
  rw [show fm - 1 + 1 = fm by omega] at z9
  have s1 : kSg (zU fr (fm - 1) 3) fm = kSg fr (fm - 1) := by
    have z := kSg_n (fr := zU fr (fm - 1) 3) (k := fm - 1) (by omega) (by rw [zU_s]; decide)
    rw [show fm - 1 + 1 = fm by omega] at z
    rw [z]
    exact kSg_out (by omega) (by omega)
  have wm : w % 4096 = orders := by omega
  refine ⟨zU ht (orders + 1) (kSg fr (fm - 1)), by rw [zU_n (by omega)]; exact a, by rw [zU_s, s1, Int.add_zero], ?_, ?_⟩
  · intro q hq
    by_cases z : q = orders
    · exact Or.inr ⟨fm - 1, by omega, Or.inr ⟨zU_s _ _ _, by rw [zU_s, z]; exact wm⟩⟩
    · by_cases y : q = ff (fm - 1)
      · subst y
        refine Or.inl (Or.inr (Or.inr (Or.inr (Or.inl ⟨?_, ?_, ?_, ?_, ?_, ?_, ?_⟩))))
        · rw [zU_n z]
          exact t2
        · rw [zU_n (by omega)]
          omega
        · rw [zU_n (by omega), zU_n (by omega)]
          omega
        · rw [zU_n z, zU_s]
          omega
        · rw [zU_n z, zU_s, zU_s, zU_n (by omega)]
          omega
        · rw [zU_n z, zU_s, show orders + 1 - 1 = orders by omega, zU_s]
        · rw [zU_n z, zU_s, show orders + 1 - 1 = orders by omega, zU_n (by omega), zU_n (by omega)]
          omega
      · rcases c q (by omega) with g | ⟨i, hi, g⟩
        · exact Or.inl (okp_ext g (by omega) (by omega) (Int.le_refl _) (fun p hp => zU_n (by omega)) (by rw [zU_n z, zU_n y]) (fun p hp => zU_n (by omega)))
        · by_cases x : i = fm - 1
          · subst x
            omega
          · exact Or.inr ⟨i, by omega, by rw [zU_n (by omega), zU_n (by omega)]; exact g⟩
  · intro i hi
    by_cases z : i = fm - 1
    · subst z
      rw [zU_s, zU_s, kSg_out (by omega) (by omega)]
      refine ⟨fun y => by omega, fun _ => ⟨by omega, by omega, ?_, ?_⟩⟩
      · rw [wm, zU_s]
      · rw [wm, zU_n (by omega)]
        omega
    · obtain ⟨e1, e2⟩ := e i (by omega)
      rw [zU_n z, zU_n z, kSg_out (by omega) (by omega)]
      refine ⟨fun y => ?_, fun y => ?_⟩
      · obtain ⟨g1, g2, g3, g4⟩ := e1 y
        rw [zU_n (by omega), zU_n (by omega), zU_n (by omega)]
        exact ⟨by omega, g2, g3, g4⟩
      · obtain ⟨g1, g2, g3, g4⟩ := e2 y
        rw [zU_n (by omega), zU_n (by omega)]
        exact ⟨g1, by omega, g3, g4⟩
theorem g_elseend (h : GI 1 from_ first orders occs fm orr oo fr ff) (hf : 0 ≤ from_ ∧ from_ ≤ orders) (hm : 2 ≤ fm ∧ fm ≤ 50) (h3 : fr (fm - 1) = 3) : GI 1 from_ first orders occs (fm - 1) orr (zU oo (ff (fm - 1) % 4096) orders) fr ff := by
  obtain ⟨ht, a, b, c, e⟩ := h
  have r := kSg_rng fr (k := fm - 1) (by omega)
  obtain ⟨t1, t2, t3, t4⟩ := (e (fm - 1) (by omega)).2 h3
  have z9 := kSg_n (fr := fr) (k := fm - 1) (by omega) (by omega)
  rw [show fm - 1 + 1 = fm by omega] at z9
  refine ⟨ht, a, by rw [b, z9], ?_, fun i hi => e i (by omega)⟩
  intro q hq
  by_cases y : q = ff (fm - 1) % 4096
  · subst y
    refine Or.inl (Or.inr (Or.inr (Or.inr (Or.inr ⟨t3, by omega, ?_, ?_⟩))))
    · rw [zU_s]
      omega
    · rw [zU_s]
      omega
  · rcases c q hq with g | ⟨i, hi, g⟩
    · exact Or.inl (okp_ext g (by omega) (Int.le_refl _) (Int.le_refl _) (fun p hp => rfl) (zU_n y) (fun p hp => rfl))
    · by_cases x : i = fm - 1
      · subst x
        omega
      · exact Or.inr ⟨i, by omega, g⟩
theorem g_start (h0 : fr 0 = 0) : GI 0 orders first orders occs 1 orr oo fr ff := by
  have z := kSg_n (fr := fr) (k := 0) (by decide) (by omega)
  rw [show (0 : Int) + 1 = 1 by decide] at z
  have z2 : kSg fr 0 = 0 := rfl
  refine ⟨fun _ => 0, rfl, (show (0 : Int) = kSg fr 1 + 0 by omega), fun q hq => by omega, fun i hi => by omega⟩
/-- an equation's code, ended -/
def WFE (orr oo : Int → Int) (first occs from_ done : Int) : Prop := (0 ≤ from_ ∧ from_ ≤ done ∧ done < 4000) ∧ orr done = 7 ∧ ∃ ht : Int → Int, ht from_ = 0 ∧ ht done = 1 ∧ ∀ q : Int, from_ ≤ q ∧ q < done → OKP ht orr oo first occs done q
theorem g_fin (h : GI 1 from_ first orders occs 1 orr oo fr ff) (hf : 0 ≤ from_ ∧ from_ ≤ orders ∧ orders < 4000) (h0 : fr 0 = 0) : WFE (zU orr orders 7) (zU oo orders v) first occs from_ orders := by
  obtain ⟨ht, a, b, c, e⟩ := h
  have z := kSg_n (fr := fr) (k := 0) (by decide) (by omega)
  rw [show (0 : Int) + 1 = 1 by decide] at z
  have z2 : kSg fr 0 = 0 := rfl
  refine ⟨hf, zU_s _ _ _, ht, a, by omega, fun q hq => ?_⟩
  rcases c q hq with g | ⟨i, hi, g⟩
  · exact okp_ext g (by omega) (Int.le_refl _) (Int.le_refl _) (fun p hp => zU_n (by omega)) (zU_n (by omega)) (fun p hp => rfl)
  · omega
theorem wfe_same {done : Int} (h : WFE orr oo first occs from_ done) (h1 : ∀ p : Int, from_ ≤ p ∧ p ≤ done → orr2 p = orr p ∧ oo2 p = oo p) (hc : occs ≤ occs2) : WFE orr2 oo2 first occs2 from_ done := by
  obtain ⟨a, b, ht, c, e, g⟩ := h
  refine ⟨a, by rw [(h1 done (by omega)).1]; exact b, ht, c, e, fun q hq => ?_⟩
  have y := g q hq
  have e1 := h1 q (by omega)
  unfold OKP
  rw [e1.1, e1.2]
  rcases y with ⟨a, b, c⟩ | y | y | ⟨a, b, c, e, g, i, j⟩ | ⟨a, b, c, e⟩
  · exact Or.inl ⟨by omega, b, c⟩
  · exact Or.inr (Or.inl y)
  · exact Or.inr (Or.inr (Or.inl y))
  · refine Or.inr (Or.inr (Or.inr (Or.inl ⟨a, b, c, e, g, ?_, j⟩)))
    rw [(h1 _ (by omega)).1]
    exact i
  · exact Or.inr (Or.inr (Or.inr (Or.inr ⟨a, b, c, e⟩)))
end GL
