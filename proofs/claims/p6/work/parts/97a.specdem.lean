/-! trees, and what is demanded of them -/
def TRI (N rc : Int) (nr na np nc cc rs : Int → Int) : Prop := ∀ k : Int, 0 ≤ k ∧ k < N → (0 ≤ nr k ∧ nr k < rc) ∧ nc (4 * k) = k ∧ ((na k = -1 ∧ rs (4 * nr k) = 0) ∨ ((0 ≤ na k ∧ na k < k) ∧ (1 ≤ np k ∧ np k ≤ cc (nr (na k))) ∧ rs (4 * nr (na k) + np k) = rs (4 * nr k))) ∧ ∀ c : Int, 1 ≤ c ∧ c ≤ cc (nr k) → (0 ≤ nc (4 * k + c) ∧ nc (4 * k + c) < N) ∧ rs (4 * nr (nc (4 * k + c))) = rs (4 * nr k + c)
/-- an attribute of a node -/
def VAT (N : Int) (nr rs ac : Int → Int) (x : Int) : Prop := (0 ≤ x / 6 ∧ x / 6 < N) ∧ x % 6 < ac (rs (4 * nr (x / 6)))
noncomputable def kTl : (ih rs nr na : Int → Int) → (x : Int) → Int := Classical.choose (⟨fun ih rs nr na x => if ih (6 * rs (4 * nr (x / 6)) + x % 6) = 1 then na (x / 6) else x / 6, rfl⟩ : ∃ f : (ih rs nr na : Int → Int) → (x : Int) → Int, f = fun ih rs nr na x => if ih (6 * rs (4 * nr (x / 6)) + x % 6) = 1 then na (x / 6) else x / 6)
theorem kTl_eq (ih rs nr na : Int → Int) (x : Int) : kTl ih rs nr na x = if ih (6 * rs (4 * nr (x / 6)) + x % 6) = 1 then na (x / 6) else x / 6 := by
  have h := Classical.choose_spec (⟨fun ih rs nr na x => if ih (6 * rs (4 * nr (x / 6)) + x % 6) = 1 then na (x / 6) else x / 6, rfl⟩ : ∃ f : (ih rs nr na : Int → Int) → (x : Int) → Int, f = fun ih rs nr na x => if ih (6 * rs (4 * nr (x / 6)) + x % 6) = 1 then na (x / 6) else x / 6)
  exact congrFun (congrFun (congrFun (congrFun (congrFun h ih) rs) nr) na) x
noncomputable def kEq : (ih rs nr na np : Int → Int) → (x : Int) → Int := Classical.choose (⟨fun ih rs nr na np x => 24 * nr (kTl ih rs nr na x) + 6 * (if kTl ih rs nr na x = x / 6 then 0 else np (x / 6)) + x % 6, rfl⟩ : ∃ f : (ih rs nr na np : Int → Int) → (x : Int) → Int, f = fun ih rs nr na np x => 24 * nr (kTl ih rs nr na x) + 6 * (if kTl ih rs nr na x = x / 6 then 0 else np (x / 6)) + x % 6)
theorem kEq_eq (ih rs nr na np : Int → Int) (x : Int) : kEq ih rs nr na np x = 24 * nr (kTl ih rs nr na x) + 6 * (if kTl ih rs nr na x = x / 6 then 0 else np (x / 6)) + x % 6 := by
  have h := Classical.choose_spec (⟨fun ih rs nr na np x => 24 * nr (kTl ih rs nr na x) + 6 * (if kTl ih rs nr na x = x / 6 then 0 else np (x / 6)) + x % 6, rfl⟩ : ∃ f : (ih rs nr na np : Int → Int) → (x : Int) → Int, f = fun ih rs nr na np x => 24 * nr (kTl ih rs nr na x) + 6 * (if kTl ih rs nr na x = x / 6 then 0 else np (x / 6)) + x % 6)
  exact congrFun (congrFun (congrFun (congrFun (congrFun (congrFun h ih) rs) nr) na) np) x
noncomputable def kNm (ih rs nr na nc op oa : Int → Int) (x o : Int) : Int := 6 * nc (4 * kTl ih rs nr na x + op o) + oa o
/-- all that a demand hangs on -/
def DEM (N rc orders occs : Int) (nr na np nc ac ih cc rs ef eo em orr oo op oa : Int → Int) : Prop := ((0 ≤ N ∧ N ≤ 200) ∧ rc ≤ 30 ∧ occs ≤ 3000) ∧ TRI N rc nr na np nc cc rs ∧ EQB rc rc orders occs ef eo em orr oo op oa ac ih cc rs ∧ (¬ ∃ a : Int, (0 ≤ a ∧ a < ac 0) ∧ ih a = 1) ∧ (∀ j : Int, 0 ≤ j ∧ j < rc → 0 ≤ cc j ∧ cc j ≤ 3) ∧ (∀ s : Int, 0 ≤ s ∧ s < 12 → 0 ≤ ac s ∧ ac s < 7) ∧ (∀ j : Int, 0 ≤ j ∧ j < 120 → 0 ≤ rs j ∧ rs j < 12)
/-- what is told of one equation -/
def EQX (N : Int) (nr na nc ac ih rs ef eo em orr oo op oa : Int → Int) (x e : Int) : Prop := (0 ≤ e ∧ e < 720) ∧ 0 ≤ ef e ∧ (0 ≤ eo e ∧ 0 ≤ em e ∧ eo e + em e ≤ 3000) ∧ (∃ done : Int, WFE orr oo (eo e) (eo e + em e) (ef e) done) ∧ ∀ o : Int, eo e ≤ o ∧ o < eo e + em e → (0 ≤ op o ∧ op o ≤ 3) ∧ VAT N nr rs ac (kNm ih rs nr na nc op oa x o) ∧ (0 ≤ kNm ih rs nr na nc op oa x o ∧ kNm ih rs nr na nc op oa x o < 1200)
section DML
variable {N rc orders occs : Int} {nr na np nc ac ih cc rs ef eo em orr oo op oa : Int → Int} {x : Int}
theorem dem_core {r p a t : Int} (h : DEM N rc orders occs nr na np nc ac ih cc rs ef eo em orr oo op oa) (ht : 0 ≤ t ∧ t < N) (hr : nr t = r) (hp : 0 ≤ p ∧ p ≤ cc r) (ha : 0 ≤ a ∧ a < 6) (ha2 : a < ac (rs (4 * r + p))) (hi : ih (6 * rs (4 * r + p) + a) = 1 ↔ 0 < p) (hk : kTl ih rs nr na x = t) : EQX N nr na nc ac ih rs ef eo em orr oo op oa x (24 * r + 6 * p + a) := by
  obtain ⟨⟨hN, hrc, hoc⟩, hT, hE, hI, hC, hA, hR⟩ := h
  obtain ⟨t1, t2, t3, t4⟩ := hT t ht
  have hc := hC r (by omega)
  have hef := hE.2 r p a (by omega) (by omega) (by omega) hi
  have y := hE.1 r (6 * p + a) (by omega) (by omega) (by rw [show 24 * r + (6 * p + a) = 24 * r + 6 * p + a by omega]; exact hef)
  rw [show 24 * r + (6 * p + a) = 24 * r + 6 * p + a by omega] at y
  obtain ⟨⟨done, hd, hw⟩, ⟨b1, b2, b3⟩, hO⟩ := y
  refine ⟨by omega, hef, by omega, ⟨done, hw⟩, fun o ho => ?_⟩
  obtain ⟨o1, o2⟩ := hO o ho
  have hrs := hR (4 * r + op o) (by omega)
  have hac := hA _ hrs
  have key : (0 ≤ nc (4 * t + op o) ∧ nc (4 * t + op o) < N) ∧ rs (4 * nr (nc (4 * t + op o))) = rs (4 * r + op o) := by
    by_cases q : op o = 0
    · rw [q, Int.add_zero, t2, hr, Int.add_zero]
      exact ⟨ht, rfl⟩
    · have z := t4 (op o) (by rw [hr]; omega)
      rw [hr] at z
      exact z
  have hv : kNm ih rs nr na nc op oa x o = 6 * nc (4 * t + op o) + oa o := by
    unfold kNm
    rw [hk]
  rw [hv]
  have d1 : (6 * nc (4 * t + op o) + oa o) / 6 = nc (4 * t + op o) := by omega
  have d2 : (6 * nc (4 * t + op o) + oa o) % 6 = oa o := by omega
  refine ⟨by omega, ⟨by rw [d1]; exact key.1, ?_⟩, by omega⟩
  rw [d1, d2, key.2]
  exact o2.2
theorem dem_x (h : DEM N rc orders occs nr na np nc ac ih cc rs ef eo em orr oo op oa) (hx : VAT N nr rs ac x) : (0 ≤ kTl ih rs nr na x ∧ kTl ih rs nr na x < 200) ∧ EQX N nr na nc ac ih rs ef eo em orr oo op oa x (kEq ih rs nr na np x) := by
  have h' := h
  obtain ⟨⟨hN, hrc, hoc⟩, hT, hE, hI, hC, hA, hR⟩ := h
  obtain ⟨⟨x1, x2⟩, x3⟩ := hx
  obtain ⟨t1, t2, t3, t4⟩ := hT (x / 6) ⟨x1, x2⟩
  by_cases q : ih (6 * rs (4 * nr (x / 6)) + x % 6) = 1
  · have hk : kTl ih rs nr na x = na (x / 6) := by rw [kTl_eq, if_pos q]
    rcases t3 with t3 | ⟨t3, t5, t6⟩
    · rw [t3.2] at q x3
      rw [show 6 * (0 : Int) + x % 6 = x % 6 by omega] at q
      exact absurd ⟨x % 6, by omega, q⟩ hI
    · have e : kEq ih rs nr na np x = 24 * nr (na (x / 6)) + 6 * np (x / 6) + x % 6 := by rw [kEq_eq, hk, if_neg (by omega)]
      rw [e, hk]
      exact ⟨by omega, dem_core h' (by omega) rfl (by omega) (by omega) (by rw [t6]; exact x3) (by rw [t6]; exact ⟨fun _ => by omega, fun _ => q⟩) hk⟩
  · have hk : kTl ih rs nr na x = x / 6 := by rw [kTl_eq, if_neg q]
    have e : kEq ih rs nr na np x = 24 * nr (x / 6) + 6 * 0 + x % 6 := by rw [kEq_eq, hk, if_pos rfl]
    have hc := hC (nr (x / 6)) t1
    rw [e, hk]
    exact ⟨by omega, dem_core h' ⟨x1, x2⟩ rfl (by omega) (by omega) (by rw [Int.add_zero]; exact x3) (by rw [Int.add_zero]; exact ⟨fun z => absurd z q, fun z => absurd z (by omega)⟩) hk⟩
theorem vat_rng (h : VAT N nr rs ac x) (hN : N ≤ 200) : 0 ≤ x ∧ x < 1200 := by
  obtain ⟨⟨a, b⟩, c⟩ := h
  omega
/-- a grammar of the same shape has the same trees -/
theorem tri_shp {sc : Int} {ac2 ih2 cc2 rs2 : Int → Int} (h : TRI N rc nr na np nc cc rs) (hs : SHP sc rc ac ih cc rs ac2 ih2 cc2 rs2) (hC : ∀ j : Int, 0 ≤ j ∧ j < rc → 0 ≤ cc j) : TRI N rc nr na np nc cc2 rs2 := by
  intro k hk
  obtain ⟨t1, t2, t3, t4⟩ := h k hk
  have s1 := hs.2 (nr k) t1
  have c1 := hC (nr k) t1
  have s10 := s1.2 0 (by omega)
  rw [Int.add_zero] at s10
  refine ⟨t1, t2, ?_, fun c hc => ?_⟩
  · rcases t3 with t3 | ⟨t3, t5, t6⟩
    · exact Or.inl ⟨t3.1, s10.symm.trans t3.2⟩
    · have s2 := hs.2 (nr (na k)) (h (na k) (by omega)).1
      exact Or.inr ⟨t3, by omega, (s2.2 (np k) (by omega)).symm.trans (t6.trans s10)⟩
  · have z := t4 c (by omega)
    have y := (h (nc (4 * k + c)) z.1).1
    have s3 := (hs.2 _ y).2 0 (by have w := hC _ y; omega)
    rw [Int.add_zero] at s3
    exact ⟨z.1, s3.symm.trans (z.2.trans (s1.2 c (by omega)))⟩
end DML
theorem kCt_cl0 {f : Int → Int} {n i : Int} (h0 : 0 ≤ n) (h : 0 ≤ i ∧ i < n) (h2 : f i = 1) : kCt (zU f i 0) 0 n = kCt f 0 n - 1 := by
  have z := (kCt_set (f := zU f i 0) (a := 0) (n := n) (i := i) h0 (by omega) (by rw [zU_s]; decide)).1
  have e : zU (zU f i 0) i 1 = f := by
    funext j
    by_cases q : j = i
    · rw [q, zU_s, h2]
    · rw [zU_n q, zU_n q]
  rw [e] at z
  omega
theorem kCt_0s {f : Int → Int} {n i : Int} (h0 : 0 ≤ n) (h : kCt f 0 n = 0) (hi : 0 ≤ i ∧ i < n) : ¬ f i = 1 := by
  intro q
  have z := kCt_cl0 h0 hi q
  have y := kCt_rng (zU f i 0) 0 h0
  omega
/-- what waits: V says which may wait, M how many names each has -/
def STK (wt : Int) (wf wx ig iw : Int → Int) (V : Int → Prop) (M : Int → Int) : Prop := (∀ j : Int, 0 ≤ j ∧ j < wt → (V (wf j) ∧ 0 ≤ wf j ∧ wf j < 1200) ∧ ig (wf j) = 1 ∧ (0 ≤ wx j ∧ wx j ≤ M (wf j))) ∧ (∀ i j : Int, 0 ≤ i ∧ i < j ∧ j < wt → ¬ wf i = wf j) ∧ kCt ig 0 1200 = wt ∧ (∀ j : Int, 0 ≤ j ∧ j < wt - 1 → iw (wf j) = 0)
noncomputable def kEmk (ih rs nr na np em : Int → Int) : Int → Int := fun z => em (kEq ih rs nr na np z)
section STL
variable {wt y : Int} {wf wx ig iw : Int → Int} {V : Int → Prop} {M : Int → Int}
theorem stk_0 (h : kCt ig 0 1200 = 0) : STK 0 wf wx ig iw V M := ⟨fun j hj => absurd hj (by omega), fun i j hj => absurd hj (by omega), h, fun j hj => absurd hj (by omega)⟩
theorem stk_push (h : STK wt wf wx ig iw V M) (h0 : 0 ≤ wt) (hv : V y) (hy : 0 ≤ y ∧ y < 1200) (hm : 0 ≤ M y) (hi : ¬ ig y = 1) (ht : 1 ≤ wt → iw (wf (wt - 1)) = 0) : STK (wt + 1) (zU wf wt y) (zU wx wt 0) (zU ig y 1) iw V M ∧ wt < 1200 := by
  obtain ⟨a, b, c, d⟩ := h
  have z := kCt_set (f := ig) (a := 0) (n := 1200) (i := y) (by decide) (by omega) hi
  refine ⟨⟨fun j hj => ?_, fun i j hj => ?_, by rw [z.1, c], fun j hj => ?_⟩, by omega⟩
  · by_cases q : j = wt
    · rw [q, zU_s, zU_s, zU_s]
      exact ⟨⟨hv, hy⟩, rfl, by omega, hm⟩
    · rw [zU_n q, zU_n q]
      have w := a j (by omega)
      rw [zU_n (fun e => hi (by rw [← e]; exact w.2.1))]
      exact w
  · rw [zU_n (f := wf) (j := i) (by omega)]
    by_cases q : j = wt
    · rw [q, zU_s]
      exact fun e => hi (by rw [← e]; exact (a i (by omega)).2.1)
    · rw [zU_n q]
      exact b i j (by omega)
  · rw [zU_n (by omega)]
    by_cases q : j = wt - 1
    · rw [q]
      exact ht (by omega)
    · exact d j (by omega)
theorem stk_1 (h : kCt ig 0 1200 = 0) (hv : V y) (hy : 0 ≤ y ∧ y < 1200) (hm : 0 ≤ M y) : STK 1 (zU wf 0 y) (zU wx 0 0) (zU ig y 1) iw V M := by
  have z := (stk_push (wf := wf) (wx := wx) (iw := iw) (M := M) (stk_0 h) (Int.le_refl 0) hv hy hm (kCt_0s (by decide) h hy) (fun z => absurd z (by decide))).1
  rw [Int.zero_add] at z
  exact z
theorem stk_adv (h : STK wt wf wx ig iw V M) (hl : wx (wt - 1) < M (wf (wt - 1))) : STK wt wf (zU wx (wt - 1) (wx (wt - 1) + 1)) ig iw V M := by
  obtain ⟨a, b, c, d⟩ := h
  refine ⟨fun j hj => ?_, b, c, d⟩
  have w := a j hj
  by_cases q : j = wt - 1
  · rw [q] at w ⊢
    rw [zU_s]
    exact ⟨w.1, w.2.1, by omega, by omega⟩
  · rw [zU_n q]
    exact w
theorem stk_work {x : Int} (h : STK wt wf wx ig iw V M) (hx : x = wf (wt - 1)) : STK wt wf wx ig (zU iw x 1) V M := by
  obtain ⟨a, b, c, d⟩ := h
  refine ⟨a, b, c, fun j hj => ?_⟩
  rw [zU_n (by rw [hx]; exact b j (wt - 1) (by omega))]
  exact d j hj
theorem stk_pop {x : Int} (h : STK wt wf wx ig iw V M) (h1 : 1 ≤ wt) (hx : x = wf (wt - 1)) : STK (wt - 1) wf wx (zU ig x 0) iw V M := by
  obtain ⟨a, b, c, d⟩ := h
  have w := a (wt - 1) (by omega)
  rw [← hx] at w
  refine ⟨fun j hj => ?_, fun i j hj => b i j (by omega), by rw [kCt_cl0 (by decide) w.1.2 w.2.1, c], fun j hj => d j (by omega)⟩
  have z := a j (by omega)
  rw [zU_n (by rw [hx]; exact b j (wt - 1) (by omega))]
  exact z
/-- the last loop takes the marks away, one by one -/
def MRK (k wt : Int) (wf ig : Int → Int) : Prop := (∀ j : Int, k ≤ j ∧ j < wt → ig (wf j) = 1) ∧ kCt ig 0 1200 = wt - k
theorem mrk_0 (h : STK wt wf wx ig iw V M) : MRK 0 wt wf ig := ⟨fun j hj => (h.1 j hj).2.1, by rw [h.2.2.1]; omega⟩
theorem mrk_s {k : Int} {ig2 : Int → Int} (h : STK wt wf wx ig2 iw V M) (hm : MRK k wt wf ig) (hk : 0 ≤ k ∧ k < wt) : MRK (k + 1) wt wf (zU ig (wf k) 0) := by
  refine ⟨fun j hj => ?_, ?_⟩
  · rw [zU_n (fun e => h.2.1 k j (by omega) e.symm)]
    exact hm.1 j (by omega)
  · rw [kCt_cl0 (by decide) (h.1 k hk).1.2 (hm.1 k (by omega)), hm.2]
    omega
/-- how much is left to do -/
noncomputable def kMz : (wt : Int) → (wf wx iw : Int → Int) → (M : Int → Int) → Int := Classical.choose (⟨fun wt wf wx iw M => 3002 * (3 * (1200 - kCt iw 0 1200) - wt + 2 * iw (wf (wt - 1)) + 1201) + (M (wf (wt - 1)) - wx (wt - 1)), rfl⟩ : ∃ f : (wt : Int) → (wf wx iw : Int → Int) → (M : Int → Int) → Int, f = fun wt wf wx iw M => 3002 * (3 * (1200 - kCt iw 0 1200) - wt + 2 * iw (wf (wt - 1)) + 1201) + (M (wf (wt - 1)) - wx (wt - 1)))
theorem kMz_eq (wt : Int) (wf wx iw M : Int → Int) : kMz wt wf wx iw M = 3002 * (3 * (1200 - kCt iw 0 1200) - wt + 2 * iw (wf (wt - 1)) + 1201) + (M (wf (wt - 1)) - wx (wt - 1)) := by
  have h := Classical.choose_spec (⟨fun wt wf wx iw M => 3002 * (3 * (1200 - kCt iw 0 1200) - wt + 2 * iw (wf (wt - 1)) + 1201) + (M (wf (wt - 1)) - wx (wt - 1)), rfl⟩ : ∃ f : (wt : Int) → (wf wx iw : Int → Int) → (M : Int → Int) → Int, f = fun wt wf wx iw M => 3002 * (3 * (1200 - kCt iw 0 1200) - wt + 2 * iw (wf (wt - 1)) + 1201) + (M (wf (wt - 1)) - wx (wt - 1)))
  exact congrFun (congrFun (congrFun (congrFun (congrFun h wt) wf) wx) iw) M
theorem mz_nn (h : STK wt wf wx ig iw V M) (h1 : 1 ≤ wt) (hw : wt ≤ 1200) (hb : BR iw 1200 0 2) : 0 ≤ kMz wt wf wx iw M := by
  have z := kCt_rng iw 0 (n := 1200) (by decide)
  have w := h.1 (wt - 1) (by omega)
  have w2 := hb (wf (wt - 1)) w.1.2
  rw [kMz_eq]
  omega
theorem mz_adv : kMz wt wf (zU wx (wt - 1) (wx (wt - 1) + 1)) iw M < kMz wt wf wx iw M := by
  rw [kMz_eq, kMz_eq, zU_s]
  omega
theorem mz_push (h : STK wt wf wx ig iw V M) (h1 : 1 ≤ wt) (h2 : iw (wf (wt - 1)) = 0) (h3 : iw y = 0) (hm : M y ≤ 3000) : kMz (wt + 1) (zU wf wt y) (zU wx wt 0) iw M < kMz wt wf wx iw M := by
  have w := h.1 (wt - 1) (by omega)
  rw [kMz_eq, kMz_eq, show wt + 1 - 1 = wt by omega, zU_s, zU_s, h2, h3]
  omega
theorem mz_work {x : Int} (hx : x = wf (wt - 1)) (h0 : 0 ≤ x ∧ x < 1200) (h2 : iw x = 0) : kMz wt wf wx (zU iw x 1) M < kMz wt wf wx iw M := by
  have z := (kCt_set (f := iw) (a := 0) (n := 1200) (i := x) (by decide) (by omega) (by omega)).1
  rw [kMz_eq, kMz_eq, z, ← hx, zU_s, h2]
  omega
theorem mz_pop (h : STK wt wf wx ig iw V M) (h1 : 2 ≤ wt) (h2 : iw (wf (wt - 1)) = 1) (hm : ∀ z : Int, V z → M z ≤ 3000) : kMz (wt - 1) wf wx iw M < kMz wt wf wx iw M := by
  have w := h.1 (wt - 1) (by omega)
  have w2 := h.1 (wt - 1 - 1) (by omega)
  have w3 := hm _ w2.1.1
  have w4 := h.2.2.2 (wt - 1 - 1) (by omega)
  rw [kMz_eq, kMz_eq, h2, w4]
  omega
end STL
/-! an order of a code -/
section OKL
variable {ht orr oo : Int → Int} {first occs orders q : Int}
theorem okp_0 (h : OKP ht orr oo first occs orders q) (e : orr q = 0 ∨ orr q = 1) : (0 ≤ ht q ∧ ht q ≤ 58) ∧ ht (q + 1) = ht q + 1 := by
  rcases h with ⟨a, b, c⟩ | h | h | h | h
  · exact ⟨b, c⟩
  all_goals (exfalso; omega)
theorem okp_2 (h : OKP ht orr oo first occs orders q) (e : orr q = 2) : (first ≤ oo q ∧ oo q < occs) ∧ (0 ≤ ht q ∧ ht q ≤ 58) ∧ ht (q + 1) = ht q + 1 := by
  rcases h with ⟨a, b, c⟩ | h | h | h | h
  · exact ⟨by omega, b, c⟩
  all_goals (exfalso; omega)
theorem okp_3 (h : OKP ht orr oo first occs orders q) (e : orr q = 3) : (1 ≤ ht q ∧ ht q ≤ 59) ∧ ht (q + 1) = ht q := by
  rcases h with h | h | h | h | h
  · exfalso; omega
  · exact h.2
  all_goals (exfalso; omega)
theorem okp_4 (h : OKP ht orr oo first occs orders q) (e : orr q = 4) : (2 ≤ ht q ∧ ht q ≤ 59) ∧ ht (q + 1) = ht q - 1 := by
  rcases h with h | h | h | h | h
  · exfalso; omega
  · exfalso; omega
  · exact h.2
  all_goals (exfalso; omega)
theorem okp_5 (h : OKP ht orr oo first occs orders q) (e : orr q = 5) : (1 ≤ ht q ∧ ht q ≤ 59) ∧ ht (q + 1) = ht q - 1 ∧ (q + 1 < oo q ∧ oo q ≤ orders) ∧ ht (oo q) = ht q - 1 ∧ orr (oo q - 1) = 6 ∧ ht (oo q - 1) = ht q := by
  rcases h with h | h | h | h | h
  · exfalso; omega
  · exfalso; omega
  · exfalso; omega
  · exact h.2
  · exfalso; omega
theorem okp_6 (h : OKP ht orr oo first occs orders q) (e : ¬ orr q = 0 ∧ ¬ orr q = 1 ∧ ¬ orr q = 2 ∧ ¬ orr q = 3 ∧ ¬ orr q = 4 ∧ ¬ orr q = 5) : (1 ≤ ht q ∧ ht q ≤ 59) ∧ (q < oo q ∧ oo q ≤ orders) ∧ ht (oo q) = ht q := by
  rcases h with h | h | h | h | h
  · exfalso; omega
  · exfalso; omega
  · exfalso; omega
  · exfalso; omega
  · exact h.2
end OKL
