/-! what the law's loop keeps -/
theorem tri_0 {rc : Int} {nr na np nc cc rs : Int → Int} : TRI 0 rc nr na np nc cc rs := by
  intro k hk
  exact absurd hk (by omega)
theorem tri_keep {hg N sc rc sc2 rc2 : Int} {nr na np nc ac ih cc rs ac2 ih2 cc2 rs2 : Int → Int} (hh : hg = 0 ∨ hg = 1) (h : TRI N rc nr na np nc cc rs) (h0 : IMP (hg = 0) (N = 0)) (h1 : hg = 1 → sc = sc2 ∧ rc = rc2 ∧ SHP sc rc ac ih cc rs ac2 ih2 cc2 rs2) (hC : ∀ j : Int, 0 ≤ j ∧ j < rc → 0 ≤ cc j ∧ cc j ≤ 3) : TRI N rc2 nr na np nc cc2 rs2 := by
  rcases hh with q | q
  · rw [h0.to q]
    exact tri_0
  · obtain ⟨a, b, c⟩ := h1 q
    rw [← b]
    exact tri_shp h c (fun j hj => (hC j hj).1)
theorem dem_mk {hg sy N rc orders occs : Int} {nr na np nc ac ih cc rs ef eo em orr oo op oa : Int → Int} (hN : 0 ≤ N ∧ N ≤ 200) (hr : 0 ≤ rc ∧ rc ≤ 30) (ho : occs ≤ 3000) (hT : TRI N rc nr na np nc cc rs) (hE : EQB rc rc orders occs ef eo em orr oo op oa ac ih cc rs) (hI : IMP (hg = 1) (1 ≤ rc ∧ 1 ≤ sy ∧ ¬ (∃ a : Int, (0 ≤ a ∧ a < ac 0) ∧ ih a = 1))) (hh : hg = 0 ∨ hg = 1) (h0 : IMP (hg = 0) (N = 0)) (hC : ∀ j : Int, 0 ≤ j ∧ j < rc → 0 ≤ cc j ∧ cc j ≤ 3) (hA : BR ac 12 0 7) (hR : BR rs 120 0 12) : IMP (1 ≤ N) (DEM N rc orders occs nr na np nc ac ih cc rs ef eo em orr oo op oa) := by
  intro z
  have q : hg = 1 := by
    rcases hh with q | q
    · have y := h0.to q
      omega
    · exact q
  exact ⟨⟨hN, hr.2, ho⟩, hT, hE, (hI.to q).2.2, hC, hA, hR⟩
theorem fPut_br {f : Int → Int} {k w : Int} (h : BR f 3000 (-128) 128) : BR (fPut f k w) 3000 (-128) 128 := fPut_byte h
theorem fFeed_br {f : Int → Int} {k a b x y z : Int} (h : BR f 3000 (-128) 128) : BR (fFeed f k a b x y z) 3000 (-128) 128 := by
  unfold fFeed
  exact fPut_br (fPut_br (fPut_br (fPut_br (fPut_br h))))
theorem tbl_00 : TBL 0 0 (fun _ => 0) (fun _ => 0) (fun _ => 0) (fun _ => 0) (fun _ => 0) (fun _ => 0) (fun _ => 0) (fun _ => 0) (fun _ => 0) (fun _ => 0) (fun _ => 0) := by
  refine ⟨⟨by omega, by omega⟩, brC (by omega), brC (by omega), fun j hj => ?_, brC (by omega), brC (by omega), fun s a hs ha => ?_, brC (by omega), brC (by omega), brC (by omega), brC (by omega), brC (by omega), fun j hj q => ?_⟩
  · exact ⟨Int.le_refl _, Int.le_refl _⟩
  · have hb : a < (0 : Int) := ha.2
    omega
  · exact absurd (show (0 : Int) = -1 from q) (by decide)
theorem pk_00 : PK (fun _ => 0) (fun _ => 0) := fun j hj => ⟨(by decide : (-128 : Int) ≤ 0 ∧ (0 : Int) < 128), fun q => absurd (show (0 : Int) = 46 from q) (by decide)⟩
theorem kCt_00 : kCt (fun _ => 0) 0 1200 = 0 := kCt_none (fun j hj => by decide)
theorem zL_of {L : Nat} : Int32.ofNat L = zI (L : Int) := Int32.ofInt_eq_ofNat.symm
