set_option maxHeartbeats 4000000 in
set_option maxRecDepth 100000 in
theorem c_X1_clear (l : Launch) (dC : Nat → ClassId) (dI : Nat → Nat → Nat) (gr gsn gac gic gan gih grk grn grs gcc gec gcs gce ghg gop god : Nat) (sz : Nat) (sc_ : Int) (rc_ : Int) (cz_ : Int) : Met l yX1_clear wyX1_clear ({ frames := 0, cells := 0, slots := 0, locals := 0 }) (va_Pc [.ref gr] (fun U => U.heap.size = sz ∧ va_P (dC, dI) vwCl [(gr, .inr (1, [.int (zI sc_), .ref gsn, .ref gac, .ref gic, .ref gan, .ref gih, .ref grk, .int (zI rc_), .ref grn, .ref grs, .ref gcc, .ref gec, .ref gcs, .ref gce, .ref ghg, .ref gop, .ref god, .int (zI cz_)]))] U.heap ∧ va_K (dC, dI) vwCl [] U ∧ va_D (fun _ => True) [(gr, .inr (1, [.int (zI sc_), .ref gsn, .ref gac, .ref gic, .ref gan, .ref gih, .ref grk, .int (zI rc_), .ref grn, .ref grs, .ref gcc, .ref gec, .ref gcs, .ref gce, .ref ghg, .ref gop, .ref god, .int (zI cz_)]))])) (va_Qv (fun _ : Unit => True) (fun _ t => va_P (dC, dI) vwCl [(gr, .inr (1, [.int (zI 0), .ref gsn, .ref gac, .ref gic, .ref gan, .ref gih, .ref grk, .int (zI 0), .ref grn, .ref grs, .ref gcc, .ref gec, .ref gcs, .ref gce, .ref ghg, .ref gop, .ref god, .int (zI 0)]))] t.heap ∧ va_K (dC, dI) vwCl [] t ∧ va_D (va_A [(gr, .inr (1, [.int (zI sc_), .ref gsn, .ref gac, .ref gic, .ref gan, .ref gih, .ref grk, .int (zI rc_), .ref grn, .ref grs, .ref gcc, .ref gec, .ref gcs, .ref gce, .ref ghg, .ref gop, .ref god, .int (zI cz_)]))] sz) [(gr, .inr (1, [.int (zI 0), .ref gsn, .ref gac, .ref gic, .ref gan, .ref gih, .ref grk, .int (zI 0), .ref grn, .ref grs, .ref gcc, .ref gec, .ref gcs, .ref gce, .ref ghg, .ref gop, .ref god, .int (zI 0)]))]) (va_A [(gr, .inr (1, [.int (zI sc_), .ref gsn, .ref gac, .ref gic, .ref gan, .ref gih, .ref grk, .int (zI rc_), .ref grn, .ref grs, .ref gcc, .ref gec, .ref gcs, .ref gce, .ref ghg, .ref gop, .ref god, .int (zI cz_)]))] sz)) 0 0 (va_A [(gr, .inr (1, [.int (zI sc_), .ref gsn, .ref gac, .ref gic, .ref gan, .ref gih, .ref grk, .int (zI rc_), .ref grn, .ref grs, .ref gcc, .ref gec, .ref gcs, .ref gce, .ref ghg, .ref gop, .ref god, .int (zI cz_)]))] sz) := by
  refine Met.ofW (cc := cX1_clear) (maxL := 1) (ret := none) (by decide) rfl ?_
  intro p e s m args below meth c s₁ B hml hv
  obtain ⟨rfl, hsz, hP, hK, hD0⟩ := hv
  have hx := B.exec
  have hb := B.bytes
  have hr := B.returns
  have hts := atoms_spec (ws := wyX1_clear) B.pre
  have hg : ∀ w ∈ lw_G, w.before _ s = true := fun w h => hts w (List.mem_cons_of_mem _ h)
  have hown : s.vm.findClass RX1 = some m.cls := findClass_of_methodNamed B.named
  have hlocks := B.notSynchronized
  subst hsz
  have hD := hD0.self (sz := s.heap.size)
  generalize hAe : va_A [(gr, .inr (1, [.int (zI sc_), .ref gsn, .ref gac, .ref gic, .ref gan, .ref gih, .ref grk, .int (zI rc_), .ref grn, .ref grs, .ref gcc, .ref gec, .ref gcs, .ref gce, .ref ghg, .ref gop, .ref god, .int (zI cz_)]))] s.heap.size = A at hD ⊢
  have hA : ∀ q : Nat, s.heap.size ≤ q → A q := fun q h => by rw [← hAe]; exact Or.inr h
  have hS : va_S A s.heap s.heap [] := va_S.rf
  have hP : va_P (dC, dI) vwCl [(gr, .inr (1, [.int (zI sc_), .ref gsn, .ref gac, .ref gic, .ref gan, .ref gih, .ref grk, .int (zI rc_), .ref grn, .ref grs, .ref gcc, .ref gec, .ref gcs, .ref gce, .ref ghg, .ref gop, .ref god, .int (zI cz_)]))] s.heap := hP
  have hl := lv_entry ([.ref gr]) (n := 1) (Nat.le_of_ble_eq_true rfl)
  rw [lg_entry_eq]
  generalize (lg_sl ([.ref gr]) ++ List.replicate (1 - (lg_sl ([.ref gr])).length) Slot.unset).toArray = ls at hl ⊢
  have hl : lv_has ls 1 [(0, .ref gr)] := hl
  refine lv_aload_n hx hb dX1_clear_0 rfl (lv_at hl 0 rfl) ?_
  refine lv_iconst (v := zI 0) hx hb dX1_clear_1 rfl ?_
  refine va_put (D := (dC, dI)) (ci := 1) (v := .int (zI 0)) (ty := .int) (C := RX1) (T := TX1) (N := 18) hx hb hg inG_X1 tyX1 tyX1_ok nmX1 hown hK hP hD hS 0 rfl rfl 0 (by decide) (hg (.fieldLink RX1 9 "AttributeDesk$Grammar" "symbolCount" "I") gw_1_26) (fun _ h9 => h9) rfl (by decide +kernel) rfl rfl (Nat.le_of_ble_eq_true rfl) dX1_clear_2 (fun H locs hP hD hS => ?_)
  have hP : va_P (dC, dI) vwCl [(gr, .inr (1, [.int (zI 0), .ref gsn, .ref gac, .ref gic, .ref gan, .ref gih, .ref grk, .int (zI rc_), .ref grn, .ref grs, .ref gcc, .ref gec, .ref gcs, .ref gce, .ref ghg, .ref gop, .ref god, .int (zI cz_)]))] H := hP
  have hD : va_D A [(gr, .inr (1, [.int (zI 0), .ref gsn, .ref gac, .ref gic, .ref gan, .ref gih, .ref grk, .int (zI rc_), .ref grn, .ref grs, .ref gcc, .ref gec, .ref gcs, .ref gce, .ref ghg, .ref gop, .ref god, .int (zI cz_)]))] := hD
  refine lv_aload_n hx hb dX1_clear_5 rfl (lv_at hl 0 rfl) ?_
  refine lv_iconst (v := zI 0) hx hb dX1_clear_6 rfl ?_
  refine va_put (D := (dC, dI)) (ci := 1) (v := .int (zI 0)) (ty := .int) (C := RX1) (T := TX1) (N := 18) hx hb hg inG_X1 tyX1 tyX1_ok nmX1 hown hK hP hD hS 0 rfl rfl 7 (by decide) (hg (.fieldLink RX1 36 "AttributeDesk$Grammar" "ruleCount" "I") gw_1_41) (fun _ h9 => h9) rfl (by decide +kernel) rfl rfl (Nat.le_of_ble_eq_true rfl) dX1_clear_7 (fun H locs hP hD hS => ?_)
  have hP : va_P (dC, dI) vwCl [(gr, .inr (1, [.int (zI 0), .ref gsn, .ref gac, .ref gic, .ref gan, .ref gih, .ref grk, .int (zI 0), .ref grn, .ref grs, .ref gcc, .ref gec, .ref gcs, .ref gce, .ref ghg, .ref gop, .ref god, .int (zI cz_)]))] H := hP
  have hD : va_D A [(gr, .inr (1, [.int (zI 0), .ref gsn, .ref gac, .ref gic, .ref gan, .ref gih, .ref grk, .int (zI 0), .ref grn, .ref grs, .ref gcc, .ref gec, .ref gcs, .ref gce, .ref ghg, .ref gop, .ref god, .int (zI cz_)]))] := hD
  refine lv_aload_n hx hb dX1_clear_10 rfl (lv_at hl 0 rfl) ?_
  refine lv_iconst (v := zI 0) hx hb dX1_clear_11 rfl ?_
  refine va_put (D := (dC, dI)) (ci := 1) (v := .int (zI 0)) (ty := .int) (C := RX1) (T := TX1) (N := 18) hx hb hg inG_X1 tyX1 tyX1_ok nmX1 hown hK hP hD hS 0 rfl rfl 17 (by decide) (hg (.fieldLink RX1 66 "AttributeDesk$Grammar" "codeSize" "I") gw_1_71) (fun _ h9 => h9) rfl (by decide +kernel) rfl rfl (Nat.le_of_ble_eq_true rfl) dX1_clear_12 (fun H locs hP hD hS => ?_)
  have hP : va_P (dC, dI) vwCl [(gr, .inr (1, [.int (zI 0), .ref gsn, .ref gac, .ref gic, .ref gan, .ref gih, .ref grk, .int (zI 0), .ref grn, .ref grs, .ref gcc, .ref gec, .ref gcs, .ref gce, .ref ghg, .ref gop, .ref god, .int (zI 0)]))] H := hP
  have hD : va_D A [(gr, .inr (1, [.int (zI 0), .ref gsn, .ref gac, .ref gic, .ref gan, .ref gih, .ref grk, .int (zI 0), .ref grn, .ref grs, .ref gcc, .ref gec, .ref gcs, .ref gce, .ref ghg, .ref gop, .ref god, .int (zI 0)]))] := hD
  have hP9 := hP.sub (ws' := [(gr, .inr (1, [.int (zI 0), .ref gsn, .ref gac, .ref gic, .ref gan, .ref gih, .ref grk, .int (zI 0), .ref grn, .ref grs, .ref gcc, .ref gec, .ref gcs, .ref gce, .ref ghg, .ref gop, .ref god, .int (zI 0)]))]) [0] rfl
  have hD9 := hD.sub (ws' := [(gr, .inr (1, [.int (zI 0), .ref gsn, .ref gac, .ref gic, .ref gan, .ref gih, .ref grk, .int (zI 0), .ref grn, .ref grs, .ref gcc, .ref gec, .ref gcs, .ref gce, .ref ghg, .ref gop, .ref god, .int (zI 0)]))]) [0] (by decide) rfl
  have hK9 := hK.sub (tys' := []) [] rfl
  exact W.vret hx hb hr (fun t ht hW => ⟨⟨(), rfl, trivial, by rw [ht]; exact hP9, va_K.moved hW.alike hK9, hD9⟩, hS.F ht⟩) hS.2.2 dX1_clear_15

set_option maxHeartbeats 4000000 in
set_option maxRecDepth 100000 in
theorem c_X1_symbolAt (l : Launch) (dC : Nat → ClassId) (dI : Nat → Nat → Nat) (gr grs gsn gac gic gan gih grk grn gcc gec gcs gce ghg gop god : Nat) (cI : ClassId) (sz : Nat) (sc_ : Int) (rc_ : Int) (cz_ : Int) (rs_ : Int → Int) (r_ : Int) (p_ : Int) (hr_ : 0 ≤ r_ ∧ r_ < 30) (hp_ : 0 ≤ p_ ∧ p_ < 4) : Met l yX1_symbolAt wyX1_symbolAt ({ frames := 0, cells := 0, slots := 0, locals := 0 }) (va_Pc [.ref gr, .int (zI r_), .int (zI p_)] (fun U => U.heap.size = sz ∧ va_P (dC, dI) vwCl [(gr, .inr (1, [.int (zI sc_), .ref gsn, .ref gac, .ref gic, .ref gan, .ref gih, .ref grk, .int (zI rc_), .ref grn, .ref grs, .ref gcc, .ref gec, .ref gcs, .ref gce, .ref ghg, .ref gop, .ref god, .int (zI cz_)])), (grs, .inl (cI, 120, .inl (zF rs_)))] U.heap ∧ va_K (dC, dI) vwCl [(cI, .int)] U ∧ va_D (fun _ => True) [(gr, .inr (1, [.int (zI sc_), .ref gsn, .ref gac, .ref gic, .ref gan, .ref gih, .ref grk, .int (zI rc_), .ref grn, .ref grs, .ref gcc, .ref gec, .ref gcs, .ref gce, .ref ghg, .ref gop, .ref god, .int (zI cz_)])), (grs, .inl (cI, 120, .inl (zF rs_)))])) (va_Qi (fun (rr : Int32) (_ : Unit) => rr = zI (rs_ (4 * r_ + p_))) (fun _ t => va_P (dC, dI) vwCl [(gr, .inr (1, [.int (zI sc_), .ref gsn, .ref gac, .ref gic, .ref gan, .ref gih, .ref grk, .int (zI rc_), .ref grn, .ref grs, .ref gcc, .ref gec, .ref gcs, .ref gce, .ref ghg, .ref gop, .ref god, .int (zI cz_)])), (grs, .inl (cI, 120, .inl (zF rs_)))] t.heap ∧ va_K (dC, dI) vwCl [(cI, .int)] t ∧ va_D (va_A [(gr, .inr (1, [.int (zI sc_), .ref gsn, .ref gac, .ref gic, .ref gan, .ref gih, .ref grk, .int (zI rc_), .ref grn, .ref grs, .ref gcc, .ref gec, .ref gcs, .ref gce, .ref ghg, .ref gop, .ref god, .int (zI cz_)])), (grs, .inl (cI, 120, .inl (zF rs_)))] sz) [(gr, .inr (1, [.int (zI sc_), .ref gsn, .ref gac, .ref gic, .ref gan, .ref gih, .ref grk, .int (zI rc_), .ref grn, .ref grs, .ref gcc, .ref gec, .ref gcs, .ref gce, .ref ghg, .ref gop, .ref god, .int (zI cz_)])), (grs, .inl (cI, 120, .inl (zF rs_)))]) (va_A [(gr, .inr (1, [.int (zI sc_), .ref gsn, .ref gac, .ref gic, .ref gan, .ref gih, .ref grk, .int (zI rc_), .ref grn, .ref grs, .ref gcc, .ref gec, .ref gcs, .ref gce, .ref ghg, .ref gop, .ref god, .int (zI cz_)])), (grs, .inl (cI, 120, .inl (zF rs_)))] sz)) 0 0 (va_A [(gr, .inr (1, [.int (zI sc_), .ref gsn, .ref gac, .ref gic, .ref gan, .ref gih, .ref grk, .int (zI rc_), .ref grn, .ref grs, .ref gcc, .ref gec, .ref gcs, .ref gce, .ref ghg, .ref gop, .ref god, .int (zI cz_)])), (grs, .inl (cI, 120, .inl (zF rs_)))] sz) := by
  refine Met.ofW (cc := cX1_symbolAt) (maxL := 3) (ret := (some .int)) (by decide) rfl ?_
  intro p e s m args below meth c s₁ B hml hv
  obtain ⟨rfl, hsz, hP, hK, hD0⟩ := hv
  have hx := B.exec
  have hb := B.bytes
  have hr := B.returns
  have hts := atoms_spec (ws := wyX1_symbolAt) B.pre
  have hg : ∀ w ∈ lw_G, w.before _ s = true := fun w h => hts w (List.mem_cons_of_mem _ h)
  have hown : s.vm.findClass RX1 = some m.cls := findClass_of_methodNamed B.named
  have hlocks := B.notSynchronized
  subst hsz
  have hD := hD0.self (sz := s.heap.size)
  generalize hAe : va_A [(gr, .inr (1, [.int (zI sc_), .ref gsn, .ref gac, .ref gic, .ref gan, .ref gih, .ref grk, .int (zI rc_), .ref grn, .ref grs, .ref gcc, .ref gec, .ref gcs, .ref gce, .ref ghg, .ref gop, .ref god, .int (zI cz_)])), (grs, .inl (cI, 120, .inl (zF rs_)))] s.heap.size = A at hD ⊢
  have hA : ∀ q : Nat, s.heap.size ≤ q → A q := fun q h => by rw [← hAe]; exact Or.inr h
  have hS : va_S A s.heap s.heap [] := va_S.rf
  have hP : va_P (dC, dI) vwCl [(gr, .inr (1, [.int (zI sc_), .ref gsn, .ref gac, .ref gic, .ref gan, .ref gih, .ref grk, .int (zI rc_), .ref grn, .ref grs, .ref gcc, .ref gec, .ref gcs, .ref gce, .ref ghg, .ref gop, .ref god, .int (zI cz_)])), (grs, .inl (cI, 120, .inl (zF rs_)))] s.heap := hP
  have hl := lv_entry ([.ref gr, .int (zI r_), .int (zI p_)]) (n := 3) (Nat.le_of_ble_eq_true rfl)
  rw [lg_entry_eq]
  generalize (lg_sl ([.ref gr, .int (zI r_), .int (zI p_)]) ++ List.replicate (3 - (lg_sl ([.ref gr, .int (zI r_), .int (zI p_)])).length) Slot.unset).toArray = ls at hl ⊢
  have hl : lv_has ls 3 [(0, .ref gr), (1, .int (zI r_)), (2, .int (zI p_))] := hl
  refine lv_aload_n hx hb dX1_symbolAt_0 rfl (lv_at hl 0 rfl) ?_
  refine va_get (D := (dC, dI)) (ci := 1) (v := .ref grs) (C := RX1) (T := TX1) (N := 18) hx hb hg inG_X1 hown hK hP 0 rfl rfl 9 (by decide) (hg (.fieldLink RX1 42 "AttributeDesk$Grammar" "ruleSymbols" "[I") gw_1_46) (fun _ h9 => h9) rfl dX1_symbolAt_1 ?_
  refine lv_iload_n hx hb dX1_symbolAt_4 rfl (lv_at hl 1 rfl) ?_
  refine lv_iconst (v := zI 4) hx hb dX1_symbolAt_5 rfl ?_
  refine zv_imul (r := 4 * r_) hx hb dX1_symbolAt_6 (by omega) ?_
  refine lv_iload_n hx hb dX1_symbolAt_7 rfl (lv_at hl 2 rfl) ?_
  refine zv_iadd (r := 4 * r_ + p_) hx hb dX1_symbolAt_8 (by omega) ?_
  refine zv_iald (D := (dC, dI)) hx hb hK hP 1 0 rfl rfl (by omega) (Nat.le_of_ble_eq_true rfl) dX1_symbolAt_9 ?_
  have hP9 := hP.sub (ws' := [(gr, .inr (1, [.int (zI sc_), .ref gsn, .ref gac, .ref gic, .ref gan, .ref gih, .ref grk, .int (zI rc_), .ref grn, .ref grs, .ref gcc, .ref gec, .ref gcs, .ref gce, .ref ghg, .ref gop, .ref god, .int (zI cz_)])), (grs, .inl (cI, 120, .inl (zF rs_)))]) [0, 1] rfl
  have hD9 := hD.sub (ws' := [(gr, .inr (1, [.int (zI sc_), .ref gsn, .ref gac, .ref gic, .ref gan, .ref gih, .ref grk, .int (zI rc_), .ref grn, .ref grs, .ref gcc, .ref gec, .ref gcs, .ref gce, .ref ghg, .ref gop, .ref god, .int (zI cz_)])), (grs, .inl (cI, 120, .inl (zF rs_)))]) [0, 1] (by decide) rfl
  have hK9 := hK.sub (tys' := [(cI, .int)]) [0] rfl
  exact W.iret (v := zI (rs_ (4 * r_ + p_))) hx hb hr (fun t ht hW => ⟨⟨zI (rs_ (4 * r_ + p_)), (), rfl, rfl, by rw [ht]; exact hP9, va_K.moved hW.alike hK9, hD9⟩, hS.F ht⟩) hS.2.2 dX1_symbolAt_10

set_option maxHeartbeats 4000000 in
set_option maxRecDepth 100000 in
theorem c_X1_isInherited (l : Launch) (dC : Nat → ClassId) (dI : Nat → Nat → Nat) (gr gih gsn gac gic gan grk grn grs gcc gec gcs gce ghg gop god : Nat) (cZ : ClassId) (sz : Nat) (sc_ : Int) (rc_ : Int) (cz_ : Int) (ih_ : Int → Int) (s_ : Int) (a_ : Int) (hs_ : 0 ≤ s_ ∧ s_ < 12) (ha_ : 0 ≤ a_ ∧ a_ < 6) (hih : ∀ j : Int, 0 ≤ j ∧ j < 72 → ih_ j = 0 ∨ ih_ j = 1) : Met l yX1_isInherited wyX1_isInherited ({ frames := 0, cells := 0, slots := 0, locals := 0 }) (va_Pc [.ref gr, .int (zI s_), .int (zI a_)] (fun U => U.heap.size = sz ∧ va_P (dC, dI) vwCl [(gr, .inr (1, [.int (zI sc_), .ref gsn, .ref gac, .ref gic, .ref gan, .ref gih, .ref grk, .int (zI rc_), .ref grn, .ref grs, .ref gcc, .ref gec, .ref gcs, .ref gce, .ref ghg, .ref gop, .ref god, .int (zI cz_)])), (gih, .inl (cZ, 72, .inl (zF ih_)))] U.heap ∧ va_K (dC, dI) vwCl [(cZ, .boolean)] U ∧ va_D (fun _ => True) [(gr, .inr (1, [.int (zI sc_), .ref gsn, .ref gac, .ref gic, .ref gan, .ref gih, .ref grk, .int (zI rc_), .ref grn, .ref grs, .ref gcc, .ref gec, .ref gcs, .ref gce, .ref ghg, .ref gop, .ref god, .int (zI cz_)])), (gih, .inl (cZ, 72, .inl (zF ih_)))])) (va_Qi (fun (rr : Int32) (_ : Unit) => rr = zI (ih_ (6 * s_ + a_))) (fun _ t => va_P (dC, dI) vwCl [(gr, .inr (1, [.int (zI sc_), .ref gsn, .ref gac, .ref gic, .ref gan, .ref gih, .ref grk, .int (zI rc_), .ref grn, .ref grs, .ref gcc, .ref gec, .ref gcs, .ref gce, .ref ghg, .ref gop, .ref god, .int (zI cz_)])), (gih, .inl (cZ, 72, .inl (zF ih_)))] t.heap ∧ va_K (dC, dI) vwCl [(cZ, .boolean)] t ∧ va_D (va_A [(gr, .inr (1, [.int (zI sc_), .ref gsn, .ref gac, .ref gic, .ref gan, .ref gih, .ref grk, .int (zI rc_), .ref grn, .ref grs, .ref gcc, .ref gec, .ref gcs, .ref gce, .ref ghg, .ref gop, .ref god, .int (zI cz_)])), (gih, .inl (cZ, 72, .inl (zF ih_)))] sz) [(gr, .inr (1, [.int (zI sc_), .ref gsn, .ref gac, .ref gic, .ref gan, .ref gih, .ref grk, .int (zI rc_), .ref grn, .ref grs, .ref gcc, .ref gec, .ref gcs, .ref gce, .ref ghg, .ref gop, .ref god, .int (zI cz_)])), (gih, .inl (cZ, 72, .inl (zF ih_)))]) (va_A [(gr, .inr (1, [.int (zI sc_), .ref gsn, .ref gac, .ref gic, .ref gan, .ref gih, .ref grk, .int (zI rc_), .ref grn, .ref grs, .ref gcc, .ref gec, .ref gcs, .ref gce, .ref ghg, .ref gop, .ref god, .int (zI cz_)])), (gih, .inl (cZ, 72, .inl (zF ih_)))] sz)) 0 0 (va_A [(gr, .inr (1, [.int (zI sc_), .ref gsn, .ref gac, .ref gic, .ref gan, .ref gih, .ref grk, .int (zI rc_), .ref grn, .ref grs, .ref gcc, .ref gec, .ref gcs, .ref gce, .ref ghg, .ref gop, .ref god, .int (zI cz_)])), (gih, .inl (cZ, 72, .inl (zF ih_)))] sz) := by
  refine Met.ofW (cc := cX1_isInherited) (maxL := 3) (ret := (some .boolean)) (by decide) rfl ?_
  intro p e s m args below meth c s₁ B hml hv
  obtain ⟨rfl, hsz, hP, hK, hD0⟩ := hv
  have hx := B.exec
  have hb := B.bytes
  have hr := B.returns
  have hts := atoms_spec (ws := wyX1_isInherited) B.pre
  have hg : ∀ w ∈ lw_G, w.before _ s = true := fun w h => hts w (List.mem_cons_of_mem _ h)
  have hown : s.vm.findClass RX1 = some m.cls := findClass_of_methodNamed B.named
  have hlocks := B.notSynchronized
  subst hsz
  have hD := hD0.self (sz := s.heap.size)
  generalize hAe : va_A [(gr, .inr (1, [.int (zI sc_), .ref gsn, .ref gac, .ref gic, .ref gan, .ref gih, .ref grk, .int (zI rc_), .ref grn, .ref grs, .ref gcc, .ref gec, .ref gcs, .ref gce, .ref ghg, .ref gop, .ref god, .int (zI cz_)])), (gih, .inl (cZ, 72, .inl (zF ih_)))] s.heap.size = A at hD ⊢
  have hA : ∀ q : Nat, s.heap.size ≤ q → A q := fun q h => by rw [← hAe]; exact Or.inr h
  have hS : va_S A s.heap s.heap [] := va_S.rf
  have hP : va_P (dC, dI) vwCl [(gr, .inr (1, [.int (zI sc_), .ref gsn, .ref gac, .ref gic, .ref gan, .ref gih, .ref grk, .int (zI rc_), .ref grn, .ref grs, .ref gcc, .ref gec, .ref gcs, .ref gce, .ref ghg, .ref gop, .ref god, .int (zI cz_)])), (gih, .inl (cZ, 72, .inl (zF ih_)))] s.heap := hP
  have hl := lv_entry ([.ref gr, .int (zI s_), .int (zI a_)]) (n := 3) (Nat.le_of_ble_eq_true rfl)
  rw [lg_entry_eq]
  generalize (lg_sl ([.ref gr, .int (zI s_), .int (zI a_)]) ++ List.replicate (3 - (lg_sl ([.ref gr, .int (zI s_), .int (zI a_)])).length) Slot.unset).toArray = ls at hl ⊢
  have hl : lv_has ls 3 [(0, .ref gr), (1, .int (zI s_)), (2, .int (zI a_))] := hl
  refine lv_aload_n hx hb dX1_isInherited_0 rfl (lv_at hl 0 rfl) ?_
  refine va_get (D := (dC, dI)) (ci := 1) (v := .ref gih) (C := RX1) (T := TX1) (N := 18) hx hb hg inG_X1 hown hK hP 0 rfl rfl 5 (by decide) (hg (.fieldLink RX1 29 "AttributeDesk$Grammar" "inherited" "[Z") gw_1_39) (fun _ h9 => h9) rfl dX1_isInherited_1 ?_
  refine lv_iload_n hx hb dX1_isInherited_4 rfl (lv_at hl 1 rfl) ?_
  refine lv_bipush (v := zI 6) hx hb dX1_isInherited_5 (by decide) ?_
  refine zv_imul (r := 6 * s_) hx hb dX1_isInherited_7 (by omega) ?_
  refine lv_iload_n hx hb dX1_isInherited_8 rfl (lv_at hl 2 rfl) ?_
  refine zv_iadd (r := 6 * s_ + a_) hx hb dX1_isInherited_9 (by omega) ?_
  refine zv_zald (D := (dC, dI)) hx hb hK hP 1 0 rfl rfl (by omega) (Nat.le_of_ble_eq_true rfl) dX1_isInherited_10 ?_
  have hv1 := hih (6 * s_ + a_) (by omega)
  have hP9 := hP.sub (ws' := [(gr, .inr (1, [.int (zI sc_), .ref gsn, .ref gac, .ref gic, .ref gan, .ref gih, .ref grk, .int (zI rc_), .ref grn, .ref grs, .ref gcc, .ref gec, .ref gcs, .ref gce, .ref ghg, .ref gop, .ref god, .int (zI cz_)])), (gih, .inl (cZ, 72, .inl (zF ih_)))]) [0, 1] rfl
  have hD9 := hD.sub (ws' := [(gr, .inr (1, [.int (zI sc_), .ref gsn, .ref gac, .ref gic, .ref gan, .ref gih, .ref grk, .int (zI rc_), .ref grn, .ref grs, .ref gcc, .ref gec, .ref gcs, .ref gce, .ref ghg, .ref gop, .ref god, .int (zI cz_)])), (gih, .inl (cZ, 72, .inl (zF ih_)))]) [0, 1] (by decide) rfl
  have hK9 := hK.sub (tys' := [(cZ, .boolean)]) [0] rfl
  exact W.zret (v := zI (ih_ (6 * s_ + a_))) hx hb hr (by rcases (show (ih_ (6 * s_ + a_)) = 0 ∨ (ih_ (6 * s_ + a_)) = 1 by omega) with q | q <;> rw [q] <;> decide) (fun t ht hW => ⟨⟨zI (ih_ (6 * s_ + a_)), (), rfl, rfl, by rw [ht]; exact hP9, va_K.moved hW.alike hK9, hD9⟩, hS.F ht⟩) hS.2.2 dX1_isInherited_11

set_option maxHeartbeats 4000000 in
set_option maxRecDepth 100000 in
theorem c_X1_mayTell (l : Launch) (dC : Nat → ClassId) (dI : Nat → Nat → Nat) (gr gih gsn gac gic gan grk grn grs gcc gec gcs gce ghg gop god : Nat) (cZ : ClassId) (sz : Nat) (sc_ : Int) (rc_ : Int) (cz_ : Int) (ih_ : Int → Int) (p_ : Int) (s_ : Int) (a_ : Int) (hp_ : 0 ≤ p_ ∧ p_ < 4) (hs_ : 0 ≤ s_ ∧ s_ < 12) (ha_ : 0 ≤ a_ ∧ a_ < 6) (hih : ∀ j : Int, 0 ≤ j ∧ j < 72 → ih_ j = 0 ∨ ih_ j = 1) : Met l yX1_mayTell wyX1_mayTell ({ frames := 0, cells := 0, slots := 0, locals := 0 }) (va_Pc [.ref gr, .int (zI p_), .int (zI s_), .int (zI a_)] (fun U => U.heap.size = sz ∧ va_P (dC, dI) vwCl [(gr, .inr (1, [.int (zI sc_), .ref gsn, .ref gac, .ref gic, .ref gan, .ref gih, .ref grk, .int (zI rc_), .ref grn, .ref grs, .ref gcc, .ref gec, .ref gcs, .ref gce, .ref ghg, .ref gop, .ref god, .int (zI cz_)])), (gih, .inl (cZ, 72, .inl (zF ih_)))] U.heap ∧ va_K (dC, dI) vwCl [(cZ, .boolean)] U ∧ va_D (fun _ => True) [(gr, .inr (1, [.int (zI sc_), .ref gsn, .ref gac, .ref gic, .ref gan, .ref gih, .ref grk, .int (zI rc_), .ref grn, .ref grs, .ref gcc, .ref gec, .ref gcs, .ref gce, .ref ghg, .ref gop, .ref god, .int (zI cz_)])), (gih, .inl (cZ, 72, .inl (zF ih_)))])) (va_Qi (fun (rr : Int32) (r : Int) => rr = zI r) (fun r t => ((r = 1 ∧ (ih_ (6 * s_ + a_) = 1 ↔ 0 < p_)) ∨ (r = 0 ∧ ¬ (ih_ (6 * s_ + a_) = 1 ↔ 0 < p_))) ∧ va_P (dC, dI) vwCl [(gr, .inr (1, [.int (zI sc_), .ref gsn, .ref gac, .ref gic, .ref gan, .ref gih, .ref grk, .int (zI rc_), .ref grn, .ref grs, .ref gcc, .ref gec, .ref gcs, .ref gce, .ref ghg, .ref gop, .ref god, .int (zI cz_)])), (gih, .inl (cZ, 72, .inl (zF ih_)))] t.heap ∧ va_K (dC, dI) vwCl [(cZ, .boolean)] t ∧ va_D (va_A [(gr, .inr (1, [.int (zI sc_), .ref gsn, .ref gac, .ref gic, .ref gan, .ref gih, .ref grk, .int (zI rc_), .ref grn, .ref grs, .ref gcc, .ref gec, .ref gcs, .ref gce, .ref ghg, .ref gop, .ref god, .int (zI cz_)])), (gih, .inl (cZ, 72, .inl (zF ih_)))] sz) [(gr, .inr (1, [.int (zI sc_), .ref gsn, .ref gac, .ref gic, .ref gan, .ref gih, .ref grk, .int (zI rc_), .ref grn, .ref grs, .ref gcc, .ref gec, .ref gcs, .ref gce, .ref ghg, .ref gop, .ref god, .int (zI cz_)])), (gih, .inl (cZ, 72, .inl (zF ih_)))]) (va_A [(gr, .inr (1, [.int (zI sc_), .ref gsn, .ref gac, .ref gic, .ref gan, .ref gih, .ref grk, .int (zI rc_), .ref grn, .ref grs, .ref gcc, .ref gec, .ref gcs, .ref gce, .ref ghg, .ref gop, .ref god, .int (zI cz_)])), (gih, .inl (cZ, 72, .inl (zF ih_)))] sz)) 0 0 (va_A [(gr, .inr (1, [.int (zI sc_), .ref gsn, .ref gac, .ref gic, .ref gan, .ref gih, .ref grk, .int (zI rc_), .ref grn, .ref grs, .ref gcc, .ref gec, .ref gcs, .ref gce, .ref ghg, .ref gop, .ref god, .int (zI cz_)])), (gih, .inl (cZ, 72, .inl (zF ih_)))] sz) := by
  refine Met.ofW (cc := cX1_mayTell) (maxL := 4) (ret := (some .boolean)) (by decide) rfl ?_
  intro p e s m args below meth c s₁ B hml hv
  obtain ⟨rfl, hsz, hP, hK, hD0⟩ := hv
  have hx := B.exec
  have hb := B.bytes
  have hr := B.returns
  have hts := atoms_spec (ws := wyX1_mayTell) B.pre
  have hg : ∀ w ∈ lw_G, w.before _ s = true := fun w h => hts w (List.mem_cons_of_mem _ h)
  have hown : s.vm.findClass RX1 = some m.cls := findClass_of_methodNamed B.named
  have hlocks := B.notSynchronized
  subst hsz
  have hD := hD0.self (sz := s.heap.size)
  generalize hAe : va_A [(gr, .inr (1, [.int (zI sc_), .ref gsn, .ref gac, .ref gic, .ref gan, .ref gih, .ref grk, .int (zI rc_), .ref grn, .ref grs, .ref gcc, .ref gec, .ref gcs, .ref gce, .ref ghg, .ref gop, .ref god, .int (zI cz_)])), (gih, .inl (cZ, 72, .inl (zF ih_)))] s.heap.size = A at hD ⊢
  have hA : ∀ q : Nat, s.heap.size ≤ q → A q := fun q h => by rw [← hAe]; exact Or.inr h
  have hS : va_S A s.heap s.heap [] := va_S.rf
  have hP : va_P (dC, dI) vwCl [(gr, .inr (1, [.int (zI sc_), .ref gsn, .ref gac, .ref gic, .ref gan, .ref gih, .ref grk, .int (zI rc_), .ref grn, .ref grs, .ref gcc, .ref gec, .ref gcs, .ref gce, .ref ghg, .ref gop, .ref god, .int (zI cz_)])), (gih, .inl (cZ, 72, .inl (zF ih_)))] s.heap := hP
  have hl := lv_entry ([.ref gr, .int (zI p_), .int (zI s_), .int (zI a_)]) (n := 4) (Nat.le_of_ble_eq_true rfl)
  rw [lg_entry_eq]
  generalize (lg_sl ([.ref gr, .int (zI p_), .int (zI s_), .int (zI a_)]) ++ List.replicate (4 - (lg_sl ([.ref gr, .int (zI p_), .int (zI s_), .int (zI a_)])).length) Slot.unset).toArray = ls at hl ⊢
  have hl : lv_has ls 4 [(0, .ref gr), (1, .int (zI p_)), (2, .int (zI s_)), (3, .int (zI a_))] := hl
  refine lv_aload_n hx hb dX1_mayTell_0 rfl (lv_at hl 0 rfl) ?_
  refine va_get (D := (dC, dI)) (ci := 1) (v := .ref gih) (C := RX1) (T := TX1) (N := 18) hx hb hg inG_X1 hown hK hP 0 rfl rfl 5 (by decide) (hg (.fieldLink RX1 29 "AttributeDesk$Grammar" "inherited" "[Z") gw_1_39) (fun _ h9 => h9) rfl dX1_mayTell_1 ?_
  refine lv_iload_n hx hb dX1_mayTell_4 rfl (lv_at hl 2 rfl) ?_
  refine lv_bipush (v := zI 6) hx hb dX1_mayTell_5 (by decide) ?_
  refine zv_imul (r := 6 * s_) hx hb dX1_mayTell_7 (by omega) ?_
  refine lv_iload_n hx hb dX1_mayTell_8 rfl (lv_at hl 3 rfl) ?_
  refine zv_iadd (r := 6 * s_ + a_) hx hb dX1_mayTell_9 (by omega) ?_
  refine zv_zald (D := (dC, dI)) hx hb hK hP 1 0 rfl rfl (by omega) (Nat.le_of_ble_eq_true rfl) dX1_mayTell_10 ?_
  have hv1 := hih (6 * s_ + a_) (by omega)
  refine lv_iload_n hx hb dX1_mayTell_11 rfl (lv_at hl 1 rfl) ?_
  refine zv_if_le (tgt := 19) hx hb dX1_mayTell_12 (by decide) (by omega) (fun c2 => ?_) (fun c2 => ?_)
  · refine lv_iconst (v := zI 0) hx hb dX1_mayTell_19 rfl ?_
    refine zv_icmp_ne (tgt := 27) hx hb dX1_mayTell_20 (by decide) (by omega) (by decide) (fun c3 => ?_) (fun c3 => ?_)
    · refine lv_iconst (v := zI 0) hx hb dX1_mayTell_27 rfl ?_
      have hP9 := hP.sub (ws' := [(gr, .inr (1, [.int (zI sc_), .ref gsn, .ref gac, .ref gic, .ref gan, .ref gih, .ref grk, .int (zI rc_), .ref grn, .ref grs, .ref gcc, .ref gec, .ref gcs, .ref gce, .ref ghg, .ref gop, .ref god, .int (zI cz_)])), (gih, .inl (cZ, 72, .inl (zF ih_)))]) [0, 1] rfl
      have hD9 := hD.sub (ws' := [(gr, .inr (1, [.int (zI sc_), .ref gsn, .ref gac, .ref gic, .ref gan, .ref gih, .ref grk, .int (zI rc_), .ref grn, .ref grs, .ref gcc, .ref gec, .ref gcs, .ref gce, .ref ghg, .ref gop, .ref god, .int (zI cz_)])), (gih, .inl (cZ, 72, .inl (zF ih_)))]) [0, 1] (by decide) rfl
      have hK9 := hK.sub (tys' := [(cZ, .boolean)]) [0] rfl
      exact W.zret (v := zI 0) hx hb hr (by decide) (fun t ht hW => ⟨⟨zI 0, 0, rfl, rfl, (by omega), by rw [ht]; exact hP9, va_K.moved hW.alike hK9, hD9⟩, hS.F ht⟩) hS.2.2 dX1_mayTell_28
    · refine lv_iconst (v := zI 1) hx hb dX1_mayTell_23 rfl ?_
      refine lv_goto (tgt := 28) hx hb dX1_mayTell_24 (by decide) ?_
      have hP9 := hP.sub (ws' := [(gr, .inr (1, [.int (zI sc_), .ref gsn, .ref gac, .ref gic, .ref gan, .ref gih, .ref grk, .int (zI rc_), .ref grn, .ref grs, .ref gcc, .ref gec, .ref gcs, .ref gce, .ref ghg, .ref gop, .ref god, .int (zI cz_)])), (gih, .inl (cZ, 72, .inl (zF ih_)))]) [0, 1] rfl
      have hD9 := hD.sub (ws' := [(gr, .inr (1, [.int (zI sc_), .ref gsn, .ref gac, .ref gic, .ref gan, .ref gih, .ref grk, .int (zI rc_), .ref grn, .ref grs, .ref gcc, .ref gec, .ref gcs, .ref gce, .ref ghg, .ref gop, .ref god, .int (zI cz_)])), (gih, .inl (cZ, 72, .inl (zF ih_)))]) [0, 1] (by decide) rfl
      have hK9 := hK.sub (tys' := [(cZ, .boolean)]) [0] rfl
      exact W.zret (v := zI 1) hx hb hr (by decide) (fun t ht hW => ⟨⟨zI 1, 1, rfl, rfl, (by omega), by rw [ht]; exact hP9, va_K.moved hW.alike hK9, hD9⟩, hS.F ht⟩) hS.2.2 dX1_mayTell_28
  · refine lv_iconst (v := zI 1) hx hb dX1_mayTell_15 rfl ?_
    refine lv_goto (tgt := 20) hx hb dX1_mayTell_16 (by decide) ?_
    refine zv_icmp_ne (tgt := 27) hx hb dX1_mayTell_20 (by decide) (by omega) (by decide) (fun c4 => ?_) (fun c4 => ?_)
    · refine lv_iconst (v := zI 0) hx hb dX1_mayTell_27 rfl ?_
      have hP9 := hP.sub (ws' := [(gr, .inr (1, [.int (zI sc_), .ref gsn, .ref gac, .ref gic, .ref gan, .ref gih, .ref grk, .int (zI rc_), .ref grn, .ref grs, .ref gcc, .ref gec, .ref gcs, .ref gce, .ref ghg, .ref gop, .ref god, .int (zI cz_)])), (gih, .inl (cZ, 72, .inl (zF ih_)))]) [0, 1] rfl
      have hD9 := hD.sub (ws' := [(gr, .inr (1, [.int (zI sc_), .ref gsn, .ref gac, .ref gic, .ref gan, .ref gih, .ref grk, .int (zI rc_), .ref grn, .ref grs, .ref gcc, .ref gec, .ref gcs, .ref gce, .ref ghg, .ref gop, .ref god, .int (zI cz_)])), (gih, .inl (cZ, 72, .inl (zF ih_)))]) [0, 1] (by decide) rfl
      have hK9 := hK.sub (tys' := [(cZ, .boolean)]) [0] rfl
      exact W.zret (v := zI 0) hx hb hr (by decide) (fun t ht hW => ⟨⟨zI 0, 0, rfl, rfl, (by omega), by rw [ht]; exact hP9, va_K.moved hW.alike hK9, hD9⟩, hS.F ht⟩) hS.2.2 dX1_mayTell_28
    · refine lv_iconst (v := zI 1) hx hb dX1_mayTell_23 rfl ?_
      refine lv_goto (tgt := 28) hx hb dX1_mayTell_24 (by decide) ?_
      have hP9 := hP.sub (ws' := [(gr, .inr (1, [.int (zI sc_), .ref gsn, .ref gac, .ref gic, .ref gan, .ref gih, .ref grk, .int (zI rc_), .ref grn, .ref grs, .ref gcc, .ref gec, .ref gcs, .ref gce, .ref ghg, .ref gop, .ref god, .int (zI cz_)])), (gih, .inl (cZ, 72, .inl (zF ih_)))]) [0, 1] rfl
      have hD9 := hD.sub (ws' := [(gr, .inr (1, [.int (zI sc_), .ref gsn, .ref gac, .ref gic, .ref gan, .ref gih, .ref grk, .int (zI rc_), .ref grn, .ref grs, .ref gcc, .ref gec, .ref gcs, .ref gce, .ref ghg, .ref gop, .ref god, .int (zI cz_)])), (gih, .inl (cZ, 72, .inl (zF ih_)))]) [0, 1] (by decide) rfl
      have hK9 := hK.sub (tys' := [(cZ, .boolean)]) [0] rfl
      exact W.zret (v := zI 1) hx hb hr (by decide) (fun t ht hW => ⟨⟨zI 1, 1, rfl, rfl, (by omega), by rw [ht]; exact hP9, va_K.moved hW.alike hK9, hD9⟩, hS.F ht⟩) hS.2.2 dX1_mayTell_28

set_option maxHeartbeats 4000000 in
set_option maxRecDepth 100000 in
theorem c_X1_findSymbol (l : Launch) (dC : Nat → ClassId) (dI : Nat → Nat → Nat) (gr gsn gac gic gan gih grk grn grs gcc gec gcs gce ghg gop god : Nat) (cJ : ClassId) (sz : Nat) (sc_ : Int) (rc_ : Int) (cz_ : Int) (sn_ : Int → Int) (nm_ : Int) (hsc : 0 ≤ sc_ ∧ sc_ ≤ 12) (hnm : 0 ≤ nm_ ∧ nm_ < 9223372036854775808) (hnn : ∀ j : Int, 0 ≤ j ∧ j < 12 → 0 ≤ sn_ j ∧ sn_ j < 9223372036854775808) : Met l yX1_findSymbol wyX1_findSymbol ({ frames := 0, cells := 0, slots := 0, locals := 0 }) (va_Pc [.ref gr, .long (lI nm_)] (fun U => U.heap.size = sz ∧ va_P (dC, dI) vwCl [(gr, .inr (1, [.int (zI sc_), .ref gsn, .ref gac, .ref gic, .ref gan, .ref gih, .ref grk, .int (zI rc_), .ref grn, .ref grs, .ref gcc, .ref gec, .ref gcs, .ref gce, .ref ghg, .ref gop, .ref god, .int (zI cz_)])), (gsn, .inl (cJ, 12, .inr (.inl (lF sn_))))] U.heap ∧ va_K (dC, dI) vwCl [(cJ, .long)] U ∧ va_D (fun _ => True) [(gr, .inr (1, [.int (zI sc_), .ref gsn, .ref gac, .ref gic, .ref gan, .ref gih, .ref grk, .int (zI rc_), .ref grn, .ref grs, .ref gcc, .ref gec, .ref gcs, .ref gce, .ref ghg, .ref gop, .ref god, .int (zI cz_)])), (gsn, .inl (cJ, 12, .inr (.inl (lF sn_))))])) (va_Qi (fun (rr : Int32) (_ : Unit) => rr = zI (kFnd sn_ sc_ nm_ 0)) (fun _ t => va_P (dC, dI) vwCl [(gr, .inr (1, [.int (zI sc_), .ref gsn, .ref gac, .ref gic, .ref gan, .ref gih, .ref grk, .int (zI rc_), .ref grn, .ref grs, .ref gcc, .ref gec, .ref gcs, .ref gce, .ref ghg, .ref gop, .ref god, .int (zI cz_)])), (gsn, .inl (cJ, 12, .inr (.inl (lF sn_))))] t.heap ∧ va_K (dC, dI) vwCl [(cJ, .long)] t ∧ va_D (va_A [(gr, .inr (1, [.int (zI sc_), .ref gsn, .ref gac, .ref gic, .ref gan, .ref gih, .ref grk, .int (zI rc_), .ref grn, .ref grs, .ref gcc, .ref gec, .ref gcs, .ref gce, .ref ghg, .ref gop, .ref god, .int (zI cz_)])), (gsn, .inl (cJ, 12, .inr (.inl (lF sn_))))] sz) [(gr, .inr (1, [.int (zI sc_), .ref gsn, .ref gac, .ref gic, .ref gan, .ref gih, .ref grk, .int (zI rc_), .ref grn, .ref grs, .ref gcc, .ref gec, .ref gcs, .ref gce, .ref ghg, .ref gop, .ref god, .int (zI cz_)])), (gsn, .inl (cJ, 12, .inr (.inl (lF sn_))))]) (va_A [(gr, .inr (1, [.int (zI sc_), .ref gsn, .ref gac, .ref gic, .ref gan, .ref gih, .ref grk, .int (zI rc_), .ref grn, .ref grs, .ref gcc, .ref gec, .ref gcs, .ref gce, .ref ghg, .ref gop, .ref god, .int (zI cz_)])), (gsn, .inl (cJ, 12, .inr (.inl (lF sn_))))] sz)) 0 0 (va_A [(gr, .inr (1, [.int (zI sc_), .ref gsn, .ref gac, .ref gic, .ref gan, .ref gih, .ref grk, .int (zI rc_), .ref grn, .ref grs, .ref gcc, .ref gec, .ref gcs, .ref gce, .ref ghg, .ref gop, .ref god, .int (zI cz_)])), (gsn, .inl (cJ, 12, .inr (.inl (lF sn_))))] sz) := by
  refine Met.ofW (cc := cX1_findSymbol) (maxL := 4) (ret := (some .int)) (by decide) rfl ?_
  intro p e s m args below meth c s₁ B hml hv
  obtain ⟨rfl, hsz, hP, hK, hD0⟩ := hv
  have hx := B.exec
  have hb := B.bytes
  have hr := B.returns
  have hts := atoms_spec (ws := wyX1_findSymbol) B.pre
  have hg : ∀ w ∈ lw_G, w.before _ s = true := fun w h => hts w (List.mem_cons_of_mem _ h)
  have hown : s.vm.findClass RX1 = some m.cls := findClass_of_methodNamed B.named
  have hlocks := B.notSynchronized
  subst hsz
  have hD := hD0.self (sz := s.heap.size)
  generalize hAe : va_A [(gr, .inr (1, [.int (zI sc_), .ref gsn, .ref gac, .ref gic, .ref gan, .ref gih, .ref grk, .int (zI rc_), .ref grn, .ref grs, .ref gcc, .ref gec, .ref gcs, .ref gce, .ref ghg, .ref gop, .ref god, .int (zI cz_)])), (gsn, .inl (cJ, 12, .inr (.inl (lF sn_))))] s.heap.size = A at hD ⊢
  have hA : ∀ q : Nat, s.heap.size ≤ q → A q := fun q h => by rw [← hAe]; exact Or.inr h
  have hS : va_S A s.heap s.heap [] := va_S.rf
  have hP : va_P (dC, dI) vwCl [(gr, .inr (1, [.int (zI sc_), .ref gsn, .ref gac, .ref gic, .ref gan, .ref gih, .ref grk, .int (zI rc_), .ref grn, .ref grs, .ref gcc, .ref gec, .ref gcs, .ref gce, .ref ghg, .ref gop, .ref god, .int (zI cz_)])), (gsn, .inl (cJ, 12, .inr (.inl (lF sn_))))] s.heap := hP
  have hl := lv_entry ([.ref gr, .long (lI nm_)]) (n := 4) (Nat.le_of_ble_eq_true rfl)
  rw [lg_entry_eq]
  generalize (lg_sl ([.ref gr, .long (lI nm_)]) ++ List.replicate (4 - (lg_sl ([.ref gr, .long (lI nm_)])).length) Slot.unset).toArray = ls at hl ⊢
  have hl : lv_has ls 4 [(0, .ref gr), (1, .long (lI nm_))] := hl
  refine zv_q (fun Q hQ => ?_)
  refine lv_iconst (v := zI 0) hx hb dX1_findSymbol_0 rfl ?_
  refine lv_istore_n (lv' := [(3, .int (zI 0)), (0, .ref gr), (1, .long (lI nm_))]) hx hb dX1_findSymbol_1 rfl hl (by decide) rfl (fun ls hl => ?_)
  have lp2 : ∀ (n : Nat) (i : Int), (0 ≤ i ∧ i ≤ sc_) → (kFnd sn_ sc_ nm_ 0 = kFnd sn_ sc_ nm_ i) → sc_ - i < (n : Int) → ∀ (H : Heap) (locs : List Loc), va_P (dC, dI) vwCl [(gr, .inr (1, [.int (zI sc_), .ref gsn, .ref gac, .ref gic, .ref gan, .ref gih, .ref grk, .int (zI rc_), .ref grn, .ref grs, .ref gcc, .ref gec, .ref gcs, .ref gce, .ref ghg, .ref gop, .ref god, .int (zI cz_)])), (gsn, .inl (cJ, 12, .inr (.inl (lF sn_))))] H → va_D A [(gr, .inr (1, [.int (zI sc_), .ref gsn, .ref gac, .ref gic, .ref gan, .ref gih, .ref grk, .int (zI rc_), .ref grn, .ref grs, .ref gcc, .ref gec, .ref gcs, .ref gce, .ref ghg, .ref gop, .ref god, .int (zI cz_)])), (gsn, .inl (cJ, 12, .inr (.inl (lF sn_))))] → va_S A s.heap H locs → ∀ (ls : Array Slot), lv_has ls 4 [(3, .int (zI i)), (0, .ref gr), (1, .long (lI nm_))] → W p l e ({ frames := 0, cells := 0, slots := 0, locals := 0 } : Room) s m ([.ref gr, .long (lI nm_)] : List Value).toArray below meth c H locs 0 0 Q (F0 m 2 ls []) := by
    intro n
    induction n with
    | zero => intro i hi hf_ hM; exact absurd hM (by omega)
    | succ n ih2 =>
      intro i hi hf_ hM2 H locs hP hD hS ls hl
      refine lv_iload_n hx hb dX1_findSymbol_2 rfl (lv_at hl 0 rfl) ?_
      refine lv_aload_n hx hb dX1_findSymbol_3 rfl (lv_at hl 1 rfl) ?_
      refine va_get (D := (dC, dI)) (ci := 1) (v := .int (zI sc_)) (C := RX1) (T := TX1) (N := 18) hx hb hg inG_X1 hown hK hP 0 rfl rfl 0 (by decide) (hg (.fieldLink RX1 9 "AttributeDesk$Grammar" "symbolCount" "I") gw_1_26) (fun _ h9 => h9) rfl dX1_findSymbol_4 ?_
      refine zv_icmp_ge (tgt := 29) hx hb dX1_findSymbol_7 (by decide) (by omega) (by omega) (fun c1 => ?_) (fun c1 => ?_)
      · refine lv_iconst (v := zI (-1)) hx hb dX1_findSymbol_29 rfl ?_
        have hP9 := hP.sub (ws' := [(gr, .inr (1, [.int (zI sc_), .ref gsn, .ref gac, .ref gic, .ref gan, .ref gih, .ref grk, .int (zI rc_), .ref grn, .ref grs, .ref gcc, .ref gec, .ref gcs, .ref gce, .ref ghg, .ref gop, .ref god, .int (zI cz_)])), (gsn, .inl (cJ, 12, .inr (.inl (lF sn_))))]) [0, 1] rfl
        have hD9 := hD.sub (ws' := [(gr, .inr (1, [.int (zI sc_), .ref gsn, .ref gac, .ref gic, .ref gan, .ref gih, .ref grk, .int (zI rc_), .ref grn, .ref grs, .ref gcc, .ref gec, .ref gcs, .ref gce, .ref ghg, .ref gop, .ref god, .int (zI cz_)])), (gsn, .inl (cJ, 12, .inr (.inl (lF sn_))))]) [0, 1] (by decide) rfl
        have hK9 := hK.sub (tys' := [(cJ, .long)]) [0] rfl
        subst hQ
        exact W.iret (v := zI (-1)) hx hb hr (fun t ht hW => ⟨⟨zI (-1), (), rfl, congrArg zI ((hf_.trans (kFnd_out (by omega))).symm), by rw [ht]; exact hP9, va_K.moved hW.alike hK9, hD9⟩, hS.F ht⟩) hS.2.2 dX1_findSymbol_30
      · refine lv_aload_n hx hb dX1_findSymbol_10 rfl (lv_at hl 1 rfl) ?_
        refine va_get (D := (dC, dI)) (ci := 1) (v := .ref gsn) (C := RX1) (T := TX1) (N := 18) hx hb hg inG_X1 hown hK hP 0 rfl rfl 1 (by decide) (hg (.fieldLink RX1 15 "AttributeDesk$Grammar" "symbolNames" "[J") gw_1_30) (fun _ h9 => h9) rfl dX1_findSymbol_11 ?_
        refine lv_iload_n hx hb dX1_findSymbol_14 rfl (lv_at hl 0 rfl) ?_
        refine zv_lald (D := (dC, dI)) hx hb hK hP 1 0 rfl rfl (by omega) (Nat.le_of_ble_eq_true rfl) dX1_findSymbol_15 ?_
        have hv2 := hnn i (by omega)
        refine lv_lload_n hx hb dX1_findSymbol_16 rfl (lv_at hl 2 rfl) ?_
        refine zv_lcmp hx hb dX1_findSymbol_17 (by omega) (by omega) (fun r3 hr3a hr3b hr3c hr3d => ?_)
        refine zv_if_ne (tgt := 23) hx hb dX1_findSymbol_18 (by decide) (by omega) (fun c4 => ?_) (fun c4 => ?_)
        · refine lv_iinc (v := zI (i + 1)) (lv' := [(3, .int (zI (i + 1))), (0, .ref gr), (1, .long (lI nm_))]) hx hb dX1_findSymbol_23 hl (k := 0) rfl (zI_inc (1) (by omega)) (by decide) rfl (fun ls hl => ?_)
          refine lv_goto (tgt := 2) hx hb dX1_findSymbol_26 (by decide) ?_
          exact ih2 (i + 1) (by omega) (hf_.trans (kFnd_no (by omega) (by omega))) (by omega) _ _ hP hD hS _ (lv_sub hl [0, 1, 2] rfl)
        · refine lv_iload_n hx hb dX1_findSymbol_21 rfl (lv_at hl 0 rfl) ?_
          have hP9 := hP.sub (ws' := [(gr, .inr (1, [.int (zI sc_), .ref gsn, .ref gac, .ref gic, .ref gan, .ref gih, .ref grk, .int (zI rc_), .ref grn, .ref grs, .ref gcc, .ref gec, .ref gcs, .ref gce, .ref ghg, .ref gop, .ref god, .int (zI cz_)])), (gsn, .inl (cJ, 12, .inr (.inl (lF sn_))))]) [0, 1] rfl
          have hD9 := hD.sub (ws' := [(gr, .inr (1, [.int (zI sc_), .ref gsn, .ref gac, .ref gic, .ref gan, .ref gih, .ref grk, .int (zI rc_), .ref grn, .ref grs, .ref gcc, .ref gec, .ref gcs, .ref gce, .ref ghg, .ref gop, .ref god, .int (zI cz_)])), (gsn, .inl (cJ, 12, .inr (.inl (lF sn_))))]) [0, 1] (by decide) rfl
          have hK9 := hK.sub (tys' := [(cJ, .long)]) [0] rfl
          subst hQ
          exact W.iret (v := zI i) hx hb hr (fun t ht hW => ⟨⟨zI i, (), rfl, congrArg zI ((hf_.trans (kFnd_yes (by omega) (by omega))).symm), by rw [ht]; exact hP9, va_K.moved hW.alike hK9, hD9⟩, hS.F ht⟩) hS.2.2 dX1_findSymbol_22
  exact lp2 ((sc_ - 0 : Int).toNat + 1) 0 (by omega) rfl (by omega) _ _ hP hD hS _ (lv_sub hl [0, 1, 2] rfl)

set_option maxHeartbeats 4000000 in
set_option maxRecDepth 100000 in
theorem c_X1_findRule (l : Launch) (dC : Nat → ClassId) (dI : Nat → Nat → Nat) (gr grn gsn gac gic gan gih grk grs gcc gec gcs gce ghg gop god : Nat) (cJ : ClassId) (sz : Nat) (sc_ : Int) (rc_ : Int) (cz_ : Int) (rn_ : Int → Int) (nm_ : Int) (hrc : 0 ≤ rc_ ∧ rc_ ≤ 30) (hnm : 0 ≤ nm_ ∧ nm_ < 9223372036854775808) (hnn : ∀ j : Int, 0 ≤ j ∧ j < 30 → 0 ≤ rn_ j ∧ rn_ j < 9223372036854775808) : Met l yX1_findRule wyX1_findRule ({ frames := 0, cells := 0, slots := 0, locals := 0 }) (va_Pc [.ref gr, .long (lI nm_)] (fun U => U.heap.size = sz ∧ va_P (dC, dI) vwCl [(gr, .inr (1, [.int (zI sc_), .ref gsn, .ref gac, .ref gic, .ref gan, .ref gih, .ref grk, .int (zI rc_), .ref grn, .ref grs, .ref gcc, .ref gec, .ref gcs, .ref gce, .ref ghg, .ref gop, .ref god, .int (zI cz_)])), (grn, .inl (cJ, 30, .inr (.inl (lF rn_))))] U.heap ∧ va_K (dC, dI) vwCl [(cJ, .long)] U ∧ va_D (fun _ => True) [(gr, .inr (1, [.int (zI sc_), .ref gsn, .ref gac, .ref gic, .ref gan, .ref gih, .ref grk, .int (zI rc_), .ref grn, .ref grs, .ref gcc, .ref gec, .ref gcs, .ref gce, .ref ghg, .ref gop, .ref god, .int (zI cz_)])), (grn, .inl (cJ, 30, .inr (.inl (lF rn_))))])) (va_Qi (fun (rr : Int32) (_ : Unit) => rr = zI (kFnd rn_ rc_ nm_ 0)) (fun _ t => va_P (dC, dI) vwCl [(gr, .inr (1, [.int (zI sc_), .ref gsn, .ref gac, .ref gic, .ref gan, .ref gih, .ref grk, .int (zI rc_), .ref grn, .ref grs, .ref gcc, .ref gec, .ref gcs, .ref gce, .ref ghg, .ref gop, .ref god, .int (zI cz_)])), (grn, .inl (cJ, 30, .inr (.inl (lF rn_))))] t.heap ∧ va_K (dC, dI) vwCl [(cJ, .long)] t ∧ va_D (va_A [(gr, .inr (1, [.int (zI sc_), .ref gsn, .ref gac, .ref gic, .ref gan, .ref gih, .ref grk, .int (zI rc_), .ref grn, .ref grs, .ref gcc, .ref gec, .ref gcs, .ref gce, .ref ghg, .ref gop, .ref god, .int (zI cz_)])), (grn, .inl (cJ, 30, .inr (.inl (lF rn_))))] sz) [(gr, .inr (1, [.int (zI sc_), .ref gsn, .ref gac, .ref gic, .ref gan, .ref gih, .ref grk, .int (zI rc_), .ref grn, .ref grs, .ref gcc, .ref gec, .ref gcs, .ref gce, .ref ghg, .ref gop, .ref god, .int (zI cz_)])), (grn, .inl (cJ, 30, .inr (.inl (lF rn_))))]) (va_A [(gr, .inr (1, [.int (zI sc_), .ref gsn, .ref gac, .ref gic, .ref gan, .ref gih, .ref grk, .int (zI rc_), .ref grn, .ref grs, .ref gcc, .ref gec, .ref gcs, .ref gce, .ref ghg, .ref gop, .ref god, .int (zI cz_)])), (grn, .inl (cJ, 30, .inr (.inl (lF rn_))))] sz)) 0 0 (va_A [(gr, .inr (1, [.int (zI sc_), .ref gsn, .ref gac, .ref gic, .ref gan, .ref gih, .ref grk, .int (zI rc_), .ref grn, .ref grs, .ref gcc, .ref gec, .ref gcs, .ref gce, .ref ghg, .ref gop, .ref god, .int (zI cz_)])), (grn, .inl (cJ, 30, .inr (.inl (lF rn_))))] sz) := by
  refine Met.ofW (cc := cX1_findRule) (maxL := 4) (ret := (some .int)) (by decide) rfl ?_
  intro p e s m args below meth c s₁ B hml hv
  obtain ⟨rfl, hsz, hP, hK, hD0⟩ := hv
  have hx := B.exec
  have hb := B.bytes
  have hr := B.returns
  have hts := atoms_spec (ws := wyX1_findRule) B.pre
  have hg : ∀ w ∈ lw_G, w.before _ s = true := fun w h => hts w (List.mem_cons_of_mem _ h)
  have hown : s.vm.findClass RX1 = some m.cls := findClass_of_methodNamed B.named
  have hlocks := B.notSynchronized
  subst hsz
  have hD := hD0.self (sz := s.heap.size)
  generalize hAe : va_A [(gr, .inr (1, [.int (zI sc_), .ref gsn, .ref gac, .ref gic, .ref gan, .ref gih, .ref grk, .int (zI rc_), .ref grn, .ref grs, .ref gcc, .ref gec, .ref gcs, .ref gce, .ref ghg, .ref gop, .ref god, .int (zI cz_)])), (grn, .inl (cJ, 30, .inr (.inl (lF rn_))))] s.heap.size = A at hD ⊢
  have hA : ∀ q : Nat, s.heap.size ≤ q → A q := fun q h => by rw [← hAe]; exact Or.inr h
  have hS : va_S A s.heap s.heap [] := va_S.rf
  have hP : va_P (dC, dI) vwCl [(gr, .inr (1, [.int (zI sc_), .ref gsn, .ref gac, .ref gic, .ref gan, .ref gih, .ref grk, .int (zI rc_), .ref grn, .ref grs, .ref gcc, .ref gec, .ref gcs, .ref gce, .ref ghg, .ref gop, .ref god, .int (zI cz_)])), (grn, .inl (cJ, 30, .inr (.inl (lF rn_))))] s.heap := hP
  have hl := lv_entry ([.ref gr, .long (lI nm_)]) (n := 4) (Nat.le_of_ble_eq_true rfl)
  rw [lg_entry_eq]
  generalize (lg_sl ([.ref gr, .long (lI nm_)]) ++ List.replicate (4 - (lg_sl ([.ref gr, .long (lI nm_)])).length) Slot.unset).toArray = ls at hl ⊢
  have hl : lv_has ls 4 [(0, .ref gr), (1, .long (lI nm_))] := hl
  refine zv_q (fun Q hQ => ?_)
  refine lv_iconst (v := zI 0) hx hb dX1_findRule_0 rfl ?_
  refine lv_istore_n (lv' := [(3, .int (zI 0)), (0, .ref gr), (1, .long (lI nm_))]) hx hb dX1_findRule_1 rfl hl (by decide) rfl (fun ls hl => ?_)
  have lp2 : ∀ (n : Nat) (i : Int), (0 ≤ i ∧ i ≤ rc_) → (kFnd rn_ rc_ nm_ 0 = kFnd rn_ rc_ nm_ i) → rc_ - i < (n : Int) → ∀ (H : Heap) (locs : List Loc), va_P (dC, dI) vwCl [(gr, .inr (1, [.int (zI sc_), .ref gsn, .ref gac, .ref gic, .ref gan, .ref gih, .ref grk, .int (zI rc_), .ref grn, .ref grs, .ref gcc, .ref gec, .ref gcs, .ref gce, .ref ghg, .ref gop, .ref god, .int (zI cz_)])), (grn, .inl (cJ, 30, .inr (.inl (lF rn_))))] H → va_D A [(gr, .inr (1, [.int (zI sc_), .ref gsn, .ref gac, .ref gic, .ref gan, .ref gih, .ref grk, .int (zI rc_), .ref grn, .ref grs, .ref gcc, .ref gec, .ref gcs, .ref gce, .ref ghg, .ref gop, .ref god, .int (zI cz_)])), (grn, .inl (cJ, 30, .inr (.inl (lF rn_))))] → va_S A s.heap H locs → ∀ (ls : Array Slot), lv_has ls 4 [(3, .int (zI i)), (0, .ref gr), (1, .long (lI nm_))] → W p l e ({ frames := 0, cells := 0, slots := 0, locals := 0 } : Room) s m ([.ref gr, .long (lI nm_)] : List Value).toArray below meth c H locs 0 0 Q (F0 m 2 ls []) := by
    intro n
    induction n with
    | zero => intro i hi hf_ hM; exact absurd hM (by omega)
    | succ n ih2 =>
      intro i hi hf_ hM2 H locs hP hD hS ls hl
      refine lv_iload_n hx hb dX1_findRule_2 rfl (lv_at hl 0 rfl) ?_
      refine lv_aload_n hx hb dX1_findRule_3 rfl (lv_at hl 1 rfl) ?_
      refine va_get (D := (dC, dI)) (ci := 1) (v := .int (zI rc_)) (C := RX1) (T := TX1) (N := 18) hx hb hg inG_X1 hown hK hP 0 rfl rfl 7 (by decide) (hg (.fieldLink RX1 36 "AttributeDesk$Grammar" "ruleCount" "I") gw_1_41) (fun _ h9 => h9) rfl dX1_findRule_4 ?_
      refine zv_icmp_ge (tgt := 29) hx hb dX1_findRule_7 (by decide) (by omega) (by omega) (fun c1 => ?_) (fun c1 => ?_)
      · refine lv_iconst (v := zI (-1)) hx hb dX1_findRule_29 rfl ?_
        have hP9 := hP.sub (ws' := [(gr, .inr (1, [.int (zI sc_), .ref gsn, .ref gac, .ref gic, .ref gan, .ref gih, .ref grk, .int (zI rc_), .ref grn, .ref grs, .ref gcc, .ref gec, .ref gcs, .ref gce, .ref ghg, .ref gop, .ref god, .int (zI cz_)])), (grn, .inl (cJ, 30, .inr (.inl (lF rn_))))]) [0, 1] rfl
        have hD9 := hD.sub (ws' := [(gr, .inr (1, [.int (zI sc_), .ref gsn, .ref gac, .ref gic, .ref gan, .ref gih, .ref grk, .int (zI rc_), .ref grn, .ref grs, .ref gcc, .ref gec, .ref gcs, .ref gce, .ref ghg, .ref gop, .ref god, .int (zI cz_)])), (grn, .inl (cJ, 30, .inr (.inl (lF rn_))))]) [0, 1] (by decide) rfl
        have hK9 := hK.sub (tys' := [(cJ, .long)]) [0] rfl
        subst hQ
        exact W.iret (v := zI (-1)) hx hb hr (fun t ht hW => ⟨⟨zI (-1), (), rfl, congrArg zI ((hf_.trans (kFnd_out (by omega))).symm), by rw [ht]; exact hP9, va_K.moved hW.alike hK9, hD9⟩, hS.F ht⟩) hS.2.2 dX1_findRule_30
      · refine lv_aload_n hx hb dX1_findRule_10 rfl (lv_at hl 1 rfl) ?_
        refine va_get (D := (dC, dI)) (ci := 1) (v := .ref grn) (C := RX1) (T := TX1) (N := 18) hx hb hg inG_X1 hown hK hP 0 rfl rfl 8 (by decide) (hg (.fieldLink RX1 39 "AttributeDesk$Grammar" "ruleNames" "[J") gw_1_45) (fun _ h9 => h9) rfl dX1_findRule_11 ?_
        refine lv_iload_n hx hb dX1_findRule_14 rfl (lv_at hl 0 rfl) ?_
        refine zv_lald (D := (dC, dI)) hx hb hK hP 1 0 rfl rfl (by omega) (Nat.le_of_ble_eq_true rfl) dX1_findRule_15 ?_
        have hv2 := hnn i (by omega)
        refine lv_lload_n hx hb dX1_findRule_16 rfl (lv_at hl 2 rfl) ?_
        refine zv_lcmp hx hb dX1_findRule_17 (by omega) (by omega) (fun r3 hr3a hr3b hr3c hr3d => ?_)
        refine zv_if_ne (tgt := 23) hx hb dX1_findRule_18 (by decide) (by omega) (fun c4 => ?_) (fun c4 => ?_)
        · refine lv_iinc (v := zI (i + 1)) (lv' := [(3, .int (zI (i + 1))), (0, .ref gr), (1, .long (lI nm_))]) hx hb dX1_findRule_23 hl (k := 0) rfl (zI_inc (1) (by omega)) (by decide) rfl (fun ls hl => ?_)
          refine lv_goto (tgt := 2) hx hb dX1_findRule_26 (by decide) ?_
          exact ih2 (i + 1) (by omega) (hf_.trans (kFnd_no (by omega) (by omega))) (by omega) _ _ hP hD hS _ (lv_sub hl [0, 1, 2] rfl)
        · refine lv_iload_n hx hb dX1_findRule_21 rfl (lv_at hl 0 rfl) ?_
          have hP9 := hP.sub (ws' := [(gr, .inr (1, [.int (zI sc_), .ref gsn, .ref gac, .ref gic, .ref gan, .ref gih, .ref grk, .int (zI rc_), .ref grn, .ref grs, .ref gcc, .ref gec, .ref gcs, .ref gce, .ref ghg, .ref gop, .ref god, .int (zI cz_)])), (grn, .inl (cJ, 30, .inr (.inl (lF rn_))))]) [0, 1] rfl
          have hD9 := hD.sub (ws' := [(gr, .inr (1, [.int (zI sc_), .ref gsn, .ref gac, .ref gic, .ref gan, .ref gih, .ref grk, .int (zI rc_), .ref grn, .ref grs, .ref gcc, .ref gec, .ref gcs, .ref gce, .ref ghg, .ref gop, .ref god, .int (zI cz_)])), (grn, .inl (cJ, 30, .inr (.inl (lF rn_))))]) [0, 1] (by decide) rfl
          have hK9 := hK.sub (tys' := [(cJ, .long)]) [0] rfl
          subst hQ
          exact W.iret (v := zI i) hx hb hr (fun t ht hW => ⟨⟨zI i, (), rfl, congrArg zI ((hf_.trans (kFnd_yes (by omega) (by omega))).symm), by rw [ht]; exact hP9, va_K.moved hW.alike hK9, hD9⟩, hS.F ht⟩) hS.2.2 dX1_findRule_22
  exact lp2 ((rc_ - 0 : Int).toNat + 1) 0 (by omega) rfl (by omega) _ _ hP hD hS _ (lv_sub hl [0, 1, 2] rfl)

set_option maxHeartbeats 4000000 in
set_option maxRecDepth 100000 in
theorem c_X1_findAttribute (l : Launch) (dC : Nat → ClassId) (dI : Nat → Nat → Nat) (gr gac gan gsn gic gih grk grn grs gcc gec gcs gce ghg gop god : Nat) (cI cJ : ClassId) (sz : Nat) (sc_ : Int) (rc_ : Int) (cz_ : Int) (ac_ : Int → Int) (an_ : Int → Int) (s_ : Int) (nm_ : Int) (hs_ : 0 ≤ s_ ∧ s_ < 12) (hac : ∀ j : Int, 0 ≤ j ∧ j < 12 → 0 ≤ ac_ j ∧ ac_ j ≤ 6) (hnm : 0 ≤ nm_ ∧ nm_ < 9223372036854775808) (hnn : ∀ j : Int, 0 ≤ j ∧ j < 72 → 0 ≤ an_ j ∧ an_ j < 9223372036854775808) : Met l yX1_findAttribute wyX1_findAttribute ({ frames := 0, cells := 0, slots := 0, locals := 0 }) (va_Pc [.ref gr, .int (zI s_), .long (lI nm_)] (fun U => U.heap.size = sz ∧ va_P (dC, dI) vwCl [(gr, .inr (1, [.int (zI sc_), .ref gsn, .ref gac, .ref gic, .ref gan, .ref gih, .ref grk, .int (zI rc_), .ref grn, .ref grs, .ref gcc, .ref gec, .ref gcs, .ref gce, .ref ghg, .ref gop, .ref god, .int (zI cz_)])), (gac, .inl (cI, 12, .inl (zF ac_))), (gan, .inl (cJ, 72, .inr (.inl (lF an_))))] U.heap ∧ va_K (dC, dI) vwCl [(cI, .int), (cJ, .long)] U ∧ va_D (fun _ => True) [(gr, .inr (1, [.int (zI sc_), .ref gsn, .ref gac, .ref gic, .ref gan, .ref gih, .ref grk, .int (zI rc_), .ref grn, .ref grs, .ref gcc, .ref gec, .ref gcs, .ref gce, .ref ghg, .ref gop, .ref god, .int (zI cz_)])), (gac, .inl (cI, 12, .inl (zF ac_))), (gan, .inl (cJ, 72, .inr (.inl (lF an_))))])) (va_Qi (fun (rr : Int32) (_ : Unit) => rr = zI (kFnd (fun j => an_ (6 * s_ + j)) (ac_ s_) nm_ 0)) (fun _ t => va_P (dC, dI) vwCl [(gr, .inr (1, [.int (zI sc_), .ref gsn, .ref gac, .ref gic, .ref gan, .ref gih, .ref grk, .int (zI rc_), .ref grn, .ref grs, .ref gcc, .ref gec, .ref gcs, .ref gce, .ref ghg, .ref gop, .ref god, .int (zI cz_)])), (gac, .inl (cI, 12, .inl (zF ac_))), (gan, .inl (cJ, 72, .inr (.inl (lF an_))))] t.heap ∧ va_K (dC, dI) vwCl [(cI, .int), (cJ, .long)] t ∧ va_D (va_A [(gr, .inr (1, [.int (zI sc_), .ref gsn, .ref gac, .ref gic, .ref gan, .ref gih, .ref grk, .int (zI rc_), .ref grn, .ref grs, .ref gcc, .ref gec, .ref gcs, .ref gce, .ref ghg, .ref gop, .ref god, .int (zI cz_)])), (gac, .inl (cI, 12, .inl (zF ac_))), (gan, .inl (cJ, 72, .inr (.inl (lF an_))))] sz) [(gr, .inr (1, [.int (zI sc_), .ref gsn, .ref gac, .ref gic, .ref gan, .ref gih, .ref grk, .int (zI rc_), .ref grn, .ref grs, .ref gcc, .ref gec, .ref gcs, .ref gce, .ref ghg, .ref gop, .ref god, .int (zI cz_)])), (gac, .inl (cI, 12, .inl (zF ac_))), (gan, .inl (cJ, 72, .inr (.inl (lF an_))))]) (va_A [(gr, .inr (1, [.int (zI sc_), .ref gsn, .ref gac, .ref gic, .ref gan, .ref gih, .ref grk, .int (zI rc_), .ref grn, .ref grs, .ref gcc, .ref gec, .ref gcs, .ref gce, .ref ghg, .ref gop, .ref god, .int (zI cz_)])), (gac, .inl (cI, 12, .inl (zF ac_))), (gan, .inl (cJ, 72, .inr (.inl (lF an_))))] sz)) 0 0 (va_A [(gr, .inr (1, [.int (zI sc_), .ref gsn, .ref gac, .ref gic, .ref gan, .ref gih, .ref grk, .int (zI rc_), .ref grn, .ref grs, .ref gcc, .ref gec, .ref gcs, .ref gce, .ref ghg, .ref gop, .ref god, .int (zI cz_)])), (gac, .inl (cI, 12, .inl (zF ac_))), (gan, .inl (cJ, 72, .inr (.inl (lF an_))))] sz) := by
  refine Met.ofW (cc := cX1_findAttribute) (maxL := 5) (ret := (some .int)) (by decide) rfl ?_
  intro p e s m args below meth c s₁ B hml hv
  obtain ⟨rfl, hsz, hP, hK, hD0⟩ := hv
  have hx := B.exec
  have hb := B.bytes
  have hr := B.returns
  have hts := atoms_spec (ws := wyX1_findAttribute) B.pre
  have hg : ∀ w ∈ lw_G, w.before _ s = true := fun w h => hts w (List.mem_cons_of_mem _ h)
  have hown : s.vm.findClass RX1 = some m.cls := findClass_of_methodNamed B.named
  have hlocks := B.notSynchronized
  subst hsz
  have hD := hD0.self (sz := s.heap.size)
  generalize hAe : va_A [(gr, .inr (1, [.int (zI sc_), .ref gsn, .ref gac, .ref gic, .ref gan, .ref gih, .ref grk, .int (zI rc_), .ref grn, .ref grs, .ref gcc, .ref gec, .ref gcs, .ref gce, .ref ghg, .ref gop, .ref god, .int (zI cz_)])), (gac, .inl (cI, 12, .inl (zF ac_))), (gan, .inl (cJ, 72, .inr (.inl (lF an_))))] s.heap.size = A at hD ⊢
  have hA : ∀ q : Nat, s.heap.size ≤ q → A q := fun q h => by rw [← hAe]; exact Or.inr h
  have hS : va_S A s.heap s.heap [] := va_S.rf
  have hP : va_P (dC, dI) vwCl [(gr, .inr (1, [.int (zI sc_), .ref gsn, .ref gac, .ref gic, .ref gan, .ref gih, .ref grk, .int (zI rc_), .ref grn, .ref grs, .ref gcc, .ref gec, .ref gcs, .ref gce, .ref ghg, .ref gop, .ref god, .int (zI cz_)])), (gac, .inl (cI, 12, .inl (zF ac_))), (gan, .inl (cJ, 72, .inr (.inl (lF an_))))] s.heap := hP
  have hl := lv_entry ([.ref gr, .int (zI s_), .long (lI nm_)]) (n := 5) (Nat.le_of_ble_eq_true rfl)
  rw [lg_entry_eq]
  generalize (lg_sl ([.ref gr, .int (zI s_), .long (lI nm_)]) ++ List.replicate (5 - (lg_sl ([.ref gr, .int (zI s_), .long (lI nm_)])).length) Slot.unset).toArray = ls at hl ⊢
  have hl : lv_has ls 5 [(0, .ref gr), (1, .int (zI s_)), (2, .long (lI nm_))] := hl
  refine zv_q (fun Q hQ => ?_)
  have hA0 := hac s_ (by omega)
  refine lv_iconst (v := zI 0) hx hb dX1_findAttribute_0 rfl ?_
  refine lv_istore (lv' := [(4, .int (zI 0)), (0, .ref gr), (1, .int (zI s_)), (2, .long (lI nm_))]) hx hb dX1_findAttribute_1 hl (by decide) rfl (fun ls hl => ?_)
  have lp3 : ∀ (n : Nat) (i : Int), (0 ≤ i ∧ i ≤ ac_ s_) → (kFnd (fun j => an_ (6 * s_ + j)) (ac_ s_) nm_ 0 = kFnd (fun j => an_ (6 * s_ + j)) (ac_ s_) nm_ i) → ac_ s_ - i < (n : Int) → ∀ (H : Heap) (locs : List Loc), va_P (dC, dI) vwCl [(gr, .inr (1, [.int (zI sc_), .ref gsn, .ref gac, .ref gic, .ref gan, .ref gih, .ref grk, .int (zI rc_), .ref grn, .ref grs, .ref gcc, .ref gec, .ref gcs, .ref gce, .ref ghg, .ref gop, .ref god, .int (zI cz_)])), (gac, .inl (cI, 12, .inl (zF ac_))), (gan, .inl (cJ, 72, .inr (.inl (lF an_))))] H → va_D A [(gr, .inr (1, [.int (zI sc_), .ref gsn, .ref gac, .ref gic, .ref gan, .ref gih, .ref grk, .int (zI rc_), .ref grn, .ref grs, .ref gcc, .ref gec, .ref gcs, .ref gce, .ref ghg, .ref gop, .ref god, .int (zI cz_)])), (gac, .inl (cI, 12, .inl (zF ac_))), (gan, .inl (cJ, 72, .inr (.inl (lF an_))))] → va_S A s.heap H locs → ∀ (ls : Array Slot), lv_has ls 5 [(4, .int (zI i)), (0, .ref gr), (1, .int (zI s_)), (2, .long (lI nm_))] → W p l e ({ frames := 0, cells := 0, slots := 0, locals := 0 } : Room) s m ([.ref gr, .int (zI s_), .long (lI nm_)] : List Value).toArray below meth c H locs 0 0 Q (F0 m 3 ls []) := by
    intro n
    induction n with
    | zero => intro i hi hf_ hM; exact absurd hM (by omega)
    | succ n ih3 =>
      intro i hi hf_ hM3 H locs hP hD hS ls hl
      refine lv_iload hx hb dX1_findAttribute_3 (lv_at hl 0 rfl) ?_
      refine lv_aload_n hx hb dX1_findAttribute_5 rfl (lv_at hl 1 rfl) ?_
      refine va_get (D := (dC, dI)) (ci := 1) (v := .ref gac) (C := RX1) (T := TX1) (N := 18) hx hb hg inG_X1 hown hK hP 0 rfl rfl 2 (by decide) (hg (.fieldLink RX1 19 "AttributeDesk$Grammar" "attributeCounts" "[I") gw_1_31) (fun _ h9 => h9) rfl dX1_findAttribute_6 ?_
      refine lv_iload_n hx hb dX1_findAttribute_9 rfl (lv_at hl 2 rfl) ?_
      refine zv_iald (D := (dC, dI)) hx hb hK hP 1 0 rfl rfl (by omega) (Nat.le_of_ble_eq_true rfl) dX1_findAttribute_10 ?_
      have hv1 := hac s_ (by omega)
      refine zv_icmp_ge (tgt := 40) hx hb dX1_findAttribute_11 (by decide) (by omega) (by omega) (fun c2 => ?_) (fun c2 => ?_)
      · refine lv_iconst (v := zI (-1)) hx hb dX1_findAttribute_40 rfl ?_
        have hP9 := hP.sub (ws' := [(gr, .inr (1, [.int (zI sc_), .ref gsn, .ref gac, .ref gic, .ref gan, .ref gih, .ref grk, .int (zI rc_), .ref grn, .ref grs, .ref gcc, .ref gec, .ref gcs, .ref gce, .ref ghg, .ref gop, .ref god, .int (zI cz_)])), (gac, .inl (cI, 12, .inl (zF ac_))), (gan, .inl (cJ, 72, .inr (.inl (lF an_))))]) [0, 1, 2] rfl
        have hD9 := hD.sub (ws' := [(gr, .inr (1, [.int (zI sc_), .ref gsn, .ref gac, .ref gic, .ref gan, .ref gih, .ref grk, .int (zI rc_), .ref grn, .ref grs, .ref gcc, .ref gec, .ref gcs, .ref gce, .ref ghg, .ref gop, .ref god, .int (zI cz_)])), (gac, .inl (cI, 12, .inl (zF ac_))), (gan, .inl (cJ, 72, .inr (.inl (lF an_))))]) [0, 1, 2] (by decide) rfl
        have hK9 := hK.sub (tys' := [(cI, .int), (cJ, .long)]) [0, 1] rfl
        subst hQ
        exact W.iret (v := zI (-1)) hx hb hr (fun t ht hW => ⟨⟨zI (-1), (), rfl, congrArg zI ((hf_.trans (kFnd_out (by omega))).symm), by rw [ht]; exact hP9, va_K.moved hW.alike hK9, hD9⟩, hS.F ht⟩) hS.2.2 dX1_findAttribute_41
      · refine lv_aload_n hx hb dX1_findAttribute_14 rfl (lv_at hl 1 rfl) ?_
        refine va_get (D := (dC, dI)) (ci := 1) (v := .ref gan) (C := RX1) (T := TX1) (N := 18) hx hb hg inG_X1 hown hK hP 0 rfl rfl 4 (by decide) (hg (.fieldLink RX1 26 "AttributeDesk$Grammar" "attributeNames" "[J") gw_1_38) (fun _ h9 => h9) rfl dX1_findAttribute_15 ?_
        refine lv_iload_n hx hb dX1_findAttribute_18 rfl (lv_at hl 2 rfl) ?_
        refine lv_bipush (v := zI 6) hx hb dX1_findAttribute_19 (by decide) ?_
        refine zv_imul (r := 6 * s_) hx hb dX1_findAttribute_21 (by omega) ?_
        refine lv_iload hx hb dX1_findAttribute_22 (lv_at hl 0 rfl) ?_
        refine zv_iadd (r := 6 * s_ + i) hx hb dX1_findAttribute_24 (by omega) ?_
        refine zv_lald (D := (dC, dI)) hx hb hK hP 2 1 rfl rfl (by omega) (Nat.le_of_ble_eq_true rfl) dX1_findAttribute_25 ?_
        have hv3 := hnn (6 * s_ + i) (by omega)
        refine lv_lload_n hx hb dX1_findAttribute_26 rfl (lv_at hl 3 rfl) ?_
        refine zv_lcmp hx hb dX1_findAttribute_27 (by omega) (by omega) (fun r4 hr4a hr4b hr4c hr4d => ?_)
        refine zv_if_ne (tgt := 34) hx hb dX1_findAttribute_28 (by decide) (by omega) (fun c5 => ?_) (fun c5 => ?_)
        · refine lv_iinc (v := zI (i + 1)) (lv' := [(4, .int (zI (i + 1))), (0, .ref gr), (1, .int (zI s_)), (2, .long (lI nm_))]) hx hb dX1_findAttribute_34 hl (k := 0) rfl (zI_inc (1) (by omega)) (by decide) rfl (fun ls hl => ?_)
          refine lv_goto (tgt := 3) hx hb dX1_findAttribute_37 (by decide) ?_
          exact ih3 (i + 1) (by omega) (hf_.trans (kFnd_no (by omega) (show ¬ an_ (6 * s_ + i) = nm_ from by omega))) (by omega) _ _ hP hD hS _ (lv_sub hl [0, 1, 2, 3] rfl)
        · refine lv_iload hx hb dX1_findAttribute_31 (lv_at hl 0 rfl) ?_
          have hP9 := hP.sub (ws' := [(gr, .inr (1, [.int (zI sc_), .ref gsn, .ref gac, .ref gic, .ref gan, .ref gih, .ref grk, .int (zI rc_), .ref grn, .ref grs, .ref gcc, .ref gec, .ref gcs, .ref gce, .ref ghg, .ref gop, .ref god, .int (zI cz_)])), (gac, .inl (cI, 12, .inl (zF ac_))), (gan, .inl (cJ, 72, .inr (.inl (lF an_))))]) [0, 1, 2] rfl
          have hD9 := hD.sub (ws' := [(gr, .inr (1, [.int (zI sc_), .ref gsn, .ref gac, .ref gic, .ref gan, .ref gih, .ref grk, .int (zI rc_), .ref grn, .ref grs, .ref gcc, .ref gec, .ref gcs, .ref gce, .ref ghg, .ref gop, .ref god, .int (zI cz_)])), (gac, .inl (cI, 12, .inl (zF ac_))), (gan, .inl (cJ, 72, .inr (.inl (lF an_))))]) [0, 1, 2] (by decide) rfl
          have hK9 := hK.sub (tys' := [(cI, .int), (cJ, .long)]) [0, 1] rfl
          subst hQ
          exact W.iret (v := zI i) hx hb hr (fun t ht hW => ⟨⟨zI i, (), rfl, congrArg zI ((hf_.trans (kFnd_yes (by omega) (show an_ (6 * s_ + i) = nm_ from by omega))).symm), by rw [ht]; exact hP9, va_K.moved hW.alike hK9, hD9⟩, hS.F ht⟩) hS.2.2 dX1_findAttribute_33
  exact lp3 ((ac_ s_ - 0 : Int).toNat + 1) 0 (by omega) rfl (by omega) _ _ hP hD hS _ (lv_sub hl [0, 1, 2, 3] rfl)

set_option maxHeartbeats 4000000 in
set_option maxRecDepth 100000 in
theorem c_X1_addSymbol (l : Launch) (dC : Nat → ClassId) (dI : Nat → Nat → Nat) (gr gsn gac gic gan gih grk grn grs gcc gec gcs gce ghg gop god : Nat) (cJ cI : ClassId) (sz : Nat) (sc_ : Int) (rc_ : Int) (cz_ : Int) (sn_ : Int → Int) (ac_ : Int → Int) (ic_ : Int → Int) (nm_ : Int) (hsc : 0 ≤ sc_ ∧ sc_ < 12) : Met l yX1_addSymbol wyX1_addSymbol ({ frames := 0, cells := 0, slots := 0, locals := 0 }) (va_Pc [.ref gr, .long (lI nm_)] (fun U => U.heap.size = sz ∧ va_P (dC, dI) vwCl [(gr, .inr (1, [.int (zI sc_), .ref gsn, .ref gac, .ref gic, .ref gan, .ref gih, .ref grk, .int (zI rc_), .ref grn, .ref grs, .ref gcc, .ref gec, .ref gcs, .ref gce, .ref ghg, .ref gop, .ref god, .int (zI cz_)])), (gsn, .inl (cJ, 12, .inr (.inl (lF sn_)))), (gac, .inl (cI, 12, .inl (zF ac_))), (gic, .inl (cI, 12, .inl (zF ic_)))] U.heap ∧ va_K (dC, dI) vwCl [(cJ, .long), (cI, .int)] U ∧ va_D (fun _ => True) [(gr, .inr (1, [.int (zI sc_), .ref gsn, .ref gac, .ref gic, .ref gan, .ref gih, .ref grk, .int (zI rc_), .ref grn, .ref grs, .ref gcc, .ref gec, .ref gcs, .ref gce, .ref ghg, .ref gop, .ref god, .int (zI cz_)])), (gsn, .inl (cJ, 12, .inr (.inl (lF sn_)))), (gac, .inl (cI, 12, .inl (zF ac_))), (gic, .inl (cI, 12, .inl (zF ic_)))])) (va_Qv (fun _ : Unit => True) (fun _ t => va_P (dC, dI) vwCl [(gr, .inr (1, [.int (zI (sc_ + 1)), .ref gsn, .ref gac, .ref gic, .ref gan, .ref gih, .ref grk, .int (zI rc_), .ref grn, .ref grs, .ref gcc, .ref gec, .ref gcs, .ref gce, .ref ghg, .ref gop, .ref god, .int (zI cz_)])), (gsn, .inl (cJ, 12, .inr (.inl (lF (zU sn_ sc_ nm_))))), (gac, .inl (cI, 12, .inl (zF (zU ac_ sc_ 0)))), (gic, .inl (cI, 12, .inl (zF (zU ic_ sc_ 0))))] t.heap ∧ va_K (dC, dI) vwCl [(cJ, .long), (cI, .int)] t ∧ va_D (va_A [(gr, .inr (1, [.int (zI sc_), .ref gsn, .ref gac, .ref gic, .ref gan, .ref gih, .ref grk, .int (zI rc_), .ref grn, .ref grs, .ref gcc, .ref gec, .ref gcs, .ref gce, .ref ghg, .ref gop, .ref god, .int (zI cz_)])), (gsn, .inl (cJ, 12, .inr (.inl (lF sn_)))), (gac, .inl (cI, 12, .inl (zF ac_))), (gic, .inl (cI, 12, .inl (zF ic_)))] sz) [(gr, .inr (1, [.int (zI (sc_ + 1)), .ref gsn, .ref gac, .ref gic, .ref gan, .ref gih, .ref grk, .int (zI rc_), .ref grn, .ref grs, .ref gcc, .ref gec, .ref gcs, .ref gce, .ref ghg, .ref gop, .ref god, .int (zI cz_)])), (gsn, .inl (cJ, 12, .inr (.inl (lF (zU sn_ sc_ nm_))))), (gac, .inl (cI, 12, .inl (zF (zU ac_ sc_ 0)))), (gic, .inl (cI, 12, .inl (zF (zU ic_ sc_ 0))))]) (va_A [(gr, .inr (1, [.int (zI sc_), .ref gsn, .ref gac, .ref gic, .ref gan, .ref gih, .ref grk, .int (zI rc_), .ref grn, .ref grs, .ref gcc, .ref gec, .ref gcs, .ref gce, .ref ghg, .ref gop, .ref god, .int (zI cz_)])), (gsn, .inl (cJ, 12, .inr (.inl (lF sn_)))), (gac, .inl (cI, 12, .inl (zF ac_))), (gic, .inl (cI, 12, .inl (zF ic_)))] sz)) 0 0 (va_A [(gr, .inr (1, [.int (zI sc_), .ref gsn, .ref gac, .ref gic, .ref gan, .ref gih, .ref grk, .int (zI rc_), .ref grn, .ref grs, .ref gcc, .ref gec, .ref gcs, .ref gce, .ref ghg, .ref gop, .ref god, .int (zI cz_)])), (gsn, .inl (cJ, 12, .inr (.inl (lF sn_)))), (gac, .inl (cI, 12, .inl (zF ac_))), (gic, .inl (cI, 12, .inl (zF ic_)))] sz) := by
  refine Met.ofW (cc := cX1_addSymbol) (maxL := 3) (ret := none) (by decide) rfl ?_
  intro p e s m args below meth c s₁ B hml hv
  obtain ⟨rfl, hsz, hP, hK, hD0⟩ := hv
  have hx := B.exec
  have hb := B.bytes
  have hr := B.returns
  have hts := atoms_spec (ws := wyX1_addSymbol) B.pre
  have hg : ∀ w ∈ lw_G, w.before _ s = true := fun w h => hts w (List.mem_cons_of_mem _ h)
  have hown : s.vm.findClass RX1 = some m.cls := findClass_of_methodNamed B.named
  have hlocks := B.notSynchronized
  subst hsz
  have hD := hD0.self (sz := s.heap.size)
  generalize hAe : va_A [(gr, .inr (1, [.int (zI sc_), .ref gsn, .ref gac, .ref gic, .ref gan, .ref gih, .ref grk, .int (zI rc_), .ref grn, .ref grs, .ref gcc, .ref gec, .ref gcs, .ref gce, .ref ghg, .ref gop, .ref god, .int (zI cz_)])), (gsn, .inl (cJ, 12, .inr (.inl (lF sn_)))), (gac, .inl (cI, 12, .inl (zF ac_))), (gic, .inl (cI, 12, .inl (zF ic_)))] s.heap.size = A at hD ⊢
  have hA : ∀ q : Nat, s.heap.size ≤ q → A q := fun q h => by rw [← hAe]; exact Or.inr h
  have hS : va_S A s.heap s.heap [] := va_S.rf
  have hP : va_P (dC, dI) vwCl [(gr, .inr (1, [.int (zI sc_), .ref gsn, .ref gac, .ref gic, .ref gan, .ref gih, .ref grk, .int (zI rc_), .ref grn, .ref grs, .ref gcc, .ref gec, .ref gcs, .ref gce, .ref ghg, .ref gop, .ref god, .int (zI cz_)])), (gsn, .inl (cJ, 12, .inr (.inl (lF sn_)))), (gac, .inl (cI, 12, .inl (zF ac_))), (gic, .inl (cI, 12, .inl (zF ic_)))] s.heap := hP
  have hl := lv_entry ([.ref gr, .long (lI nm_)]) (n := 3) (Nat.le_of_ble_eq_true rfl)
  rw [lg_entry_eq]
  generalize (lg_sl ([.ref gr, .long (lI nm_)]) ++ List.replicate (3 - (lg_sl ([.ref gr, .long (lI nm_)])).length) Slot.unset).toArray = ls at hl ⊢
  have hl : lv_has ls 3 [(0, .ref gr), (1, .long (lI nm_))] := hl
  refine lv_aload_n hx hb dX1_addSymbol_0 rfl (lv_at hl 0 rfl) ?_
  refine va_get (D := (dC, dI)) (ci := 1) (v := .int (zI sc_)) (C := RX1) (T := TX1) (N := 18) hx hb hg inG_X1 hown hK hP 0 rfl rfl 0 (by decide) (hg (.fieldLink RX1 9 "AttributeDesk$Grammar" "symbolCount" "I") gw_1_26) (fun _ h9 => h9) rfl dX1_addSymbol_1 ?_
  refine lv_bipush (v := zI 12) hx hb dX1_addSymbol_4 (by decide) ?_
  refine zv_icmp_ge (tgt := 49) hx hb dX1_addSymbol_6 (by decide) (by omega) (by decide) (fun c1 => (by omega : False).elim) (fun c1 => ?_)
  refine lv_aload_n hx hb dX1_addSymbol_9 rfl (lv_at hl 0 rfl) ?_
  refine va_get (D := (dC, dI)) (ci := 1) (v := .ref gsn) (C := RX1) (T := TX1) (N := 18) hx hb hg inG_X1 hown hK hP 0 rfl rfl 1 (by decide) (hg (.fieldLink RX1 15 "AttributeDesk$Grammar" "symbolNames" "[J") gw_1_30) (fun _ h9 => h9) rfl dX1_addSymbol_10 ?_
  refine lv_aload_n hx hb dX1_addSymbol_13 rfl (lv_at hl 0 rfl) ?_
  refine va_get (D := (dC, dI)) (ci := 1) (v := .int (zI sc_)) (C := RX1) (T := TX1) (N := 18) hx hb hg inG_X1 hown hK hP 0 rfl rfl 0 (by decide) (hg (.fieldLink RX1 9 "AttributeDesk$Grammar" "symbolCount" "I") gw_1_26) (fun _ h9 => h9) rfl dX1_addSymbol_14 ?_
  refine lv_lload_n hx hb dX1_addSymbol_17 rfl (lv_at hl 1 rfl) ?_
  refine zv_last (D := (dC, dI)) hx hb hK hP hD hS 1 0 rfl rfl (by omega) (Nat.le_of_ble_eq_true rfl) dX1_addSymbol_18 (fun H locs hP hD hS => ?_)
  have hP : va_P (dC, dI) vwCl [(gr, .inr (1, [.int (zI sc_), .ref gsn, .ref gac, .ref gic, .ref gan, .ref gih, .ref grk, .int (zI rc_), .ref grn, .ref grs, .ref gcc, .ref gec, .ref gcs, .ref gce, .ref ghg, .ref gop, .ref god, .int (zI cz_)])), (gsn, .inl (cJ, 12, .inr (.inl (lF (zU sn_ sc_ nm_))))), (gac, .inl (cI, 12, .inl (zF ac_))), (gic, .inl (cI, 12, .inl (zF ic_)))] H := hP
  have hD : va_D A [(gr, .inr (1, [.int (zI sc_), .ref gsn, .ref gac, .ref gic, .ref gan, .ref gih, .ref grk, .int (zI rc_), .ref grn, .ref grs, .ref gcc, .ref gec, .ref gcs, .ref gce, .ref ghg, .ref gop, .ref god, .int (zI cz_)])), (gsn, .inl (cJ, 12, .inr (.inl (lF (zU sn_ sc_ nm_))))), (gac, .inl (cI, 12, .inl (zF ac_))), (gic, .inl (cI, 12, .inl (zF ic_)))] := hD
  refine lv_aload_n hx hb dX1_addSymbol_19 rfl (lv_at hl 0 rfl) ?_
  refine va_get (D := (dC, dI)) (ci := 1) (v := .ref gac) (C := RX1) (T := TX1) (N := 18) hx hb hg inG_X1 hown hK hP 0 rfl rfl 2 (by decide) (hg (.fieldLink RX1 19 "AttributeDesk$Grammar" "attributeCounts" "[I") gw_1_31) (fun _ h9 => h9) rfl dX1_addSymbol_20 ?_
  refine lv_aload_n hx hb dX1_addSymbol_23 rfl (lv_at hl 0 rfl) ?_
  refine va_get (D := (dC, dI)) (ci := 1) (v := .int (zI sc_)) (C := RX1) (T := TX1) (N := 18) hx hb hg inG_X1 hown hK hP 0 rfl rfl 0 (by decide) (hg (.fieldLink RX1 9 "AttributeDesk$Grammar" "symbolCount" "I") gw_1_26) (fun _ h9 => h9) rfl dX1_addSymbol_24 ?_
  refine lv_iconst (v := zI 0) hx hb dX1_addSymbol_27 rfl ?_
  refine zv_iast (D := (dC, dI)) hx hb hK hP hD hS 2 1 rfl rfl (by omega) (Nat.le_of_ble_eq_true rfl) dX1_addSymbol_28 (fun H locs hP hD hS => ?_)
  have hP : va_P (dC, dI) vwCl [(gr, .inr (1, [.int (zI sc_), .ref gsn, .ref gac, .ref gic, .ref gan, .ref gih, .ref grk, .int (zI rc_), .ref grn, .ref grs, .ref gcc, .ref gec, .ref gcs, .ref gce, .ref ghg, .ref gop, .ref god, .int (zI cz_)])), (gsn, .inl (cJ, 12, .inr (.inl (lF (zU sn_ sc_ nm_))))), (gac, .inl (cI, 12, .inl (zF (zU ac_ sc_ 0)))), (gic, .inl (cI, 12, .inl (zF ic_)))] H := hP
  have hD : va_D A [(gr, .inr (1, [.int (zI sc_), .ref gsn, .ref gac, .ref gic, .ref gan, .ref gih, .ref grk, .int (zI rc_), .ref grn, .ref grs, .ref gcc, .ref gec, .ref gcs, .ref gce, .ref ghg, .ref gop, .ref god, .int (zI cz_)])), (gsn, .inl (cJ, 12, .inr (.inl (lF (zU sn_ sc_ nm_))))), (gac, .inl (cI, 12, .inl (zF (zU ac_ sc_ 0)))), (gic, .inl (cI, 12, .inl (zF ic_)))] := hD
  refine lv_aload_n hx hb dX1_addSymbol_29 rfl (lv_at hl 0 rfl) ?_
  refine va_get (D := (dC, dI)) (ci := 1) (v := .ref gic) (C := RX1) (T := TX1) (N := 18) hx hb hg inG_X1 hown hK hP 0 rfl rfl 3 (by decide) (hg (.fieldLink RX1 23 "AttributeDesk$Grammar" "inheritedCounts" "[I") gw_1_35) (fun _ h9 => h9) rfl dX1_addSymbol_30 ?_
  refine lv_aload_n hx hb dX1_addSymbol_33 rfl (lv_at hl 0 rfl) ?_
  refine va_get (D := (dC, dI)) (ci := 1) (v := .int (zI sc_)) (C := RX1) (T := TX1) (N := 18) hx hb hg inG_X1 hown hK hP 0 rfl rfl 0 (by decide) (hg (.fieldLink RX1 9 "AttributeDesk$Grammar" "symbolCount" "I") gw_1_26) (fun _ h9 => h9) rfl dX1_addSymbol_34 ?_
  refine lv_iconst (v := zI 0) hx hb dX1_addSymbol_37 rfl ?_
  refine zv_iast (D := (dC, dI)) hx hb hK hP hD hS 3 1 rfl rfl (by omega) (Nat.le_of_ble_eq_true rfl) dX1_addSymbol_38 (fun H locs hP hD hS => ?_)
  have hP : va_P (dC, dI) vwCl [(gr, .inr (1, [.int (zI sc_), .ref gsn, .ref gac, .ref gic, .ref gan, .ref gih, .ref grk, .int (zI rc_), .ref grn, .ref grs, .ref gcc, .ref gec, .ref gcs, .ref gce, .ref ghg, .ref gop, .ref god, .int (zI cz_)])), (gsn, .inl (cJ, 12, .inr (.inl (lF (zU sn_ sc_ nm_))))), (gac, .inl (cI, 12, .inl (zF (zU ac_ sc_ 0)))), (gic, .inl (cI, 12, .inl (zF (zU ic_ sc_ 0))))] H := hP
  have hD : va_D A [(gr, .inr (1, [.int (zI sc_), .ref gsn, .ref gac, .ref gic, .ref gan, .ref gih, .ref grk, .int (zI rc_), .ref grn, .ref grs, .ref gcc, .ref gec, .ref gcs, .ref gce, .ref ghg, .ref gop, .ref god, .int (zI cz_)])), (gsn, .inl (cJ, 12, .inr (.inl (lF (zU sn_ sc_ nm_))))), (gac, .inl (cI, 12, .inl (zF (zU ac_ sc_ 0)))), (gic, .inl (cI, 12, .inl (zF (zU ic_ sc_ 0))))] := hD
  refine lv_aload_n hx hb dX1_addSymbol_39 rfl (lv_at hl 0 rfl) ?_
  refine lv_dup hx hb dX1_addSymbol_40 rfl ?_
  refine va_get (D := (dC, dI)) (ci := 1) (v := .int (zI sc_)) (C := RX1) (T := TX1) (N := 18) hx hb hg inG_X1 hown hK hP 0 rfl rfl 0 (by decide) (hg (.fieldLink RX1 9 "AttributeDesk$Grammar" "symbolCount" "I") gw_1_26) (fun _ h9 => h9) rfl dX1_addSymbol_41 ?_
  refine lv_iconst (v := zI 1) hx hb dX1_addSymbol_44 rfl ?_
  refine zv_iadd (r := sc_ + 1) hx hb dX1_addSymbol_45 (by omega) ?_
  refine va_put (D := (dC, dI)) (ci := 1) (v := .int (zI (sc_ + 1))) (ty := .int) (C := RX1) (T := TX1) (N := 18) hx hb hg inG_X1 tyX1 tyX1_ok nmX1 hown hK hP hD hS 0 rfl rfl 0 (by decide) (hg (.fieldLink RX1 9 "AttributeDesk$Grammar" "symbolCount" "I") gw_1_26) (fun _ h9 => h9) rfl (by decide +kernel) rfl rfl (Nat.le_of_ble_eq_true rfl) dX1_addSymbol_46 (fun H locs hP hD hS => ?_)
  have hP : va_P (dC, dI) vwCl [(gr, .inr (1, [.int (zI (sc_ + 1)), .ref gsn, .ref gac, .ref gic, .ref gan, .ref gih, .ref grk, .int (zI rc_), .ref grn, .ref grs, .ref gcc, .ref gec, .ref gcs, .ref gce, .ref ghg, .ref gop, .ref god, .int (zI cz_)])), (gsn, .inl (cJ, 12, .inr (.inl (lF (zU sn_ sc_ nm_))))), (gac, .inl (cI, 12, .inl (zF (zU ac_ sc_ 0)))), (gic, .inl (cI, 12, .inl (zF (zU ic_ sc_ 0))))] H := hP
  have hD : va_D A [(gr, .inr (1, [.int (zI (sc_ + 1)), .ref gsn, .ref gac, .ref gic, .ref gan, .ref gih, .ref grk, .int (zI rc_), .ref grn, .ref grs, .ref gcc, .ref gec, .ref gcs, .ref gce, .ref ghg, .ref gop, .ref god, .int (zI cz_)])), (gsn, .inl (cJ, 12, .inr (.inl (lF (zU sn_ sc_ nm_))))), (gac, .inl (cI, 12, .inl (zF (zU ac_ sc_ 0)))), (gic, .inl (cI, 12, .inl (zF (zU ic_ sc_ 0))))] := hD
  have hP9 := hP.sub (ws' := [(gr, .inr (1, [.int (zI (sc_ + 1)), .ref gsn, .ref gac, .ref gic, .ref gan, .ref gih, .ref grk, .int (zI rc_), .ref grn, .ref grs, .ref gcc, .ref gec, .ref gcs, .ref gce, .ref ghg, .ref gop, .ref god, .int (zI cz_)])), (gsn, .inl (cJ, 12, .inr (.inl (lF (zU sn_ sc_ nm_))))), (gac, .inl (cI, 12, .inl (zF (zU ac_ sc_ 0)))), (gic, .inl (cI, 12, .inl (zF (zU ic_ sc_ 0))))]) [0, 1, 2, 3] rfl
  have hD9 := hD.sub (ws' := [(gr, .inr (1, [.int (zI (sc_ + 1)), .ref gsn, .ref gac, .ref gic, .ref gan, .ref gih, .ref grk, .int (zI rc_), .ref grn, .ref grs, .ref gcc, .ref gec, .ref gcs, .ref gce, .ref ghg, .ref gop, .ref god, .int (zI cz_)])), (gsn, .inl (cJ, 12, .inr (.inl (lF (zU sn_ sc_ nm_))))), (gac, .inl (cI, 12, .inl (zF (zU ac_ sc_ 0)))), (gic, .inl (cI, 12, .inl (zF (zU ic_ sc_ 0))))]) [0, 1, 2, 3] (by decide) rfl
  have hK9 := hK.sub (tys' := [(cJ, .long), (cI, .int)]) [0, 1] rfl
  exact W.vret hx hb hr (fun t ht hW => ⟨⟨(), rfl, trivial, by rw [ht]; exact hP9, va_K.moved hW.alike hK9, hD9⟩, hS.F ht⟩) hS.2.2 dX1_addSymbol_49

set_option maxHeartbeats 4000000 in
set_option maxRecDepth 100000 in
theorem c_X1_addAttribute (l : Launch) (dC : Nat → ClassId) (dI : Nat → Nat → Nat) (gr gac gic gan gih grk gsn grn grs gcc gec gcs gce ghg gop god : Nat) (cI cJ cZ : ClassId) (sz : Nat) (sc_ : Int) (rc_ : Int) (cz_ : Int) (ac_ : Int → Int) (ic_ : Int → Int) (an_ : Int → Int) (ih_ : Int → Int) (rk_ : Int → Int) (s_ : Int) (nm_ : Int) (ib_ : Int) (hs_ : 0 ≤ s_ ∧ s_ < 12) (hac : 0 ≤ ac_ s_ ∧ ac_ s_ < 6) (hic : 0 ≤ ic_ s_ ∧ ic_ s_ ≤ 6) (hib : ib_ = 0 ∨ ib_ = 1) : Met l yX1_addAttribute wyX1_addAttribute ({ frames := 0, cells := 0, slots := 0, locals := 0 }) (va_Pc [.ref gr, .int (zI s_), .long (lI nm_), .int (zI ib_)] (fun U => U.heap.size = sz ∧ va_P (dC, dI) vwCl [(gr, .inr (1, [.int (zI sc_), .ref gsn, .ref gac, .ref gic, .ref gan, .ref gih, .ref grk, .int (zI rc_), .ref grn, .ref grs, .ref gcc, .ref gec, .ref gcs, .ref gce, .ref ghg, .ref gop, .ref god, .int (zI cz_)])), (gac, .inl (cI, 12, .inl (zF ac_))), (gic, .inl (cI, 12, .inl (zF ic_))), (gan, .inl (cJ, 72, .inr (.inl (lF an_)))), (gih, .inl (cZ, 72, .inl (zF ih_))), (grk, .inl (cI, 72, .inl (zF rk_)))] U.heap ∧ va_K (dC, dI) vwCl [(cI, .int), (cJ, .long), (cZ, .boolean)] U ∧ va_D (fun _ => True) [(gr, .inr (1, [.int (zI sc_), .ref gsn, .ref gac, .ref gic, .ref gan, .ref gih, .ref grk, .int (zI rc_), .ref grn, .ref grs, .ref gcc, .ref gec, .ref gcs, .ref gce, .ref ghg, .ref gop, .ref god, .int (zI cz_)])), (gac, .inl (cI, 12, .inl (zF ac_))), (gic, .inl (cI, 12, .inl (zF ic_))), (gan, .inl (cJ, 72, .inr (.inl (lF an_)))), (gih, .inl (cZ, 72, .inl (zF ih_))), (grk, .inl (cI, 72, .inl (zF rk_)))])) (va_Qv (fun _ : Unit => True) (fun _ t => ∃ (rk2_ : Int → Int), ∃ (ic2_ : Int → Int), (rk2_ = zU rk_ (6 * s_ + (ac_ s_)) (if ib_ = 1 then ic_ s_ else ac_ s_ - ic_ s_)) ∧ (ic2_ = zU ic_ s_ (ic_ s_ + ib_)) ∧ va_P (dC, dI) vwCl [(gr, .inr (1, [.int (zI sc_), .ref gsn, .ref gac, .ref gic, .ref gan, .ref gih, .ref grk, .int (zI rc_), .ref grn, .ref grs, .ref gcc, .ref gec, .ref gcs, .ref gce, .ref ghg, .ref gop, .ref god, .int (zI cz_)])), (gac, .inl (cI, 12, .inl (zF (zU ac_ s_ ((ac_ s_) + 1))))), (gic, .inl (cI, 12, .inl (zF ic2_))), (gan, .inl (cJ, 72, .inr (.inl (lF (zU an_ (6 * s_ + (ac_ s_)) nm_))))), (gih, .inl (cZ, 72, .inl (zF (zU ih_ (6 * s_ + (ac_ s_)) ib_)))), (grk, .inl (cI, 72, .inl (zF rk2_)))] t.heap ∧ va_K (dC, dI) vwCl [(cI, .int), (cJ, .long), (cZ, .boolean)] t ∧ va_D (va_A [(gr, .inr (1, [.int (zI sc_), .ref gsn, .ref gac, .ref gic, .ref gan, .ref gih, .ref grk, .int (zI rc_), .ref grn, .ref grs, .ref gcc, .ref gec, .ref gcs, .ref gce, .ref ghg, .ref gop, .ref god, .int (zI cz_)])), (gac, .inl (cI, 12, .inl (zF ac_))), (gic, .inl (cI, 12, .inl (zF ic_))), (gan, .inl (cJ, 72, .inr (.inl (lF an_)))), (gih, .inl (cZ, 72, .inl (zF ih_))), (grk, .inl (cI, 72, .inl (zF rk_)))] sz) [(gr, .inr (1, [.int (zI sc_), .ref gsn, .ref gac, .ref gic, .ref gan, .ref gih, .ref grk, .int (zI rc_), .ref grn, .ref grs, .ref gcc, .ref gec, .ref gcs, .ref gce, .ref ghg, .ref gop, .ref god, .int (zI cz_)])), (gac, .inl (cI, 12, .inl (zF (zU ac_ s_ ((ac_ s_) + 1))))), (gic, .inl (cI, 12, .inl (zF ic2_))), (gan, .inl (cJ, 72, .inr (.inl (lF (zU an_ (6 * s_ + (ac_ s_)) nm_))))), (gih, .inl (cZ, 72, .inl (zF (zU ih_ (6 * s_ + (ac_ s_)) ib_)))), (grk, .inl (cI, 72, .inl (zF rk2_)))]) (va_A [(gr, .inr (1, [.int (zI sc_), .ref gsn, .ref gac, .ref gic, .ref gan, .ref gih, .ref grk, .int (zI rc_), .ref grn, .ref grs, .ref gcc, .ref gec, .ref gcs, .ref gce, .ref ghg, .ref gop, .ref god, .int (zI cz_)])), (gac, .inl (cI, 12, .inl (zF ac_))), (gic, .inl (cI, 12, .inl (zF ic_))), (gan, .inl (cJ, 72, .inr (.inl (lF an_)))), (gih, .inl (cZ, 72, .inl (zF ih_))), (grk, .inl (cI, 72, .inl (zF rk_)))] sz)) 0 0 (va_A [(gr, .inr (1, [.int (zI sc_), .ref gsn, .ref gac, .ref gic, .ref gan, .ref gih, .ref grk, .int (zI rc_), .ref grn, .ref grs, .ref gcc, .ref gec, .ref gcs, .ref gce, .ref ghg, .ref gop, .ref god, .int (zI cz_)])), (gac, .inl (cI, 12, .inl (zF ac_))), (gic, .inl (cI, 12, .inl (zF ic_))), (gan, .inl (cJ, 72, .inr (.inl (lF an_)))), (gih, .inl (cZ, 72, .inl (zF ih_))), (grk, .inl (cI, 72, .inl (zF rk_)))] sz) := by
  refine Met.ofW (cc := cX1_addAttribute) (maxL := 7) (ret := none) (by decide) rfl ?_
  intro p e s m args below meth c s₁ B hml hv
  obtain ⟨rfl, hsz, hP, hK, hD0⟩ := hv
  have hx := B.exec
  have hb := B.bytes
  have hr := B.returns
  have hts := atoms_spec (ws := wyX1_addAttribute) B.pre
  have hg : ∀ w ∈ lw_G, w.before _ s = true := fun w h => hts w (List.mem_cons_of_mem _ h)
  have hown : s.vm.findClass RX1 = some m.cls := findClass_of_methodNamed B.named
  have hlocks := B.notSynchronized
  subst hsz
  have hD := hD0.self (sz := s.heap.size)
  generalize hAe : va_A [(gr, .inr (1, [.int (zI sc_), .ref gsn, .ref gac, .ref gic, .ref gan, .ref gih, .ref grk, .int (zI rc_), .ref grn, .ref grs, .ref gcc, .ref gec, .ref gcs, .ref gce, .ref ghg, .ref gop, .ref god, .int (zI cz_)])), (gac, .inl (cI, 12, .inl (zF ac_))), (gic, .inl (cI, 12, .inl (zF ic_))), (gan, .inl (cJ, 72, .inr (.inl (lF an_)))), (gih, .inl (cZ, 72, .inl (zF ih_))), (grk, .inl (cI, 72, .inl (zF rk_)))] s.heap.size = A at hD ⊢
  have hA : ∀ q : Nat, s.heap.size ≤ q → A q := fun q h => by rw [← hAe]; exact Or.inr h
  have hS : va_S A s.heap s.heap [] := va_S.rf
  have hP : va_P (dC, dI) vwCl [(gr, .inr (1, [.int (zI sc_), .ref gsn, .ref gac, .ref gic, .ref gan, .ref gih, .ref grk, .int (zI rc_), .ref grn, .ref grs, .ref gcc, .ref gec, .ref gcs, .ref gce, .ref ghg, .ref gop, .ref god, .int (zI cz_)])), (gac, .inl (cI, 12, .inl (zF ac_))), (gic, .inl (cI, 12, .inl (zF ic_))), (gan, .inl (cJ, 72, .inr (.inl (lF an_)))), (gih, .inl (cZ, 72, .inl (zF ih_))), (grk, .inl (cI, 72, .inl (zF rk_)))] s.heap := hP
  have hl := lv_entry ([.ref gr, .int (zI s_), .long (lI nm_), .int (zI ib_)]) (n := 7) (Nat.le_of_ble_eq_true rfl)
  rw [lg_entry_eq]
  generalize (lg_sl ([.ref gr, .int (zI s_), .long (lI nm_), .int (zI ib_)]) ++ List.replicate (7 - (lg_sl ([.ref gr, .int (zI s_), .long (lI nm_), .int (zI ib_)])).length) Slot.unset).toArray = ls at hl ⊢
  have hl : lv_has ls 7 [(0, .ref gr), (1, .int (zI s_)), (2, .long (lI nm_)), (4, .int (zI ib_))] := hl
  refine lv_aload_n hx hb dX1_addAttribute_0 rfl (lv_at hl 0 rfl) ?_
  refine va_get (D := (dC, dI)) (ci := 1) (v := .ref gac) (C := RX1) (T := TX1) (N := 18) hx hb hg inG_X1 hown hK hP 0 rfl rfl 2 (by decide) (hg (.fieldLink RX1 19 "AttributeDesk$Grammar" "attributeCounts" "[I") gw_1_31) (fun _ h9 => h9) rfl dX1_addAttribute_1 ?_
  refine lv_iload_n hx hb dX1_addAttribute_4 rfl (lv_at hl 1 rfl) ?_
  refine zv_iald (D := (dC, dI)) hx hb hK hP 1 0 rfl rfl (by omega) (Nat.le_of_ble_eq_true rfl) dX1_addAttribute_5 ?_
  refine lv_istore (lv' := [(5, .int (zI (ac_ s_))), (0, .ref gr), (1, .int (zI s_)), (2, .long (lI nm_)), (4, .int (zI ib_))]) hx hb dX1_addAttribute_6 hl (by decide) rfl (fun ls hl => ?_)
  refine lv_iload hx hb dX1_addAttribute_8 (lv_at hl 0 rfl) ?_
  refine lv_bipush (v := zI 6) hx hb dX1_addAttribute_10 (by decide) ?_
  refine zv_icmp_ge (tgt := 100) hx hb dX1_addAttribute_12 (by decide) (by omega) (by decide) (fun c1 => (by omega : False).elim) (fun c1 => ?_)
  refine lv_iload_n hx hb dX1_addAttribute_15 rfl (lv_at hl 2 rfl) ?_
  refine lv_bipush (v := zI 6) hx hb dX1_addAttribute_16 (by decide) ?_
  refine zv_imul (r := 6 * s_) hx hb dX1_addAttribute_18 (by omega) ?_
  refine lv_iload hx hb dX1_addAttribute_19 (lv_at hl 0 rfl) ?_
  refine zv_iadd (r := 6 * s_ + (ac_ s_)) hx hb dX1_addAttribute_21 (by omega) ?_
  refine lv_istore (lv' := [(6, .int (zI (6 * s_ + (ac_ s_)))), (5, .int (zI (ac_ s_))), (0, .ref gr), (1, .int (zI s_)), (2, .long (lI nm_)), (4, .int (zI ib_))]) hx hb dX1_addAttribute_22 hl (by decide) rfl (fun ls hl => ?_)
  refine lv_aload_n hx hb dX1_addAttribute_24 rfl (lv_at hl 2 rfl) ?_
  refine va_get (D := (dC, dI)) (ci := 1) (v := .ref gan) (C := RX1) (T := TX1) (N := 18) hx hb hg inG_X1 hown hK hP 0 rfl rfl 4 (by decide) (hg (.fieldLink RX1 26 "AttributeDesk$Grammar" "attributeNames" "[J") gw_1_38) (fun _ h9 => h9) rfl dX1_addAttribute_25 ?_
  refine lv_iload hx hb dX1_addAttribute_28 (lv_at hl 0 rfl) ?_
  refine lv_lload_n hx hb dX1_addAttribute_30 rfl (lv_at hl 4 rfl) ?_
  refine zv_last (D := (dC, dI)) hx hb hK hP hD hS 3 1 rfl rfl (by omega) (Nat.le_of_ble_eq_true rfl) dX1_addAttribute_31 (fun H locs hP hD hS => ?_)
  have hP : va_P (dC, dI) vwCl [(gr, .inr (1, [.int (zI sc_), .ref gsn, .ref gac, .ref gic, .ref gan, .ref gih, .ref grk, .int (zI rc_), .ref grn, .ref grs, .ref gcc, .ref gec, .ref gcs, .ref gce, .ref ghg, .ref gop, .ref god, .int (zI cz_)])), (gac, .inl (cI, 12, .inl (zF ac_))), (gic, .inl (cI, 12, .inl (zF ic_))), (gan, .inl (cJ, 72, .inr (.inl (lF (zU an_ (6 * s_ + (ac_ s_)) nm_))))), (gih, .inl (cZ, 72, .inl (zF ih_))), (grk, .inl (cI, 72, .inl (zF rk_)))] H := hP
  have hD : va_D A [(gr, .inr (1, [.int (zI sc_), .ref gsn, .ref gac, .ref gic, .ref gan, .ref gih, .ref grk, .int (zI rc_), .ref grn, .ref grs, .ref gcc, .ref gec, .ref gcs, .ref gce, .ref ghg, .ref gop, .ref god, .int (zI cz_)])), (gac, .inl (cI, 12, .inl (zF ac_))), (gic, .inl (cI, 12, .inl (zF ic_))), (gan, .inl (cJ, 72, .inr (.inl (lF (zU an_ (6 * s_ + (ac_ s_)) nm_))))), (gih, .inl (cZ, 72, .inl (zF ih_))), (grk, .inl (cI, 72, .inl (zF rk_)))] := hD
  refine lv_aload_n hx hb dX1_addAttribute_32 rfl (lv_at hl 2 rfl) ?_
  refine va_get (D := (dC, dI)) (ci := 1) (v := .ref gih) (C := RX1) (T := TX1) (N := 18) hx hb hg inG_X1 hown hK hP 0 rfl rfl 5 (by decide) (hg (.fieldLink RX1 29 "AttributeDesk$Grammar" "inherited" "[Z") gw_1_39) (fun _ h9 => h9) rfl dX1_addAttribute_33 ?_
  refine lv_iload hx hb dX1_addAttribute_36 (lv_at hl 0 rfl) ?_
  refine lv_iload hx hb dX1_addAttribute_38 (lv_at hl 5 rfl) ?_
  refine zv_zast (D := (dC, dI)) hx hb hK hP hD hS 4 2 rfl rfl (by omega) (Nat.le_of_ble_eq_true rfl) (by omega) dX1_addAttribute_40 (fun H locs hP hD hS => ?_)
  have hP : va_P (dC, dI) vwCl [(gr, .inr (1, [.int (zI sc_), .ref gsn, .ref gac, .ref gic, .ref gan, .ref gih, .ref grk, .int (zI rc_), .ref grn, .ref grs, .ref gcc, .ref gec, .ref gcs, .ref gce, .ref ghg, .ref gop, .ref god, .int (zI cz_)])), (gac, .inl (cI, 12, .inl (zF ac_))), (gic, .inl (cI, 12, .inl (zF ic_))), (gan, .inl (cJ, 72, .inr (.inl (lF (zU an_ (6 * s_ + (ac_ s_)) nm_))))), (gih, .inl (cZ, 72, .inl (zF (zU ih_ (6 * s_ + (ac_ s_)) ib_)))), (grk, .inl (cI, 72, .inl (zF rk_)))] H := hP
  have hD : va_D A [(gr, .inr (1, [.int (zI sc_), .ref gsn, .ref gac, .ref gic, .ref gan, .ref gih, .ref grk, .int (zI rc_), .ref grn, .ref grs, .ref gcc, .ref gec, .ref gcs, .ref gce, .ref ghg, .ref gop, .ref god, .int (zI cz_)])), (gac, .inl (cI, 12, .inl (zF ac_))), (gic, .inl (cI, 12, .inl (zF ic_))), (gan, .inl (cJ, 72, .inr (.inl (lF (zU an_ (6 * s_ + (ac_ s_)) nm_))))), (gih, .inl (cZ, 72, .inl (zF (zU ih_ (6 * s_ + (ac_ s_)) ib_)))), (grk, .inl (cI, 72, .inl (zF rk_)))] := hD
  refine lv_aload_n hx hb dX1_addAttribute_41 rfl (lv_at hl 2 rfl) ?_
  refine va_get (D := (dC, dI)) (ci := 1) (v := .ref grk) (C := RX1) (T := TX1) (N := 18) hx hb hg inG_X1 hown hK hP 0 rfl rfl 6 (by decide) (hg (.fieldLink RX1 33 "AttributeDesk$Grammar" "ranks" "[I") gw_1_40) (fun _ h9 => h9) rfl dX1_addAttribute_42 ?_
  refine lv_iload hx hb dX1_addAttribute_45 (lv_at hl 0 rfl) ?_
  refine lv_iload hx hb dX1_addAttribute_47 (lv_at hl 5 rfl) ?_
  refine zv_if_eq (tgt := 61) hx hb dX1_addAttribute_49 (by decide) (by omega) (fun c2 => ?_) (fun c2 => ?_)
  · refine lv_iload hx hb dX1_addAttribute_61 (lv_at hl 1 rfl) ?_
    refine lv_aload_n hx hb dX1_addAttribute_63 rfl (lv_at hl 2 rfl) ?_
    refine va_get (D := (dC, dI)) (ci := 1) (v := .ref gic) (C := RX1) (T := TX1) (N := 18) hx hb hg inG_X1 hown hK hP 0 rfl rfl 3 (by decide) (hg (.fieldLink RX1 23 "AttributeDesk$Grammar" "inheritedCounts" "[I") gw_1_35) (fun _ h9 => h9) rfl dX1_addAttribute_64 ?_
    refine lv_iload_n hx hb dX1_addAttribute_67 rfl (lv_at hl 3 rfl) ?_
    refine zv_iald (D := (dC, dI)) hx hb hK hP 2 0 rfl rfl (by omega) (Nat.le_of_ble_eq_true rfl) dX1_addAttribute_68 ?_
    refine zv_isub (r := (ac_ s_) - (ic_ s_)) hx hb dX1_addAttribute_69 (by omega) ?_
    refine zv_iast (D := (dC, dI)) hx hb hK hP hD hS 5 0 rfl rfl (by omega) (Nat.le_of_ble_eq_true rfl) dX1_addAttribute_70 (fun H locs hP hD hS => ?_)
    have hP : va_P (dC, dI) vwCl [(gr, .inr (1, [.int (zI sc_), .ref gsn, .ref gac, .ref gic, .ref gan, .ref gih, .ref grk, .int (zI rc_), .ref grn, .ref grs, .ref gcc, .ref gec, .ref gcs, .ref gce, .ref ghg, .ref gop, .ref god, .int (zI cz_)])), (gac, .inl (cI, 12, .inl (zF ac_))), (gic, .inl (cI, 12, .inl (zF ic_))), (gan, .inl (cJ, 72, .inr (.inl (lF (zU an_ (6 * s_ + (ac_ s_)) nm_))))), (gih, .inl (cZ, 72, .inl (zF (zU ih_ (6 * s_ + (ac_ s_)) ib_)))), (grk, .inl (cI, 72, .inl (zF (zU rk_ (6 * s_ + (ac_ s_)) ((ac_ s_) - (ic_ s_))))))] H := hP
    have hD : va_D A [(gr, .inr (1, [.int (zI sc_), .ref gsn, .ref gac, .ref gic, .ref gan, .ref gih, .ref grk, .int (zI rc_), .ref grn, .ref grs, .ref gcc, .ref gec, .ref gcs, .ref gce, .ref ghg, .ref gop, .ref god, .int (zI cz_)])), (gac, .inl (cI, 12, .inl (zF ac_))), (gic, .inl (cI, 12, .inl (zF ic_))), (gan, .inl (cJ, 72, .inr (.inl (lF (zU an_ (6 * s_ + (ac_ s_)) nm_))))), (gih, .inl (cZ, 72, .inl (zF (zU ih_ (6 * s_ + (ac_ s_)) ib_)))), (grk, .inl (cI, 72, .inl (zF (zU rk_ (6 * s_ + (ac_ s_)) ((ac_ s_) - (ic_ s_))))))] := hD
    refine lv_aload_n hx hb dX1_addAttribute_71 rfl (lv_at hl 2 rfl) ?_
    refine va_get (D := (dC, dI)) (ci := 1) (v := .ref gac) (C := RX1) (T := TX1) (N := 18) hx hb hg inG_X1 hown hK hP 0 rfl rfl 2 (by decide) (hg (.fieldLink RX1 19 "AttributeDesk$Grammar" "attributeCounts" "[I") gw_1_31) (fun _ h9 => h9) rfl dX1_addAttribute_72 ?_
    refine lv_iload_n hx hb dX1_addAttribute_75 rfl (lv_at hl 3 rfl) ?_
    refine lv_iload hx hb dX1_addAttribute_76 (lv_at hl 1 rfl) ?_
    refine lv_iconst (v := zI 1) hx hb dX1_addAttribute_78 rfl ?_
    refine zv_iadd (r := (ac_ s_) + 1) hx hb dX1_addAttribute_79 (by omega) ?_
    refine zv_iast (D := (dC, dI)) hx hb hK hP hD hS 1 0 rfl rfl (by omega) (Nat.le_of_ble_eq_true rfl) dX1_addAttribute_80 (fun H locs hP hD hS => ?_)
    have hP : va_P (dC, dI) vwCl [(gr, .inr (1, [.int (zI sc_), .ref gsn, .ref gac, .ref gic, .ref gan, .ref gih, .ref grk, .int (zI rc_), .ref grn, .ref grs, .ref gcc, .ref gec, .ref gcs, .ref gce, .ref ghg, .ref gop, .ref god, .int (zI cz_)])), (gac, .inl (cI, 12, .inl (zF (zU ac_ s_ ((ac_ s_) + 1))))), (gic, .inl (cI, 12, .inl (zF ic_))), (gan, .inl (cJ, 72, .inr (.inl (lF (zU an_ (6 * s_ + (ac_ s_)) nm_))))), (gih, .inl (cZ, 72, .inl (zF (zU ih_ (6 * s_ + (ac_ s_)) ib_)))), (grk, .inl (cI, 72, .inl (zF (zU rk_ (6 * s_ + (ac_ s_)) ((ac_ s_) - (ic_ s_))))))] H := hP
    have hD : va_D A [(gr, .inr (1, [.int (zI sc_), .ref gsn, .ref gac, .ref gic, .ref gan, .ref gih, .ref grk, .int (zI rc_), .ref grn, .ref grs, .ref gcc, .ref gec, .ref gcs, .ref gce, .ref ghg, .ref gop, .ref god, .int (zI cz_)])), (gac, .inl (cI, 12, .inl (zF (zU ac_ s_ ((ac_ s_) + 1))))), (gic, .inl (cI, 12, .inl (zF ic_))), (gan, .inl (cJ, 72, .inr (.inl (lF (zU an_ (6 * s_ + (ac_ s_)) nm_))))), (gih, .inl (cZ, 72, .inl (zF (zU ih_ (6 * s_ + (ac_ s_)) ib_)))), (grk, .inl (cI, 72, .inl (zF (zU rk_ (6 * s_ + (ac_ s_)) ((ac_ s_) - (ic_ s_))))))] := hD
    refine lv_aload_n hx hb dX1_addAttribute_81 rfl (lv_at hl 2 rfl) ?_
    refine va_get (D := (dC, dI)) (ci := 1) (v := .ref gic) (C := RX1) (T := TX1) (N := 18) hx hb hg inG_X1 hown hK hP 0 rfl rfl 3 (by decide) (hg (.fieldLink RX1 23 "AttributeDesk$Grammar" "inheritedCounts" "[I") gw_1_35) (fun _ h9 => h9) rfl dX1_addAttribute_82 ?_
    refine lv_iload_n hx hb dX1_addAttribute_85 rfl (lv_at hl 3 rfl) ?_
    refine lv_dup2_11 hx hb dX1_addAttribute_86 rfl rfl ?_
    refine zv_iald (D := (dC, dI)) hx hb hK hP 2 0 rfl rfl (by omega) (Nat.le_of_ble_eq_true rfl) dX1_addAttribute_87 ?_
    refine lv_iload hx hb dX1_addAttribute_88 (lv_at hl 5 rfl) ?_
    refine zv_if_eq (tgt := 97) hx hb dX1_addAttribute_90 (by decide) (by omega) (fun c3 => ?_) (fun c3 => (by omega : False).elim)
    refine lv_iconst (v := zI 0) hx hb dX1_addAttribute_97 rfl ?_
    refine zv_iadd (r := (ic_ s_)) hx hb dX1_addAttribute_98 (by omega) ?_
    refine zv_iast (D := (dC, dI)) hx hb hK hP hD hS 2 0 rfl rfl (by omega) (Nat.le_of_ble_eq_true rfl) dX1_addAttribute_99 (fun H locs hP hD hS => ?_)
    have hP : va_P (dC, dI) vwCl [(gr, .inr (1, [.int (zI sc_), .ref gsn, .ref gac, .ref gic, .ref gan, .ref gih, .ref grk, .int (zI rc_), .ref grn, .ref grs, .ref gcc, .ref gec, .ref gcs, .ref gce, .ref ghg, .ref gop, .ref god, .int (zI cz_)])), (gac, .inl (cI, 12, .inl (zF (zU ac_ s_ ((ac_ s_) + 1))))), (gic, .inl (cI, 12, .inl (zF (zU ic_ s_ (ic_ s_))))), (gan, .inl (cJ, 72, .inr (.inl (lF (zU an_ (6 * s_ + (ac_ s_)) nm_))))), (gih, .inl (cZ, 72, .inl (zF (zU ih_ (6 * s_ + (ac_ s_)) ib_)))), (grk, .inl (cI, 72, .inl (zF (zU rk_ (6 * s_ + (ac_ s_)) ((ac_ s_) - (ic_ s_))))))] H := hP
    have hD : va_D A [(gr, .inr (1, [.int (zI sc_), .ref gsn, .ref gac, .ref gic, .ref gan, .ref gih, .ref grk, .int (zI rc_), .ref grn, .ref grs, .ref gcc, .ref gec, .ref gcs, .ref gce, .ref ghg, .ref gop, .ref god, .int (zI cz_)])), (gac, .inl (cI, 12, .inl (zF (zU ac_ s_ ((ac_ s_) + 1))))), (gic, .inl (cI, 12, .inl (zF (zU ic_ s_ (ic_ s_))))), (gan, .inl (cJ, 72, .inr (.inl (lF (zU an_ (6 * s_ + (ac_ s_)) nm_))))), (gih, .inl (cZ, 72, .inl (zF (zU ih_ (6 * s_ + (ac_ s_)) ib_)))), (grk, .inl (cI, 72, .inl (zF (zU rk_ (6 * s_ + (ac_ s_)) ((ac_ s_) - (ic_ s_))))))] := hD
    have hP9 := hP.sub (ws' := [(gr, .inr (1, [.int (zI sc_), .ref gsn, .ref gac, .ref gic, .ref gan, .ref gih, .ref grk, .int (zI rc_), .ref grn, .ref grs, .ref gcc, .ref gec, .ref gcs, .ref gce, .ref ghg, .ref gop, .ref god, .int (zI cz_)])), (gac, .inl (cI, 12, .inl (zF (zU ac_ s_ ((ac_ s_) + 1))))), (gic, .inl (cI, 12, .inl (zF (zU ic_ s_ (ic_ s_))))), (gan, .inl (cJ, 72, .inr (.inl (lF (zU an_ (6 * s_ + (ac_ s_)) nm_))))), (gih, .inl (cZ, 72, .inl (zF (zU ih_ (6 * s_ + (ac_ s_)) ib_)))), (grk, .inl (cI, 72, .inl (zF (zU rk_ (6 * s_ + (ac_ s_)) ((ac_ s_) - (ic_ s_))))))]) [0, 1, 2, 3, 4, 5] rfl
    have hD9 := hD.sub (ws' := [(gr, .inr (1, [.int (zI sc_), .ref gsn, .ref gac, .ref gic, .ref gan, .ref gih, .ref grk, .int (zI rc_), .ref grn, .ref grs, .ref gcc, .ref gec, .ref gcs, .ref gce, .ref ghg, .ref gop, .ref god, .int (zI cz_)])), (gac, .inl (cI, 12, .inl (zF (zU ac_ s_ ((ac_ s_) + 1))))), (gic, .inl (cI, 12, .inl (zF (zU ic_ s_ (ic_ s_))))), (gan, .inl (cJ, 72, .inr (.inl (lF (zU an_ (6 * s_ + (ac_ s_)) nm_))))), (gih, .inl (cZ, 72, .inl (zF (zU ih_ (6 * s_ + (ac_ s_)) ib_)))), (grk, .inl (cI, 72, .inl (zF (zU rk_ (6 * s_ + (ac_ s_)) ((ac_ s_) - (ic_ s_))))))]) [0, 1, 2, 3, 4, 5] (by decide) rfl
    have hK9 := hK.sub (tys' := [(cI, .int), (cJ, .long), (cZ, .boolean)]) [0, 1, 2] rfl
    exact W.vret hx hb hr (fun t ht hW => ⟨⟨(), rfl, trivial, (zU rk_ (6 * s_ + (ac_ s_)) ((ac_ s_) - (ic_ s_))), (zU ic_ s_ (ic_ s_)), (by rw [if_neg (by omega)]), (by rw [show ib_ = 0 by omega]; rw [Int.add_zero]), by rw [ht]; exact hP9, va_K.moved hW.alike hK9, hD9⟩, hS.F ht⟩) hS.2.2 dX1_addAttribute_100
  · refine lv_aload_n hx hb dX1_addAttribute_52 rfl (lv_at hl 2 rfl) ?_
    refine va_get (D := (dC, dI)) (ci := 1) (v := .ref gic) (C := RX1) (T := TX1) (N := 18) hx hb hg inG_X1 hown hK hP 0 rfl rfl 3 (by decide) (hg (.fieldLink RX1 23 "AttributeDesk$Grammar" "inheritedCounts" "[I") gw_1_35) (fun _ h9 => h9) rfl dX1_addAttribute_53 ?_
    refine lv_iload_n hx hb dX1_addAttribute_56 rfl (lv_at hl 3 rfl) ?_
    refine zv_iald (D := (dC, dI)) hx hb hK hP 2 0 rfl rfl (by omega) (Nat.le_of_ble_eq_true rfl) dX1_addAttribute_57 ?_
    refine lv_goto (tgt := 70) hx hb dX1_addAttribute_58 (by decide) ?_
    refine zv_iast (D := (dC, dI)) hx hb hK hP hD hS 5 0 rfl rfl (by omega) (Nat.le_of_ble_eq_true rfl) dX1_addAttribute_70 (fun H locs hP hD hS => ?_)
    have hP : va_P (dC, dI) vwCl [(gr, .inr (1, [.int (zI sc_), .ref gsn, .ref gac, .ref gic, .ref gan, .ref gih, .ref grk, .int (zI rc_), .ref grn, .ref grs, .ref gcc, .ref gec, .ref gcs, .ref gce, .ref ghg, .ref gop, .ref god, .int (zI cz_)])), (gac, .inl (cI, 12, .inl (zF ac_))), (gic, .inl (cI, 12, .inl (zF ic_))), (gan, .inl (cJ, 72, .inr (.inl (lF (zU an_ (6 * s_ + (ac_ s_)) nm_))))), (gih, .inl (cZ, 72, .inl (zF (zU ih_ (6 * s_ + (ac_ s_)) ib_)))), (grk, .inl (cI, 72, .inl (zF (zU rk_ (6 * s_ + (ac_ s_)) (ic_ s_)))))] H := hP
    have hD : va_D A [(gr, .inr (1, [.int (zI sc_), .ref gsn, .ref gac, .ref gic, .ref gan, .ref gih, .ref grk, .int (zI rc_), .ref grn, .ref grs, .ref gcc, .ref gec, .ref gcs, .ref gce, .ref ghg, .ref gop, .ref god, .int (zI cz_)])), (gac, .inl (cI, 12, .inl (zF ac_))), (gic, .inl (cI, 12, .inl (zF ic_))), (gan, .inl (cJ, 72, .inr (.inl (lF (zU an_ (6 * s_ + (ac_ s_)) nm_))))), (gih, .inl (cZ, 72, .inl (zF (zU ih_ (6 * s_ + (ac_ s_)) ib_)))), (grk, .inl (cI, 72, .inl (zF (zU rk_ (6 * s_ + (ac_ s_)) (ic_ s_)))))] := hD
    refine lv_aload_n hx hb dX1_addAttribute_71 rfl (lv_at hl 2 rfl) ?_
    refine va_get (D := (dC, dI)) (ci := 1) (v := .ref gac) (C := RX1) (T := TX1) (N := 18) hx hb hg inG_X1 hown hK hP 0 rfl rfl 2 (by decide) (hg (.fieldLink RX1 19 "AttributeDesk$Grammar" "attributeCounts" "[I") gw_1_31) (fun _ h9 => h9) rfl dX1_addAttribute_72 ?_
    refine lv_iload_n hx hb dX1_addAttribute_75 rfl (lv_at hl 3 rfl) ?_
    refine lv_iload hx hb dX1_addAttribute_76 (lv_at hl 1 rfl) ?_
    refine lv_iconst (v := zI 1) hx hb dX1_addAttribute_78 rfl ?_
    refine zv_iadd (r := (ac_ s_) + 1) hx hb dX1_addAttribute_79 (by omega) ?_
    refine zv_iast (D := (dC, dI)) hx hb hK hP hD hS 1 0 rfl rfl (by omega) (Nat.le_of_ble_eq_true rfl) dX1_addAttribute_80 (fun H locs hP hD hS => ?_)
    have hP : va_P (dC, dI) vwCl [(gr, .inr (1, [.int (zI sc_), .ref gsn, .ref gac, .ref gic, .ref gan, .ref gih, .ref grk, .int (zI rc_), .ref grn, .ref grs, .ref gcc, .ref gec, .ref gcs, .ref gce, .ref ghg, .ref gop, .ref god, .int (zI cz_)])), (gac, .inl (cI, 12, .inl (zF (zU ac_ s_ ((ac_ s_) + 1))))), (gic, .inl (cI, 12, .inl (zF ic_))), (gan, .inl (cJ, 72, .inr (.inl (lF (zU an_ (6 * s_ + (ac_ s_)) nm_))))), (gih, .inl (cZ, 72, .inl (zF (zU ih_ (6 * s_ + (ac_ s_)) ib_)))), (grk, .inl (cI, 72, .inl (zF (zU rk_ (6 * s_ + (ac_ s_)) (ic_ s_)))))] H := hP
    have hD : va_D A [(gr, .inr (1, [.int (zI sc_), .ref gsn, .ref gac, .ref gic, .ref gan, .ref gih, .ref grk, .int (zI rc_), .ref grn, .ref grs, .ref gcc, .ref gec, .ref gcs, .ref gce, .ref ghg, .ref gop, .ref god, .int (zI cz_)])), (gac, .inl (cI, 12, .inl (zF (zU ac_ s_ ((ac_ s_) + 1))))), (gic, .inl (cI, 12, .inl (zF ic_))), (gan, .inl (cJ, 72, .inr (.inl (lF (zU an_ (6 * s_ + (ac_ s_)) nm_))))), (gih, .inl (cZ, 72, .inl (zF (zU ih_ (6 * s_ + (ac_ s_)) ib_)))), (grk, .inl (cI, 72, .inl (zF (zU rk_ (6 * s_ + (ac_ s_)) (ic_ s_)))))] := hD
    refine lv_aload_n hx hb dX1_addAttribute_81 rfl (lv_at hl 2 rfl) ?_
    refine va_get (D := (dC, dI)) (ci := 1) (v := .ref gic) (C := RX1) (T := TX1) (N := 18) hx hb hg inG_X1 hown hK hP 0 rfl rfl 3 (by decide) (hg (.fieldLink RX1 23 "AttributeDesk$Grammar" "inheritedCounts" "[I") gw_1_35) (fun _ h9 => h9) rfl dX1_addAttribute_82 ?_
    refine lv_iload_n hx hb dX1_addAttribute_85 rfl (lv_at hl 3 rfl) ?_
    refine lv_dup2_11 hx hb dX1_addAttribute_86 rfl rfl ?_
    refine zv_iald (D := (dC, dI)) hx hb hK hP 2 0 rfl rfl (by omega) (Nat.le_of_ble_eq_true rfl) dX1_addAttribute_87 ?_
    refine lv_iload hx hb dX1_addAttribute_88 (lv_at hl 5 rfl) ?_
    refine zv_if_eq (tgt := 97) hx hb dX1_addAttribute_90 (by decide) (by omega) (fun c4 => (by omega : False).elim) (fun c4 => ?_)
    refine lv_iconst (v := zI 1) hx hb dX1_addAttribute_93 rfl ?_
    refine lv_goto (tgt := 98) hx hb dX1_addAttribute_94 (by decide) ?_
    refine zv_iadd (r := (ic_ s_) + 1) hx hb dX1_addAttribute_98 (by omega) ?_
    refine zv_iast (D := (dC, dI)) hx hb hK hP hD hS 2 0 rfl rfl (by omega) (Nat.le_of_ble_eq_true rfl) dX1_addAttribute_99 (fun H locs hP hD hS => ?_)
    have hP : va_P (dC, dI) vwCl [(gr, .inr (1, [.int (zI sc_), .ref gsn, .ref gac, .ref gic, .ref gan, .ref gih, .ref grk, .int (zI rc_), .ref grn, .ref grs, .ref gcc, .ref gec, .ref gcs, .ref gce, .ref ghg, .ref gop, .ref god, .int (zI cz_)])), (gac, .inl (cI, 12, .inl (zF (zU ac_ s_ ((ac_ s_) + 1))))), (gic, .inl (cI, 12, .inl (zF (zU ic_ s_ ((ic_ s_) + 1))))), (gan, .inl (cJ, 72, .inr (.inl (lF (zU an_ (6 * s_ + (ac_ s_)) nm_))))), (gih, .inl (cZ, 72, .inl (zF (zU ih_ (6 * s_ + (ac_ s_)) ib_)))), (grk, .inl (cI, 72, .inl (zF (zU rk_ (6 * s_ + (ac_ s_)) (ic_ s_)))))] H := hP
    have hD : va_D A [(gr, .inr (1, [.int (zI sc_), .ref gsn, .ref gac, .ref gic, .ref gan, .ref gih, .ref grk, .int (zI rc_), .ref grn, .ref grs, .ref gcc, .ref gec, .ref gcs, .ref gce, .ref ghg, .ref gop, .ref god, .int (zI cz_)])), (gac, .inl (cI, 12, .inl (zF (zU ac_ s_ ((ac_ s_) + 1))))), (gic, .inl (cI, 12, .inl (zF (zU ic_ s_ ((ic_ s_) + 1))))), (gan, .inl (cJ, 72, .inr (.inl (lF (zU an_ (6 * s_ + (ac_ s_)) nm_))))), (gih, .inl (cZ, 72, .inl (zF (zU ih_ (6 * s_ + (ac_ s_)) ib_)))), (grk, .inl (cI, 72, .inl (zF (zU rk_ (6 * s_ + (ac_ s_)) (ic_ s_)))))] := hD
    have hP9 := hP.sub (ws' := [(gr, .inr (1, [.int (zI sc_), .ref gsn, .ref gac, .ref gic, .ref gan, .ref gih, .ref grk, .int (zI rc_), .ref grn, .ref grs, .ref gcc, .ref gec, .ref gcs, .ref gce, .ref ghg, .ref gop, .ref god, .int (zI cz_)])), (gac, .inl (cI, 12, .inl (zF (zU ac_ s_ ((ac_ s_) + 1))))), (gic, .inl (cI, 12, .inl (zF (zU ic_ s_ ((ic_ s_) + 1))))), (gan, .inl (cJ, 72, .inr (.inl (lF (zU an_ (6 * s_ + (ac_ s_)) nm_))))), (gih, .inl (cZ, 72, .inl (zF (zU ih_ (6 * s_ + (ac_ s_)) ib_)))), (grk, .inl (cI, 72, .inl (zF (zU rk_ (6 * s_ + (ac_ s_)) (ic_ s_)))))]) [0, 1, 2, 3, 4, 5] rfl
    have hD9 := hD.sub (ws' := [(gr, .inr (1, [.int (zI sc_), .ref gsn, .ref gac, .ref gic, .ref gan, .ref gih, .ref grk, .int (zI rc_), .ref grn, .ref grs, .ref gcc, .ref gec, .ref gcs, .ref gce, .ref ghg, .ref gop, .ref god, .int (zI cz_)])), (gac, .inl (cI, 12, .inl (zF (zU ac_ s_ ((ac_ s_) + 1))))), (gic, .inl (cI, 12, .inl (zF (zU ic_ s_ ((ic_ s_) + 1))))), (gan, .inl (cJ, 72, .inr (.inl (lF (zU an_ (6 * s_ + (ac_ s_)) nm_))))), (gih, .inl (cZ, 72, .inl (zF (zU ih_ (6 * s_ + (ac_ s_)) ib_)))), (grk, .inl (cI, 72, .inl (zF (zU rk_ (6 * s_ + (ac_ s_)) (ic_ s_)))))]) [0, 1, 2, 3, 4, 5] (by decide) rfl
    have hK9 := hK.sub (tys' := [(cI, .int), (cJ, .long), (cZ, .boolean)]) [0, 1, 2] rfl
    exact W.vret hx hb hr (fun t ht hW => ⟨⟨(), rfl, trivial, (zU rk_ (6 * s_ + (ac_ s_)) (ic_ s_)), (zU ic_ s_ ((ic_ s_) + 1)), (by rw [if_pos (by omega)]), (by rw [show ib_ = 1 by omega]), by rw [ht]; exact hP9, va_K.moved hW.alike hK9, hD9⟩, hS.F ht⟩) hS.2.2 dX1_addAttribute_100

set_option maxHeartbeats 4000000 in
set_option maxRecDepth 100000 in
theorem c_X1_addRule (l : Launch) (dC : Nat → ClassId) (dI : Nat → Nat → Nat) (gr grn gcc gec gcs gce ghg gsn gac gic gan gih grk grs gop god : Nat) (cJ cI : ClassId) (sz : Nat) (sc_ : Int) (rc_ : Int) (cz_ : Int) (rn_ : Int → Int) (cc_ : Int → Int) (ec_ : Int → Int) (cs_ : Int → Int) (ce_ : Int → Int) (hgs_ : Int → Int) (nm_ : Int) (hrc : 0 ≤ rc_ ∧ rc_ < 30) : Met l yX1_addRule wyX1_addRule ({ frames := 0, cells := 0, slots := 0, locals := 0 }) (va_Pc [.ref gr, .long (lI nm_)] (fun U => U.heap.size = sz ∧ va_P (dC, dI) vwCl [(gr, .inr (1, [.int (zI sc_), .ref gsn, .ref gac, .ref gic, .ref gan, .ref gih, .ref grk, .int (zI rc_), .ref grn, .ref grs, .ref gcc, .ref gec, .ref gcs, .ref gce, .ref ghg, .ref gop, .ref god, .int (zI cz_)])), (grn, .inl (cJ, 30, .inr (.inl (lF rn_)))), (gcc, .inl (cI, 30, .inl (zF cc_))), (gec, .inl (cI, 30, .inl (zF ec_))), (gcs, .inl (cI, 720, .inl (zF cs_))), (gce, .inl (cI, 720, .inl (zF ce_))), (ghg, .inl (cI, 720, .inl (zF hgs_)))] U.heap ∧ va_K (dC, dI) vwCl [(cJ, .long), (cI, .int)] U ∧ va_D (fun _ => True) [(gr, .inr (1, [.int (zI sc_), .ref gsn, .ref gac, .ref gic, .ref gan, .ref gih, .ref grk, .int (zI rc_), .ref grn, .ref grs, .ref gcc, .ref gec, .ref gcs, .ref gce, .ref ghg, .ref gop, .ref god, .int (zI cz_)])), (grn, .inl (cJ, 30, .inr (.inl (lF rn_)))), (gcc, .inl (cI, 30, .inl (zF cc_))), (gec, .inl (cI, 30, .inl (zF ec_))), (gcs, .inl (cI, 720, .inl (zF cs_))), (gce, .inl (cI, 720, .inl (zF ce_))), (ghg, .inl (cI, 720, .inl (zF hgs_)))])) (va_Qv (fun _ : Unit => True) (fun _ t => ∃ (cs2_ : Int → Int), ∃ (ce2_ : Int → Int), ∃ (hg2v_ : Int → Int), (cs2_ = zFill cs_ (24 * rc_) (24 * rc_ + 24) (-1)) ∧ (ce2_ = zFill ce_ (24 * rc_) (24 * rc_ + 24) (-1)) ∧ (hg2v_ = zFill hgs_ (24 * rc_) (24 * rc_ + 24) 0) ∧ va_P (dC, dI) vwCl [(gr, .inr (1, [.int (zI sc_), .ref gsn, .ref gac, .ref gic, .ref gan, .ref gih, .ref grk, .int (zI (rc_ + 1)), .ref grn, .ref grs, .ref gcc, .ref gec, .ref gcs, .ref gce, .ref ghg, .ref gop, .ref god, .int (zI cz_)])), (grn, .inl (cJ, 30, .inr (.inl (lF (zU rn_ rc_ nm_))))), (gcc, .inl (cI, 30, .inl (zF (zU cc_ rc_ 0)))), (gec, .inl (cI, 30, .inl (zF (zU ec_ rc_ 0)))), (gcs, .inl (cI, 720, .inl (zF cs2_))), (gce, .inl (cI, 720, .inl (zF ce2_))), (ghg, .inl (cI, 720, .inl (zF hg2v_)))] t.heap ∧ va_K (dC, dI) vwCl [(cJ, .long), (cI, .int)] t ∧ va_D (va_A [(gr, .inr (1, [.int (zI sc_), .ref gsn, .ref gac, .ref gic, .ref gan, .ref gih, .ref grk, .int (zI rc_), .ref grn, .ref grs, .ref gcc, .ref gec, .ref gcs, .ref gce, .ref ghg, .ref gop, .ref god, .int (zI cz_)])), (grn, .inl (cJ, 30, .inr (.inl (lF rn_)))), (gcc, .inl (cI, 30, .inl (zF cc_))), (gec, .inl (cI, 30, .inl (zF ec_))), (gcs, .inl (cI, 720, .inl (zF cs_))), (gce, .inl (cI, 720, .inl (zF ce_))), (ghg, .inl (cI, 720, .inl (zF hgs_)))] sz) [(gr, .inr (1, [.int (zI sc_), .ref gsn, .ref gac, .ref gic, .ref gan, .ref gih, .ref grk, .int (zI (rc_ + 1)), .ref grn, .ref grs, .ref gcc, .ref gec, .ref gcs, .ref gce, .ref ghg, .ref gop, .ref god, .int (zI cz_)])), (grn, .inl (cJ, 30, .inr (.inl (lF (zU rn_ rc_ nm_))))), (gcc, .inl (cI, 30, .inl (zF (zU cc_ rc_ 0)))), (gec, .inl (cI, 30, .inl (zF (zU ec_ rc_ 0)))), (gcs, .inl (cI, 720, .inl (zF cs2_))), (gce, .inl (cI, 720, .inl (zF ce2_))), (ghg, .inl (cI, 720, .inl (zF hg2v_)))]) (va_A [(gr, .inr (1, [.int (zI sc_), .ref gsn, .ref gac, .ref gic, .ref gan, .ref gih, .ref grk, .int (zI rc_), .ref grn, .ref grs, .ref gcc, .ref gec, .ref gcs, .ref gce, .ref ghg, .ref gop, .ref god, .int (zI cz_)])), (grn, .inl (cJ, 30, .inr (.inl (lF rn_)))), (gcc, .inl (cI, 30, .inl (zF cc_))), (gec, .inl (cI, 30, .inl (zF ec_))), (gcs, .inl (cI, 720, .inl (zF cs_))), (gce, .inl (cI, 720, .inl (zF ce_))), (ghg, .inl (cI, 720, .inl (zF hgs_)))] sz)) 0 0 (va_A [(gr, .inr (1, [.int (zI sc_), .ref gsn, .ref gac, .ref gic, .ref gan, .ref gih, .ref grk, .int (zI rc_), .ref grn, .ref grs, .ref gcc, .ref gec, .ref gcs, .ref gce, .ref ghg, .ref gop, .ref god, .int (zI cz_)])), (grn, .inl (cJ, 30, .inr (.inl (lF rn_)))), (gcc, .inl (cI, 30, .inl (zF cc_))), (gec, .inl (cI, 30, .inl (zF ec_))), (gcs, .inl (cI, 720, .inl (zF cs_))), (gce, .inl (cI, 720, .inl (zF ce_))), (ghg, .inl (cI, 720, .inl (zF hgs_)))] sz) := by
  refine Met.ofW (cc := cX1_addRule) (maxL := 4) (ret := none) (by decide) rfl ?_
  intro p e s m args below meth c s₁ B hml hv
  obtain ⟨rfl, hsz, hP, hK, hD0⟩ := hv
  have hx := B.exec
  have hb := B.bytes
  have hr := B.returns
  have hts := atoms_spec (ws := wyX1_addRule) B.pre
  have hg : ∀ w ∈ lw_G, w.before _ s = true := fun w h => hts w (List.mem_cons_of_mem _ h)
  have hown : s.vm.findClass RX1 = some m.cls := findClass_of_methodNamed B.named
  have hlocks := B.notSynchronized
  subst hsz
  have hD := hD0.self (sz := s.heap.size)
  generalize hAe : va_A [(gr, .inr (1, [.int (zI sc_), .ref gsn, .ref gac, .ref gic, .ref gan, .ref gih, .ref grk, .int (zI rc_), .ref grn, .ref grs, .ref gcc, .ref gec, .ref gcs, .ref gce, .ref ghg, .ref gop, .ref god, .int (zI cz_)])), (grn, .inl (cJ, 30, .inr (.inl (lF rn_)))), (gcc, .inl (cI, 30, .inl (zF cc_))), (gec, .inl (cI, 30, .inl (zF ec_))), (gcs, .inl (cI, 720, .inl (zF cs_))), (gce, .inl (cI, 720, .inl (zF ce_))), (ghg, .inl (cI, 720, .inl (zF hgs_)))] s.heap.size = A at hD ⊢
  have hA : ∀ q : Nat, s.heap.size ≤ q → A q := fun q h => by rw [← hAe]; exact Or.inr h
  have hS : va_S A s.heap s.heap [] := va_S.rf
  have hP : va_P (dC, dI) vwCl [(gr, .inr (1, [.int (zI sc_), .ref gsn, .ref gac, .ref gic, .ref gan, .ref gih, .ref grk, .int (zI rc_), .ref grn, .ref grs, .ref gcc, .ref gec, .ref gcs, .ref gce, .ref ghg, .ref gop, .ref god, .int (zI cz_)])), (grn, .inl (cJ, 30, .inr (.inl (lF rn_)))), (gcc, .inl (cI, 30, .inl (zF cc_))), (gec, .inl (cI, 30, .inl (zF ec_))), (gcs, .inl (cI, 720, .inl (zF cs_))), (gce, .inl (cI, 720, .inl (zF ce_))), (ghg, .inl (cI, 720, .inl (zF hgs_)))] s.heap := hP
  have hl := lv_entry ([.ref gr, .long (lI nm_)]) (n := 4) (Nat.le_of_ble_eq_true rfl)
  rw [lg_entry_eq]
  generalize (lg_sl ([.ref gr, .long (lI nm_)]) ++ List.replicate (4 - (lg_sl ([.ref gr, .long (lI nm_)])).length) Slot.unset).toArray = ls at hl ⊢
  have hl : lv_has ls 4 [(0, .ref gr), (1, .long (lI nm_))] := hl
  refine zv_q (fun Q hQ => ?_)
  refine lv_aload_n hx hb dX1_addRule_0 rfl (lv_at hl 0 rfl) ?_
  refine va_get (D := (dC, dI)) (ci := 1) (v := .int (zI rc_)) (C := RX1) (T := TX1) (N := 18) hx hb hg inG_X1 hown hK hP 0 rfl rfl 7 (by decide) (hg (.fieldLink RX1 36 "AttributeDesk$Grammar" "ruleCount" "I") gw_1_41) (fun _ h9 => h9) rfl dX1_addRule_1 ?_
  refine lv_bipush (v := zI 30) hx hb dX1_addRule_4 (by decide) ?_
  refine zv_icmp_ge (tgt := 97) hx hb dX1_addRule_6 (by decide) (by omega) (by decide) (fun c1 => (by omega : False).elim) (fun c1 => ?_)
  refine lv_aload_n hx hb dX1_addRule_9 rfl (lv_at hl 0 rfl) ?_
  refine va_get (D := (dC, dI)) (ci := 1) (v := .ref grn) (C := RX1) (T := TX1) (N := 18) hx hb hg inG_X1 hown hK hP 0 rfl rfl 8 (by decide) (hg (.fieldLink RX1 39 "AttributeDesk$Grammar" "ruleNames" "[J") gw_1_45) (fun _ h9 => h9) rfl dX1_addRule_10 ?_
  refine lv_aload_n hx hb dX1_addRule_13 rfl (lv_at hl 0 rfl) ?_
  refine va_get (D := (dC, dI)) (ci := 1) (v := .int (zI rc_)) (C := RX1) (T := TX1) (N := 18) hx hb hg inG_X1 hown hK hP 0 rfl rfl 7 (by decide) (hg (.fieldLink RX1 36 "AttributeDesk$Grammar" "ruleCount" "I") gw_1_41) (fun _ h9 => h9) rfl dX1_addRule_14 ?_
  refine lv_lload_n hx hb dX1_addRule_17 rfl (lv_at hl 1 rfl) ?_
  refine zv_last (D := (dC, dI)) hx hb hK hP hD hS 1 0 rfl rfl (by omega) (Nat.le_of_ble_eq_true rfl) dX1_addRule_18 (fun H locs hP hD hS => ?_)
  have hP : va_P (dC, dI) vwCl [(gr, .inr (1, [.int (zI sc_), .ref gsn, .ref gac, .ref gic, .ref gan, .ref gih, .ref grk, .int (zI rc_), .ref grn, .ref grs, .ref gcc, .ref gec, .ref gcs, .ref gce, .ref ghg, .ref gop, .ref god, .int (zI cz_)])), (grn, .inl (cJ, 30, .inr (.inl (lF (zU rn_ rc_ nm_))))), (gcc, .inl (cI, 30, .inl (zF cc_))), (gec, .inl (cI, 30, .inl (zF ec_))), (gcs, .inl (cI, 720, .inl (zF cs_))), (gce, .inl (cI, 720, .inl (zF ce_))), (ghg, .inl (cI, 720, .inl (zF hgs_)))] H := hP
  have hD : va_D A [(gr, .inr (1, [.int (zI sc_), .ref gsn, .ref gac, .ref gic, .ref gan, .ref gih, .ref grk, .int (zI rc_), .ref grn, .ref grs, .ref gcc, .ref gec, .ref gcs, .ref gce, .ref ghg, .ref gop, .ref god, .int (zI cz_)])), (grn, .inl (cJ, 30, .inr (.inl (lF (zU rn_ rc_ nm_))))), (gcc, .inl (cI, 30, .inl (zF cc_))), (gec, .inl (cI, 30, .inl (zF ec_))), (gcs, .inl (cI, 720, .inl (zF cs_))), (gce, .inl (cI, 720, .inl (zF ce_))), (ghg, .inl (cI, 720, .inl (zF hgs_)))] := hD
  refine lv_aload_n hx hb dX1_addRule_19 rfl (lv_at hl 0 rfl) ?_
  refine va_get (D := (dC, dI)) (ci := 1) (v := .ref gcc) (C := RX1) (T := TX1) (N := 18) hx hb hg inG_X1 hown hK hP 0 rfl rfl 10 (by decide) (hg (.fieldLink RX1 45 "AttributeDesk$Grammar" "childCounts" "[I") gw_1_48) (fun _ h9 => h9) rfl dX1_addRule_20 ?_
  refine lv_aload_n hx hb dX1_addRule_23 rfl (lv_at hl 0 rfl) ?_
  refine va_get (D := (dC, dI)) (ci := 1) (v := .int (zI rc_)) (C := RX1) (T := TX1) (N := 18) hx hb hg inG_X1 hown hK hP 0 rfl rfl 7 (by decide) (hg (.fieldLink RX1 36 "AttributeDesk$Grammar" "ruleCount" "I") gw_1_41) (fun _ h9 => h9) rfl dX1_addRule_24 ?_
  refine lv_iconst (v := zI 0) hx hb dX1_addRule_27 rfl ?_
  refine zv_iast (D := (dC, dI)) hx hb hK hP hD hS 2 1 rfl rfl (by omega) (Nat.le_of_ble_eq_true rfl) dX1_addRule_28 (fun H locs hP hD hS => ?_)
  have hP : va_P (dC, dI) vwCl [(gr, .inr (1, [.int (zI sc_), .ref gsn, .ref gac, .ref gic, .ref gan, .ref gih, .ref grk, .int (zI rc_), .ref grn, .ref grs, .ref gcc, .ref gec, .ref gcs, .ref gce, .ref ghg, .ref gop, .ref god, .int (zI cz_)])), (grn, .inl (cJ, 30, .inr (.inl (lF (zU rn_ rc_ nm_))))), (gcc, .inl (cI, 30, .inl (zF (zU cc_ rc_ 0)))), (gec, .inl (cI, 30, .inl (zF ec_))), (gcs, .inl (cI, 720, .inl (zF cs_))), (gce, .inl (cI, 720, .inl (zF ce_))), (ghg, .inl (cI, 720, .inl (zF hgs_)))] H := hP
  have hD : va_D A [(gr, .inr (1, [.int (zI sc_), .ref gsn, .ref gac, .ref gic, .ref gan, .ref gih, .ref grk, .int (zI rc_), .ref grn, .ref grs, .ref gcc, .ref gec, .ref gcs, .ref gce, .ref ghg, .ref gop, .ref god, .int (zI cz_)])), (grn, .inl (cJ, 30, .inr (.inl (lF (zU rn_ rc_ nm_))))), (gcc, .inl (cI, 30, .inl (zF (zU cc_ rc_ 0)))), (gec, .inl (cI, 30, .inl (zF ec_))), (gcs, .inl (cI, 720, .inl (zF cs_))), (gce, .inl (cI, 720, .inl (zF ce_))), (ghg, .inl (cI, 720, .inl (zF hgs_)))] := hD
  refine lv_aload_n hx hb dX1_addRule_29 rfl (lv_at hl 0 rfl) ?_
  refine va_get (D := (dC, dI)) (ci := 1) (v := .ref gec) (C := RX1) (T := TX1) (N := 18) hx hb hg inG_X1 hown hK hP 0 rfl rfl 11 (by decide) (hg (.fieldLink RX1 48 "AttributeDesk$Grammar" "equationCounts" "[I") gw_1_54) (fun _ h9 => h9) rfl dX1_addRule_30 ?_
  refine lv_aload_n hx hb dX1_addRule_33 rfl (lv_at hl 0 rfl) ?_
  refine va_get (D := (dC, dI)) (ci := 1) (v := .int (zI rc_)) (C := RX1) (T := TX1) (N := 18) hx hb hg inG_X1 hown hK hP 0 rfl rfl 7 (by decide) (hg (.fieldLink RX1 36 "AttributeDesk$Grammar" "ruleCount" "I") gw_1_41) (fun _ h9 => h9) rfl dX1_addRule_34 ?_
  refine lv_iconst (v := zI 0) hx hb dX1_addRule_37 rfl ?_
  refine zv_iast (D := (dC, dI)) hx hb hK hP hD hS 3 1 rfl rfl (by omega) (Nat.le_of_ble_eq_true rfl) dX1_addRule_38 (fun H locs hP hD hS => ?_)
  have hP : va_P (dC, dI) vwCl [(gr, .inr (1, [.int (zI sc_), .ref gsn, .ref gac, .ref gic, .ref gan, .ref gih, .ref grk, .int (zI rc_), .ref grn, .ref grs, .ref gcc, .ref gec, .ref gcs, .ref gce, .ref ghg, .ref gop, .ref god, .int (zI cz_)])), (grn, .inl (cJ, 30, .inr (.inl (lF (zU rn_ rc_ nm_))))), (gcc, .inl (cI, 30, .inl (zF (zU cc_ rc_ 0)))), (gec, .inl (cI, 30, .inl (zF (zU ec_ rc_ 0)))), (gcs, .inl (cI, 720, .inl (zF cs_))), (gce, .inl (cI, 720, .inl (zF ce_))), (ghg, .inl (cI, 720, .inl (zF hgs_)))] H := hP
  have hD : va_D A [(gr, .inr (1, [.int (zI sc_), .ref gsn, .ref gac, .ref gic, .ref gan, .ref gih, .ref grk, .int (zI rc_), .ref grn, .ref grs, .ref gcc, .ref gec, .ref gcs, .ref gce, .ref ghg, .ref gop, .ref god, .int (zI cz_)])), (grn, .inl (cJ, 30, .inr (.inl (lF (zU rn_ rc_ nm_))))), (gcc, .inl (cI, 30, .inl (zF (zU cc_ rc_ 0)))), (gec, .inl (cI, 30, .inl (zF (zU ec_ rc_ 0)))), (gcs, .inl (cI, 720, .inl (zF cs_))), (gce, .inl (cI, 720, .inl (zF ce_))), (ghg, .inl (cI, 720, .inl (zF hgs_)))] := hD
  refine lv_aload_n hx hb dX1_addRule_39 rfl (lv_at hl 0 rfl) ?_
  refine va_get (D := (dC, dI)) (ci := 1) (v := .int (zI rc_)) (C := RX1) (T := TX1) (N := 18) hx hb hg inG_X1 hown hK hP 0 rfl rfl 7 (by decide) (hg (.fieldLink RX1 36 "AttributeDesk$Grammar" "ruleCount" "I") gw_1_41) (fun _ h9 => h9) rfl dX1_addRule_40 ?_
  refine lv_bipush (v := zI 24) hx hb dX1_addRule_43 (by decide) ?_
  refine zv_imul (r := 24 * rc_) hx hb dX1_addRule_45 (by omega) ?_
  refine lv_istore_n (lv' := [(3, .int (zI (24 * rc_))), (0, .ref gr), (1, .long (lI nm_))]) hx hb dX1_addRule_46 rfl hl (by decide) rfl (fun ls hl => ?_)
  have lp47 : ∀ (n : Nat) (i : Int) (g1_ : Int → Int) (g2_ : Int → Int) (g3_ : Int → Int), (24 * rc_ ≤ i ∧ i ≤ 24 * rc_ + 24) → (g1_ = zFill cs_ (24 * rc_) i (-1)) → (g2_ = zFill ce_ (24 * rc_) i (-1)) → (g3_ = zFill hgs_ (24 * rc_) i 0) → 24 * rc_ + 24 - i < (n : Int) → ∀ (H : Heap) (locs : List Loc), va_P (dC, dI) vwCl [(gr, .inr (1, [.int (zI sc_), .ref gsn, .ref gac, .ref gic, .ref gan, .ref gih, .ref grk, .int (zI rc_), .ref grn, .ref grs, .ref gcc, .ref gec, .ref gcs, .ref gce, .ref ghg, .ref gop, .ref god, .int (zI cz_)])), (grn, .inl (cJ, 30, .inr (.inl (lF (zU rn_ rc_ nm_))))), (gcc, .inl (cI, 30, .inl (zF (zU cc_ rc_ 0)))), (gec, .inl (cI, 30, .inl (zF (zU ec_ rc_ 0)))), (gcs, .inl (cI, 720, .inl (zF g1_))), (gce, .inl (cI, 720, .inl (zF g2_))), (ghg, .inl (cI, 720, .inl (zF g3_)))] H → va_D A [(gr, .inr (1, [.int (zI sc_), .ref gsn, .ref gac, .ref gic, .ref gan, .ref gih, .ref grk, .int (zI rc_), .ref grn, .ref grs, .ref gcc, .ref gec, .ref gcs, .ref gce, .ref ghg, .ref gop, .ref god, .int (zI cz_)])), (grn, .inl (cJ, 30, .inr (.inl (lF (zU rn_ rc_ nm_))))), (gcc, .inl (cI, 30, .inl (zF (zU cc_ rc_ 0)))), (gec, .inl (cI, 30, .inl (zF (zU ec_ rc_ 0)))), (gcs, .inl (cI, 720, .inl (zF g1_))), (gce, .inl (cI, 720, .inl (zF g2_))), (ghg, .inl (cI, 720, .inl (zF g3_)))] → va_S A s.heap H locs → ∀ (ls : Array Slot), lv_has ls 4 [(3, .int (zI i)), (0, .ref gr)] → W p l e ({ frames := 0, cells := 0, slots := 0, locals := 0 } : Room) s m ([.ref gr, .long (lI nm_)] : List Value).toArray below meth c H locs 0 0 Q (F0 m 47 ls []) := by
    intro n
    induction n with
    | zero => intro i g1_ g2_ g3_ hi hg1_ hg2_ hg3_ hM; exact absurd hM (by omega)
    | succ n ih47 =>
      intro i g1_ g2_ g3_ hi hg1_ hg2_ hg3_ hM47 H locs hP hD hS ls hl
      refine lv_iload_n hx hb dX1_addRule_47 rfl (lv_at hl 0 rfl) ?_
      refine lv_aload_n hx hb dX1_addRule_48 rfl (lv_at hl 1 rfl) ?_
      refine va_get (D := (dC, dI)) (ci := 1) (v := .int (zI rc_)) (C := RX1) (T := TX1) (N := 18) hx hb hg inG_X1 hown hK hP 0 rfl rfl 7 (by decide) (hg (.fieldLink RX1 36 "AttributeDesk$Grammar" "ruleCount" "I") gw_1_41) (fun _ h9 => h9) rfl dX1_addRule_49 ?_
      refine lv_iconst (v := zI 1) hx hb dX1_addRule_52 rfl ?_
      refine zv_iadd (r := rc_ + 1) hx hb dX1_addRule_53 (by omega) ?_
      refine lv_bipush (v := zI 24) hx hb dX1_addRule_54 (by decide) ?_
      refine zv_imul (r := 24 * rc_ + 24) hx hb dX1_addRule_56 (by omega) ?_
      refine zv_icmp_ge (tgt := 87) hx hb dX1_addRule_57 (by decide) (by omega) (by omega) (fun c2 => ?_) (fun c2 => ?_)
      · have hi2 : i = 24 * rc_ + 24 := by omega
        rw [hi2] at hg1_
        rw [hi2] at hg2_
        rw [hi2] at hg3_
        refine lv_aload_n hx hb dX1_addRule_87 rfl (lv_at hl 1 rfl) ?_
        refine lv_dup hx hb dX1_addRule_88 rfl ?_
        refine va_get (D := (dC, dI)) (ci := 1) (v := .int (zI rc_)) (C := RX1) (T := TX1) (N := 18) hx hb hg inG_X1 hown hK hP 0 rfl rfl 7 (by decide) (hg (.fieldLink RX1 36 "AttributeDesk$Grammar" "ruleCount" "I") gw_1_41) (fun _ h9 => h9) rfl dX1_addRule_89 ?_
        refine lv_iconst (v := zI 1) hx hb dX1_addRule_92 rfl ?_
        refine zv_iadd (r := rc_ + 1) hx hb dX1_addRule_93 (by omega) ?_
        refine va_put (D := (dC, dI)) (ci := 1) (v := .int (zI (rc_ + 1))) (ty := .int) (C := RX1) (T := TX1) (N := 18) hx hb hg inG_X1 tyX1 tyX1_ok nmX1 hown hK hP hD hS 0 rfl rfl 7 (by decide) (hg (.fieldLink RX1 36 "AttributeDesk$Grammar" "ruleCount" "I") gw_1_41) (fun _ h9 => h9) rfl (by decide +kernel) rfl rfl (Nat.le_of_ble_eq_true rfl) dX1_addRule_94 (fun H locs hP hD hS => ?_)
        have hP : va_P (dC, dI) vwCl [(gr, .inr (1, [.int (zI sc_), .ref gsn, .ref gac, .ref gic, .ref gan, .ref gih, .ref grk, .int (zI (rc_ + 1)), .ref grn, .ref grs, .ref gcc, .ref gec, .ref gcs, .ref gce, .ref ghg, .ref gop, .ref god, .int (zI cz_)])), (grn, .inl (cJ, 30, .inr (.inl (lF (zU rn_ rc_ nm_))))), (gcc, .inl (cI, 30, .inl (zF (zU cc_ rc_ 0)))), (gec, .inl (cI, 30, .inl (zF (zU ec_ rc_ 0)))), (gcs, .inl (cI, 720, .inl (zF g1_))), (gce, .inl (cI, 720, .inl (zF g2_))), (ghg, .inl (cI, 720, .inl (zF g3_)))] H := hP
        have hD : va_D A [(gr, .inr (1, [.int (zI sc_), .ref gsn, .ref gac, .ref gic, .ref gan, .ref gih, .ref grk, .int (zI (rc_ + 1)), .ref grn, .ref grs, .ref gcc, .ref gec, .ref gcs, .ref gce, .ref ghg, .ref gop, .ref god, .int (zI cz_)])), (grn, .inl (cJ, 30, .inr (.inl (lF (zU rn_ rc_ nm_))))), (gcc, .inl (cI, 30, .inl (zF (zU cc_ rc_ 0)))), (gec, .inl (cI, 30, .inl (zF (zU ec_ rc_ 0)))), (gcs, .inl (cI, 720, .inl (zF g1_))), (gce, .inl (cI, 720, .inl (zF g2_))), (ghg, .inl (cI, 720, .inl (zF g3_)))] := hD
        have hP9 := hP.sub (ws' := [(gr, .inr (1, [.int (zI sc_), .ref gsn, .ref gac, .ref gic, .ref gan, .ref gih, .ref grk, .int (zI (rc_ + 1)), .ref grn, .ref grs, .ref gcc, .ref gec, .ref gcs, .ref gce, .ref ghg, .ref gop, .ref god, .int (zI cz_)])), (grn, .inl (cJ, 30, .inr (.inl (lF (zU rn_ rc_ nm_))))), (gcc, .inl (cI, 30, .inl (zF (zU cc_ rc_ 0)))), (gec, .inl (cI, 30, .inl (zF (zU ec_ rc_ 0)))), (gcs, .inl (cI, 720, .inl (zF g1_))), (gce, .inl (cI, 720, .inl (zF g2_))), (ghg, .inl (cI, 720, .inl (zF g3_)))]) [0, 1, 2, 3, 4, 5, 6] rfl
        have hD9 := hD.sub (ws' := [(gr, .inr (1, [.int (zI sc_), .ref gsn, .ref gac, .ref gic, .ref gan, .ref gih, .ref grk, .int (zI (rc_ + 1)), .ref grn, .ref grs, .ref gcc, .ref gec, .ref gcs, .ref gce, .ref ghg, .ref gop, .ref god, .int (zI cz_)])), (grn, .inl (cJ, 30, .inr (.inl (lF (zU rn_ rc_ nm_))))), (gcc, .inl (cI, 30, .inl (zF (zU cc_ rc_ 0)))), (gec, .inl (cI, 30, .inl (zF (zU ec_ rc_ 0)))), (gcs, .inl (cI, 720, .inl (zF g1_))), (gce, .inl (cI, 720, .inl (zF g2_))), (ghg, .inl (cI, 720, .inl (zF g3_)))]) [0, 1, 2, 3, 4, 5, 6] (by decide) rfl
        have hK9 := hK.sub (tys' := [(cJ, .long), (cI, .int)]) [0, 1] rfl
        subst hQ
        exact W.vret hx hb hr (fun t ht hW => ⟨⟨(), rfl, trivial, g1_, g2_, g3_, hg1_, hg2_, hg3_, by rw [ht]; exact hP9, va_K.moved hW.alike hK9, hD9⟩, hS.F ht⟩) hS.2.2 dX1_addRule_97
      · refine lv_aload_n hx hb dX1_addRule_60 rfl (lv_at hl 1 rfl) ?_
        refine va_get (D := (dC, dI)) (ci := 1) (v := .ref gcs) (C := RX1) (T := TX1) (N := 18) hx hb hg inG_X1 hown hK hP 0 rfl rfl 12 (by decide) (hg (.fieldLink RX1 51 "AttributeDesk$Grammar" "codeStarts" "[I") gw_1_57) (fun _ h9 => h9) rfl dX1_addRule_61 ?_
        refine lv_iload_n hx hb dX1_addRule_64 rfl (lv_at hl 0 rfl) ?_
        refine lv_iconst (v := zI (-1)) hx hb dX1_addRule_65 rfl ?_
        refine zv_iast (D := (dC, dI)) hx hb hK hP hD hS 4 1 rfl rfl (by omega) (Nat.le_of_ble_eq_true rfl) dX1_addRule_66 (fun H locs hP hD hS => ?_)
        have hP : va_P (dC, dI) vwCl [(gr, .inr (1, [.int (zI sc_), .ref gsn, .ref gac, .ref gic, .ref gan, .ref gih, .ref grk, .int (zI rc_), .ref grn, .ref grs, .ref gcc, .ref gec, .ref gcs, .ref gce, .ref ghg, .ref gop, .ref god, .int (zI cz_)])), (grn, .inl (cJ, 30, .inr (.inl (lF (zU rn_ rc_ nm_))))), (gcc, .inl (cI, 30, .inl (zF (zU cc_ rc_ 0)))), (gec, .inl (cI, 30, .inl (zF (zU ec_ rc_ 0)))), (gcs, .inl (cI, 720, .inl (zF (zU g1_ i (-1))))), (gce, .inl (cI, 720, .inl (zF g2_))), (ghg, .inl (cI, 720, .inl (zF g3_)))] H := hP
        have hD : va_D A [(gr, .inr (1, [.int (zI sc_), .ref gsn, .ref gac, .ref gic, .ref gan, .ref gih, .ref grk, .int (zI rc_), .ref grn, .ref grs, .ref gcc, .ref gec, .ref gcs, .ref gce, .ref ghg, .ref gop, .ref god, .int (zI cz_)])), (grn, .inl (cJ, 30, .inr (.inl (lF (zU rn_ rc_ nm_))))), (gcc, .inl (cI, 30, .inl (zF (zU cc_ rc_ 0)))), (gec, .inl (cI, 30, .inl (zF (zU ec_ rc_ 0)))), (gcs, .inl (cI, 720, .inl (zF (zU g1_ i (-1))))), (gce, .inl (cI, 720, .inl (zF g2_))), (ghg, .inl (cI, 720, .inl (zF g3_)))] := hD
        refine lv_aload_n hx hb dX1_addRule_67 rfl (lv_at hl 1 rfl) ?_
        refine va_get (D := (dC, dI)) (ci := 1) (v := .ref gce) (C := RX1) (T := TX1) (N := 18) hx hb hg inG_X1 hown hK hP 0 rfl rfl 13 (by decide) (hg (.fieldLink RX1 54 "AttributeDesk$Grammar" "codeEnds" "[I") gw_1_61) (fun _ h9 => h9) rfl dX1_addRule_68 ?_
        refine lv_iload_n hx hb dX1_addRule_71 rfl (lv_at hl 0 rfl) ?_
        refine lv_iconst (v := zI (-1)) hx hb dX1_addRule_72 rfl ?_
        refine zv_iast (D := (dC, dI)) hx hb hK hP hD hS 5 1 rfl rfl (by omega) (Nat.le_of_ble_eq_true rfl) dX1_addRule_73 (fun H locs hP hD hS => ?_)
        have hP : va_P (dC, dI) vwCl [(gr, .inr (1, [.int (zI sc_), .ref gsn, .ref gac, .ref gic, .ref gan, .ref gih, .ref grk, .int (zI rc_), .ref grn, .ref grs, .ref gcc, .ref gec, .ref gcs, .ref gce, .ref ghg, .ref gop, .ref god, .int (zI cz_)])), (grn, .inl (cJ, 30, .inr (.inl (lF (zU rn_ rc_ nm_))))), (gcc, .inl (cI, 30, .inl (zF (zU cc_ rc_ 0)))), (gec, .inl (cI, 30, .inl (zF (zU ec_ rc_ 0)))), (gcs, .inl (cI, 720, .inl (zF (zU g1_ i (-1))))), (gce, .inl (cI, 720, .inl (zF (zU g2_ i (-1))))), (ghg, .inl (cI, 720, .inl (zF g3_)))] H := hP
        have hD : va_D A [(gr, .inr (1, [.int (zI sc_), .ref gsn, .ref gac, .ref gic, .ref gan, .ref gih, .ref grk, .int (zI rc_), .ref grn, .ref grs, .ref gcc, .ref gec, .ref gcs, .ref gce, .ref ghg, .ref gop, .ref god, .int (zI cz_)])), (grn, .inl (cJ, 30, .inr (.inl (lF (zU rn_ rc_ nm_))))), (gcc, .inl (cI, 30, .inl (zF (zU cc_ rc_ 0)))), (gec, .inl (cI, 30, .inl (zF (zU ec_ rc_ 0)))), (gcs, .inl (cI, 720, .inl (zF (zU g1_ i (-1))))), (gce, .inl (cI, 720, .inl (zF (zU g2_ i (-1))))), (ghg, .inl (cI, 720, .inl (zF g3_)))] := hD
        refine lv_aload_n hx hb dX1_addRule_74 rfl (lv_at hl 1 rfl) ?_
        refine va_get (D := (dC, dI)) (ci := 1) (v := .ref ghg) (C := RX1) (T := TX1) (N := 18) hx hb hg inG_X1 hown hK hP 0 rfl rfl 14 (by decide) (hg (.fieldLink RX1 57 "AttributeDesk$Grammar" "hangs" "[I") gw_1_64) (fun _ h9 => h9) rfl dX1_addRule_75 ?_
        refine lv_iload_n hx hb dX1_addRule_78 rfl (lv_at hl 0 rfl) ?_
        refine lv_iconst (v := zI 0) hx hb dX1_addRule_79 rfl ?_
        refine zv_iast (D := (dC, dI)) hx hb hK hP hD hS 6 1 rfl rfl (by omega) (Nat.le_of_ble_eq_true rfl) dX1_addRule_80 (fun H locs hP hD hS => ?_)
        have hP : va_P (dC, dI) vwCl [(gr, .inr (1, [.int (zI sc_), .ref gsn, .ref gac, .ref gic, .ref gan, .ref gih, .ref grk, .int (zI rc_), .ref grn, .ref grs, .ref gcc, .ref gec, .ref gcs, .ref gce, .ref ghg, .ref gop, .ref god, .int (zI cz_)])), (grn, .inl (cJ, 30, .inr (.inl (lF (zU rn_ rc_ nm_))))), (gcc, .inl (cI, 30, .inl (zF (zU cc_ rc_ 0)))), (gec, .inl (cI, 30, .inl (zF (zU ec_ rc_ 0)))), (gcs, .inl (cI, 720, .inl (zF (zU g1_ i (-1))))), (gce, .inl (cI, 720, .inl (zF (zU g2_ i (-1))))), (ghg, .inl (cI, 720, .inl (zF (zU g3_ i 0))))] H := hP
        have hD : va_D A [(gr, .inr (1, [.int (zI sc_), .ref gsn, .ref gac, .ref gic, .ref gan, .ref gih, .ref grk, .int (zI rc_), .ref grn, .ref grs, .ref gcc, .ref gec, .ref gcs, .ref gce, .ref ghg, .ref gop, .ref god, .int (zI cz_)])), (grn, .inl (cJ, 30, .inr (.inl (lF (zU rn_ rc_ nm_))))), (gcc, .inl (cI, 30, .inl (zF (zU cc_ rc_ 0)))), (gec, .inl (cI, 30, .inl (zF (zU ec_ rc_ 0)))), (gcs, .inl (cI, 720, .inl (zF (zU g1_ i (-1))))), (gce, .inl (cI, 720, .inl (zF (zU g2_ i (-1))))), (ghg, .inl (cI, 720, .inl (zF (zU g3_ i 0))))] := hD
        refine lv_iinc (v := zI (i + 1)) (lv' := [(3, .int (zI (i + 1))), (0, .ref gr)]) hx hb dX1_addRule_81 hl (k := 0) rfl (zI_inc (1) (by omega)) (by decide) rfl (fun ls hl => ?_)
        refine lv_goto (tgt := 47) hx hb dX1_addRule_84 (by decide) ?_
        exact ih47 (i + 1) (zU g1_ i (-1)) (zU g2_ i (-1)) (zU g3_ i 0) (by omega) (by rw [hg1_]; exact zFill_s (by omega)) (by rw [hg2_]; exact zFill_s (by omega)) (by rw [hg3_]; exact zFill_s (by omega)) (by omega) _ _ hP hD hS _ (lv_sub hl [0, 1] rfl)
  exact lp47 ((24 * rc_ + 24 - (24 * rc_) : Int).toNat + 1) (24 * rc_) cs_ ce_ hgs_ (by omega) (zFill_0 _ _ _) (zFill_0 _ _ _) (zFill_0 _ _ _) (by omega) _ _ hP hD hS _ (lv_sub hl [0, 1] rfl)

set_option maxHeartbeats 4000000 in
set_option maxRecDepth 100000 in
theorem c_X1_addCode (l : Launch) (dC : Nat → ClassId) (dI : Nat → Nat → Nat) (gr gop god gsn gac gic gan gih grk grn grs gcc gec gcs gce ghg : Nat) (cI : ClassId) (sz : Nat) (sc_ : Int) (rc_ : Int) (cz_ : Int) (op_ : Int → Int) (od_ : Int → Int) (ov_ : Int) (dv_ : Int) (hcz : 0 ≤ cz_ ∧ cz_ ≤ 3000) : Met l yX1_addCode wyX1_addCode ({ frames := 0, cells := 0, slots := 0, locals := 0 }) (va_Pc [.ref gr, .int (zI ov_), .int (zI dv_)] (fun U => U.heap.size = sz ∧ va_P (dC, dI) vwCl [(gr, .inr (1, [.int (zI sc_), .ref gsn, .ref gac, .ref gic, .ref gan, .ref gih, .ref grk, .int (zI rc_), .ref grn, .ref grs, .ref gcc, .ref gec, .ref gcs, .ref gce, .ref ghg, .ref gop, .ref god, .int (zI cz_)])), (gop, .inl (cI, 3000, .inl (zF op_))), (god, .inl (cI, 3000, .inl (zF od_)))] U.heap ∧ va_K (dC, dI) vwCl [(cI, .int)] U ∧ va_D (fun _ => True) [(gr, .inr (1, [.int (zI sc_), .ref gsn, .ref gac, .ref gic, .ref gan, .ref gih, .ref grk, .int (zI rc_), .ref grn, .ref grs, .ref gcc, .ref gec, .ref gcs, .ref gce, .ref ghg, .ref gop, .ref god, .int (zI cz_)])), (gop, .inl (cI, 3000, .inl (zF op_))), (god, .inl (cI, 3000, .inl (zF od_)))])) (va_Qv (fun _ : Unit => True) (fun _ t => ∃ (op2_ : Int → Int), ∃ (od2_ : Int → Int), ∃ (cz2_ : Int), (op2_ = aOp op_ cz_ ov_) ∧ (od2_ = aOp od_ cz_ dv_) ∧ (cz2_ = aCz cz_) ∧ va_P (dC, dI) vwCl [(gr, .inr (1, [.int (zI sc_), .ref gsn, .ref gac, .ref gic, .ref gan, .ref gih, .ref grk, .int (zI rc_), .ref grn, .ref grs, .ref gcc, .ref gec, .ref gcs, .ref gce, .ref ghg, .ref gop, .ref god, .int (zI cz2_)])), (gop, .inl (cI, 3000, .inl (zF op2_))), (god, .inl (cI, 3000, .inl (zF od2_)))] t.heap ∧ va_K (dC, dI) vwCl [(cI, .int)] t ∧ va_D (va_A [(gr, .inr (1, [.int (zI sc_), .ref gsn, .ref gac, .ref gic, .ref gan, .ref gih, .ref grk, .int (zI rc_), .ref grn, .ref grs, .ref gcc, .ref gec, .ref gcs, .ref gce, .ref ghg, .ref gop, .ref god, .int (zI cz_)])), (gop, .inl (cI, 3000, .inl (zF op_))), (god, .inl (cI, 3000, .inl (zF od_)))] sz) [(gr, .inr (1, [.int (zI sc_), .ref gsn, .ref gac, .ref gic, .ref gan, .ref gih, .ref grk, .int (zI rc_), .ref grn, .ref grs, .ref gcc, .ref gec, .ref gcs, .ref gce, .ref ghg, .ref gop, .ref god, .int (zI cz2_)])), (gop, .inl (cI, 3000, .inl (zF op2_))), (god, .inl (cI, 3000, .inl (zF od2_)))]) (va_A [(gr, .inr (1, [.int (zI sc_), .ref gsn, .ref gac, .ref gic, .ref gan, .ref gih, .ref grk, .int (zI rc_), .ref grn, .ref grs, .ref gcc, .ref gec, .ref gcs, .ref gce, .ref ghg, .ref gop, .ref god, .int (zI cz_)])), (gop, .inl (cI, 3000, .inl (zF op_))), (god, .inl (cI, 3000, .inl (zF od_)))] sz)) 0 0 (va_A [(gr, .inr (1, [.int (zI sc_), .ref gsn, .ref gac, .ref gic, .ref gan, .ref gih, .ref grk, .int (zI rc_), .ref grn, .ref grs, .ref gcc, .ref gec, .ref gcs, .ref gce, .ref ghg, .ref gop, .ref god, .int (zI cz_)])), (gop, .inl (cI, 3000, .inl (zF op_))), (god, .inl (cI, 3000, .inl (zF od_)))] sz) := by
  refine Met.ofW (cc := cX1_addCode) (maxL := 3) (ret := none) (by decide) rfl ?_
  intro p e s m args below meth c s₁ B hml hv
  obtain ⟨rfl, hsz, hP, hK, hD0⟩ := hv
  have hx := B.exec
  have hb := B.bytes
  have hr := B.returns
  have hts := atoms_spec (ws := wyX1_addCode) B.pre
  have hg : ∀ w ∈ lw_G, w.before _ s = true := fun w h => hts w (List.mem_cons_of_mem _ h)
  have hown : s.vm.findClass RX1 = some m.cls := findClass_of_methodNamed B.named
  have hlocks := B.notSynchronized
  subst hsz
  have hD := hD0.self (sz := s.heap.size)
  generalize hAe : va_A [(gr, .inr (1, [.int (zI sc_), .ref gsn, .ref gac, .ref gic, .ref gan, .ref gih, .ref grk, .int (zI rc_), .ref grn, .ref grs, .ref gcc, .ref gec, .ref gcs, .ref gce, .ref ghg, .ref gop, .ref god, .int (zI cz_)])), (gop, .inl (cI, 3000, .inl (zF op_))), (god, .inl (cI, 3000, .inl (zF od_)))] s.heap.size = A at hD ⊢
  have hA : ∀ q : Nat, s.heap.size ≤ q → A q := fun q h => by rw [← hAe]; exact Or.inr h
  have hS : va_S A s.heap s.heap [] := va_S.rf
  have hP : va_P (dC, dI) vwCl [(gr, .inr (1, [.int (zI sc_), .ref gsn, .ref gac, .ref gic, .ref gan, .ref gih, .ref grk, .int (zI rc_), .ref grn, .ref grs, .ref gcc, .ref gec, .ref gcs, .ref gce, .ref ghg, .ref gop, .ref god, .int (zI cz_)])), (gop, .inl (cI, 3000, .inl (zF op_))), (god, .inl (cI, 3000, .inl (zF od_)))] s.heap := hP
  have hl := lv_entry ([.ref gr, .int (zI ov_), .int (zI dv_)]) (n := 3) (Nat.le_of_ble_eq_true rfl)
  rw [lg_entry_eq]
  generalize (lg_sl ([.ref gr, .int (zI ov_), .int (zI dv_)]) ++ List.replicate (3 - (lg_sl ([.ref gr, .int (zI ov_), .int (zI dv_)])).length) Slot.unset).toArray = ls at hl ⊢
  have hl : lv_has ls 3 [(0, .ref gr), (1, .int (zI ov_)), (2, .int (zI dv_))] := hl
  refine lv_aload_n hx hb dX1_addCode_0 rfl (lv_at hl 0 rfl) ?_
  refine va_get (D := (dC, dI)) (ci := 1) (v := .int (zI cz_)) (C := RX1) (T := TX1) (N := 18) hx hb hg inG_X1 hown hK hP 0 rfl rfl 17 (by decide) (hg (.fieldLink RX1 66 "AttributeDesk$Grammar" "codeSize" "I") gw_1_71) (fun _ h9 => h9) rfl dX1_addCode_1 ?_
  refine lv_sipush (v := zI 3000) hx hb dX1_addCode_4 (by decide) ?_
  refine zv_icmp_ge (tgt := 40) hx hb dX1_addCode_7 (by decide) (by omega) (by decide) (fun c1 => ?_) (fun c1 => ?_)
  · have hP9 := hP.sub (ws' := [(gr, .inr (1, [.int (zI sc_), .ref gsn, .ref gac, .ref gic, .ref gan, .ref gih, .ref grk, .int (zI rc_), .ref grn, .ref grs, .ref gcc, .ref gec, .ref gcs, .ref gce, .ref ghg, .ref gop, .ref god, .int (zI cz_)])), (gop, .inl (cI, 3000, .inl (zF op_))), (god, .inl (cI, 3000, .inl (zF od_)))]) [0, 1, 2] rfl
    have hD9 := hD.sub (ws' := [(gr, .inr (1, [.int (zI sc_), .ref gsn, .ref gac, .ref gic, .ref gan, .ref gih, .ref grk, .int (zI rc_), .ref grn, .ref grs, .ref gcc, .ref gec, .ref gcs, .ref gce, .ref ghg, .ref gop, .ref god, .int (zI cz_)])), (gop, .inl (cI, 3000, .inl (zF op_))), (god, .inl (cI, 3000, .inl (zF od_)))]) [0, 1, 2] (by decide) rfl
    have hK9 := hK.sub (tys' := [(cI, .int)]) [0] rfl
    exact W.vret hx hb hr (fun t ht hW => ⟨⟨(), rfl, trivial, op_, od_, cz_, (by unfold aOp; rw [if_neg (by omega)]), (by unfold aOp; rw [if_neg (by omega)]), (by unfold aCz; rw [if_neg (by omega)]), by rw [ht]; exact hP9, va_K.moved hW.alike hK9, hD9⟩, hS.F ht⟩) hS.2.2 dX1_addCode_40
  · refine lv_aload_n hx hb dX1_addCode_10 rfl (lv_at hl 0 rfl) ?_
    refine va_get (D := (dC, dI)) (ci := 1) (v := .ref gop) (C := RX1) (T := TX1) (N := 18) hx hb hg inG_X1 hown hK hP 0 rfl rfl 15 (by decide) (hg (.fieldLink RX1 60 "AttributeDesk$Grammar" "operations" "[I") gw_1_67) (fun _ h9 => h9) rfl dX1_addCode_11 ?_
    refine lv_aload_n hx hb dX1_addCode_14 rfl (lv_at hl 0 rfl) ?_
    refine va_get (D := (dC, dI)) (ci := 1) (v := .int (zI cz_)) (C := RX1) (T := TX1) (N := 18) hx hb hg inG_X1 hown hK hP 0 rfl rfl 17 (by decide) (hg (.fieldLink RX1 66 "AttributeDesk$Grammar" "codeSize" "I") gw_1_71) (fun _ h9 => h9) rfl dX1_addCode_15 ?_
    refine lv_iload_n hx hb dX1_addCode_18 rfl (lv_at hl 1 rfl) ?_
    refine zv_iast (D := (dC, dI)) hx hb hK hP hD hS 1 0 rfl rfl (by omega) (Nat.le_of_ble_eq_true rfl) dX1_addCode_19 (fun H locs hP hD hS => ?_)
    have hP : va_P (dC, dI) vwCl [(gr, .inr (1, [.int (zI sc_), .ref gsn, .ref gac, .ref gic, .ref gan, .ref gih, .ref grk, .int (zI rc_), .ref grn, .ref grs, .ref gcc, .ref gec, .ref gcs, .ref gce, .ref ghg, .ref gop, .ref god, .int (zI cz_)])), (gop, .inl (cI, 3000, .inl (zF (zU op_ cz_ ov_)))), (god, .inl (cI, 3000, .inl (zF od_)))] H := hP
    have hD : va_D A [(gr, .inr (1, [.int (zI sc_), .ref gsn, .ref gac, .ref gic, .ref gan, .ref gih, .ref grk, .int (zI rc_), .ref grn, .ref grs, .ref gcc, .ref gec, .ref gcs, .ref gce, .ref ghg, .ref gop, .ref god, .int (zI cz_)])), (gop, .inl (cI, 3000, .inl (zF (zU op_ cz_ ov_)))), (god, .inl (cI, 3000, .inl (zF od_)))] := hD
    refine lv_aload_n hx hb dX1_addCode_20 rfl (lv_at hl 0 rfl) ?_
    refine va_get (D := (dC, dI)) (ci := 1) (v := .ref god) (C := RX1) (T := TX1) (N := 18) hx hb hg inG_X1 hown hK hP 0 rfl rfl 16 (by decide) (hg (.fieldLink RX1 63 "AttributeDesk$Grammar" "operands" "[I") gw_1_69) (fun _ h9 => h9) rfl dX1_addCode_21 ?_
    refine lv_aload_n hx hb dX1_addCode_24 rfl (lv_at hl 0 rfl) ?_
    refine va_get (D := (dC, dI)) (ci := 1) (v := .int (zI cz_)) (C := RX1) (T := TX1) (N := 18) hx hb hg inG_X1 hown hK hP 0 rfl rfl 17 (by decide) (hg (.fieldLink RX1 66 "AttributeDesk$Grammar" "codeSize" "I") gw_1_71) (fun _ h9 => h9) rfl dX1_addCode_25 ?_
    refine lv_iload_n hx hb dX1_addCode_28 rfl (lv_at hl 2 rfl) ?_
    refine zv_iast (D := (dC, dI)) hx hb hK hP hD hS 2 0 rfl rfl (by omega) (Nat.le_of_ble_eq_true rfl) dX1_addCode_29 (fun H locs hP hD hS => ?_)
    have hP : va_P (dC, dI) vwCl [(gr, .inr (1, [.int (zI sc_), .ref gsn, .ref gac, .ref gic, .ref gan, .ref gih, .ref grk, .int (zI rc_), .ref grn, .ref grs, .ref gcc, .ref gec, .ref gcs, .ref gce, .ref ghg, .ref gop, .ref god, .int (zI cz_)])), (gop, .inl (cI, 3000, .inl (zF (zU op_ cz_ ov_)))), (god, .inl (cI, 3000, .inl (zF (zU od_ cz_ dv_))))] H := hP
    have hD : va_D A [(gr, .inr (1, [.int (zI sc_), .ref gsn, .ref gac, .ref gic, .ref gan, .ref gih, .ref grk, .int (zI rc_), .ref grn, .ref grs, .ref gcc, .ref gec, .ref gcs, .ref gce, .ref ghg, .ref gop, .ref god, .int (zI cz_)])), (gop, .inl (cI, 3000, .inl (zF (zU op_ cz_ ov_)))), (god, .inl (cI, 3000, .inl (zF (zU od_ cz_ dv_))))] := hD
    refine lv_aload_n hx hb dX1_addCode_30 rfl (lv_at hl 0 rfl) ?_
    refine lv_dup hx hb dX1_addCode_31 rfl ?_
    refine va_get (D := (dC, dI)) (ci := 1) (v := .int (zI cz_)) (C := RX1) (T := TX1) (N := 18) hx hb hg inG_X1 hown hK hP 0 rfl rfl 17 (by decide) (hg (.fieldLink RX1 66 "AttributeDesk$Grammar" "codeSize" "I") gw_1_71) (fun _ h9 => h9) rfl dX1_addCode_32 ?_
    refine lv_iconst (v := zI 1) hx hb dX1_addCode_35 rfl ?_
    refine zv_iadd (r := cz_ + 1) hx hb dX1_addCode_36 (by omega) ?_
    refine va_put (D := (dC, dI)) (ci := 1) (v := .int (zI (cz_ + 1))) (ty := .int) (C := RX1) (T := TX1) (N := 18) hx hb hg inG_X1 tyX1 tyX1_ok nmX1 hown hK hP hD hS 0 rfl rfl 17 (by decide) (hg (.fieldLink RX1 66 "AttributeDesk$Grammar" "codeSize" "I") gw_1_71) (fun _ h9 => h9) rfl (by decide +kernel) rfl rfl (Nat.le_of_ble_eq_true rfl) dX1_addCode_37 (fun H locs hP hD hS => ?_)
    have hP : va_P (dC, dI) vwCl [(gr, .inr (1, [.int (zI sc_), .ref gsn, .ref gac, .ref gic, .ref gan, .ref gih, .ref grk, .int (zI rc_), .ref grn, .ref grs, .ref gcc, .ref gec, .ref gcs, .ref gce, .ref ghg, .ref gop, .ref god, .int (zI (cz_ + 1))])), (gop, .inl (cI, 3000, .inl (zF (zU op_ cz_ ov_)))), (god, .inl (cI, 3000, .inl (zF (zU od_ cz_ dv_))))] H := hP
    have hD : va_D A [(gr, .inr (1, [.int (zI sc_), .ref gsn, .ref gac, .ref gic, .ref gan, .ref gih, .ref grk, .int (zI rc_), .ref grn, .ref grs, .ref gcc, .ref gec, .ref gcs, .ref gce, .ref ghg, .ref gop, .ref god, .int (zI (cz_ + 1))])), (gop, .inl (cI, 3000, .inl (zF (zU op_ cz_ ov_)))), (god, .inl (cI, 3000, .inl (zF (zU od_ cz_ dv_))))] := hD
    have hP9 := hP.sub (ws' := [(gr, .inr (1, [.int (zI sc_), .ref gsn, .ref gac, .ref gic, .ref gan, .ref gih, .ref grk, .int (zI rc_), .ref grn, .ref grs, .ref gcc, .ref gec, .ref gcs, .ref gce, .ref ghg, .ref gop, .ref god, .int (zI (cz_ + 1))])), (gop, .inl (cI, 3000, .inl (zF (zU op_ cz_ ov_)))), (god, .inl (cI, 3000, .inl (zF (zU od_ cz_ dv_))))]) [0, 1, 2] rfl
    have hD9 := hD.sub (ws' := [(gr, .inr (1, [.int (zI sc_), .ref gsn, .ref gac, .ref gic, .ref gan, .ref gih, .ref grk, .int (zI rc_), .ref grn, .ref grs, .ref gcc, .ref gec, .ref gcs, .ref gce, .ref ghg, .ref gop, .ref god, .int (zI (cz_ + 1))])), (gop, .inl (cI, 3000, .inl (zF (zU op_ cz_ ov_)))), (god, .inl (cI, 3000, .inl (zF (zU od_ cz_ dv_))))]) [0, 1, 2] (by decide) rfl
    have hK9 := hK.sub (tys' := [(cI, .int)]) [0] rfl
    exact W.vret hx hb hr (fun t ht hW => ⟨⟨(), rfl, trivial, (zU op_ cz_ ov_), (zU od_ cz_ dv_), (cz_ + 1), (by unfold aOp; rw [if_pos (by omega)]), (by unfold aOp; rw [if_pos (by omega)]), (by unfold aCz; rw [if_pos (by omega)]), by rw [ht]; exact hP9, va_K.moved hW.alike hK9, hD9⟩, hS.F ht⟩) hS.2.2 dX1_addCode_40
