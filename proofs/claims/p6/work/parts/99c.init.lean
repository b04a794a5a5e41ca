set_option maxHeartbeats 4000000 in
set_option maxRecDepth 100000 in
theorem c_X1_init (l : Launch) (dC : Nat → ClassId) (dI : Nat → Nat → Nat) (h0 : Nat) (sz : Nat) : Met l yX1_init wyX1_init ({ frames := 1, cells := 15, slots := 8622, locals := 12 }) (va_Pc [.ref h0] (fun U => U.heap.size = sz ∧ va_P (dC, dI) vwCl [(h0, .inr (1, [vI0, vN, vN, vN, vN, vN, vN, vI0, vN, vN, vN, vN, vN, vN, vN, vN, vN, vI0]))] U.heap ∧ va_K (dC, dI) vwCl [] U ∧ va_D (fun _ => True) [(h0, .inr (1, [vI0, vN, vN, vN, vN, vN, vN, vI0, vN, vN, vN, vN, vN, vN, vN, vN, vN, vI0]))])) (va_Qv (fun _ : Unit => True) (fun _ t => ∃ (e0 : Nat), ∃ (e1 : Nat), ∃ (e2 : Nat), ∃ (e3 : Nat), ∃ (e4 : Nat), ∃ (e5 : Nat), ∃ (e6 : Nat), ∃ (e7 : Nat), ∃ (e8 : Nat), ∃ (e9 : Nat), ∃ (e10 : Nat), ∃ (e11 : Nat), ∃ (e12 : Nat), ∃ (e13 : Nat), ∃ (e14 : Nat), ∃ (e15 : ClassId), ∃ (e16 : ClassId), ∃ (e17 : ClassId), va_P (dC, dI) vwCl [(h0, .inr (1, [vI0, .ref e0, .ref e1, .ref e2, .ref e3, .ref e4, .ref e5, vI0, .ref e6, .ref e7, .ref e8, .ref e9, .ref e10, .ref e11, .ref e12, .ref e13, .ref e14, vI0])), rzl e0 e15 12, rz e1 e16 12, rz e2 e16 12, rzl e3 e15 72, rz e4 e17 72, rz e5 e16 72, rzl e6 e15 30, rz e7 e16 120, rz e8 e16 30, rz e9 e16 30, rz e10 e16 720, rz e11 e16 720, rz e12 e16 720, rz e13 e16 3000, rz e14 e16 3000] t.heap ∧ va_K (dC, dI) vwCl [(e15, .long), (e16, .int), (e17, .boolean)] t ∧ va_D (va_A [(h0, .inr (1, [vI0, vN, vN, vN, vN, vN, vN, vI0, vN, vN, vN, vN, vN, vN, vN, vN, vN, vI0]))] sz) [(h0, .inr (1, [vI0, .ref e0, .ref e1, .ref e2, .ref e3, .ref e4, .ref e5, vI0, .ref e6, .ref e7, .ref e8, .ref e9, .ref e10, .ref e11, .ref e12, .ref e13, .ref e14, vI0])), rzl e0 e15 12, rz e1 e16 12, rz e2 e16 12, rzl e3 e15 72, rz e4 e17 72, rz e5 e16 72, rzl e6 e15 30, rz e7 e16 120, rz e8 e16 30, rz e9 e16 30, rz e10 e16 720, rz e11 e16 720, rz e12 e16 720, rz e13 e16 3000, rz e14 e16 3000]) (va_A [(h0, .inr (1, [vI0, vN, vN, vN, vN, vN, vN, vI0, vN, vN, vN, vN, vN, vN, vN, vN, vN, vI0]))] sz)) 15 8622 (va_A [(h0, .inr (1, [vI0, vN, vN, vN, vN, vN, vN, vI0, vN, vN, vN, vN, vN, vN, vN, vN, vN, vI0]))] sz) := by
  refine Met.ofW (cc := cX1_init) (maxL := 1) (ret := none) (by decide) rfl ?_
  intro p e s m args below meth c s₁ B hml hv
  obtain ⟨rfl, hsz, hP, hK, hD0⟩ := hv
  have hx := B.exec
  have hb := B.bytes
  have hr := B.returns
  have hts := atoms_spec (ws := wyX1_init) B.pre
  have hg : ∀ w ∈ lw_G, w.before _ s = true := fun w h => hts w (List.mem_cons_of_mem _ h)
  have hown : s.vm.findClass RX1 = some m.cls := findClass_of_methodNamed B.named
  have hlocks := B.notSynchronized
  have hin : meth.name = "<init>" := (name_of_methodNamed B.named B.method).1
  subst hsz
  have hD := hD0.self (sz := s.heap.size)
  generalize hAe : va_A [(h0, .inr (1, [vI0, vN, vN, vN, vN, vN, vN, vI0, vN, vN, vN, vN, vN, vN, vN, vN, vN, vI0]))] s.heap.size = A at hD ⊢
  have hA : ∀ q : Nat, s.heap.size ≤ q → A q := fun q h => by rw [← hAe]; exact Or.inr h
  have hS : va_S A s.heap s.heap [] := va_S.rf
  have hP : va_P (dC, dI) vwCl [(h0, .inr (1, [vI0, vN, vN, vN, vN, vN, vN, vI0, vN, vN, vN, vN, vN, vN, vN, vN, vN, vI0]))] s.heap := hP
  have hl := lv_entry ([.ref h0]) (n := 1) (Nat.le_of_ble_eq_true rfl)
  rw [lg_entry_eq]
  generalize (lg_sl ([.ref h0]) ++ List.replicate (1 - (lg_sl ([.ref h0])).length) Slot.unset).toArray = ls at hl ⊢
  have hl : lv_has ls 1 [(0, .ref h0)] := hl
  refine lv_aload_n hx hb dX1_init_0 rfl (lv_at hl 0 rfl) ?_
  refine W.objInit hx hb hown (hg (.methodLink RX1 3 objectInit) gw_1_25) (hg (.instanceMethod objectInit) gw_1_18) (hg (.code objectInit ⟨#[0xb1]⟩ 1 none) gw_1_19) rfl (by rw [hml]; exact hl.1) rfl dX1_init_1 (Nat.le_of_ble_eq_true rfl) (Nat.le_of_ble_eq_true rfl) ?_
  refine W.eq (g2 := F0 m 4 ls []) rfl ?_
  refine lv_aload_n hx hb dX1_init_4 rfl (lv_at hl 0 rfl) ?_
  refine lv_iconst (v := 0) hx hb dX1_init_5 (by decide) ?_
  refine va_put (D := (dC, dI)) (ci := 1) (v := .int 0) (ty := .int) (C := RX1) (T := TX1) (N := 18) hx hb hg inG_X1 tyX1 tyX1_ok nmX1 hown hK hP hD hS 0 rfl rfl 0 (by decide) (hg (.fieldLink RX1 9 "AttributeDesk$Grammar" "symbolCount" "I") gw_1_26) (fun _ h9 => h9) rfl (by decide +kernel) rfl rfl (Nat.le_of_ble_eq_true rfl) dX1_init_6 (fun H locs hP hD hS => ?_)
  have hP : va_P (dC, dI) vwCl [(h0, .inr (1, [vI0, vN, vN, vN, vN, vN, vN, vI0, vN, vN, vN, vN, vN, vN, vN, vN, vN, vI0]))] H := hP
  have hD : va_D A [(h0, .inr (1, [vI0, vN, vN, vN, vN, vN, vN, vI0, vN, vN, vN, vN, vN, vN, vN, vN, vN, vI0]))] := hD
  refine lv_aload_n hx hb dX1_init_9 rfl (lv_at hl 0 rfl) ?_
  refine lv_bipush (v := 12) hx hb dX1_init_10 (by decide) ?_
  refine va_newa (atype := .long) (a0 := (12, .inr (.inl (fun _ => 0)))) hx hb (hg (.arrayClass .long) gw_1_111) rfl hK hP hD hS hA (fun _ => rfl) (by decide) (N' := 12) rfl (Nat.le_of_ble_eq_true rfl) (Nat.le_of_ble_eq_true rfl) (Nat.le_of_ble_eq_true rfl) dX1_init_12 (fun q12 cq12 H hK hP hD hS => ?_)
  have hK : va_K (dC, dI) vwCl [(cq12, .long)] s := hK
  have hP : va_P (dC, dI) vwCl [(h0, .inr (1, [vI0, vN, vN, vN, vN, vN, vN, vI0, vN, vN, vN, vN, vN, vN, vN, vN, vN, vI0])), rzl q12 cq12 12] H := hP
  have hD : va_D A [(h0, .inr (1, [vI0, vN, vN, vN, vN, vN, vN, vI0, vN, vN, vN, vN, vN, vN, vN, vN, vN, vI0])), rzl q12 cq12 12] := hD
  refine W.widen (k := 1) (n := 12) (Nat.le_of_ble_eq_true rfl) (Nat.le_of_ble_eq_true rfl) ?_
  refine va_putF (D := (dC, dI)) (ci := 1) (v := .ref q12) (ty := .array .long) (C := RX1) (T := TX1) (N := 18) hx hb hg inG_X1 tyX1 tyX1_ok nmX1 hown hK hP hD hS 0 rfl rfl 1 (by decide) (hg (.fieldLink RX1 15 "AttributeDesk$Grammar" "symbolNames" "[J") gw_1_30) (fun _ h9 => h9) rfl hin rfl (by decide +kernel) rfl rfl (Nat.le_of_ble_eq_true rfl) dX1_init_14 (fun H locs hP hD hS => ?_)
  have hP : va_P (dC, dI) vwCl [(h0, .inr (1, [vI0, .ref q12, vN, vN, vN, vN, vN, vI0, vN, vN, vN, vN, vN, vN, vN, vN, vN, vI0])), rzl q12 cq12 12] H := hP
  have hD : va_D A [(h0, .inr (1, [vI0, .ref q12, vN, vN, vN, vN, vN, vI0, vN, vN, vN, vN, vN, vN, vN, vN, vN, vI0])), rzl q12 cq12 12] := hD
  refine lv_aload_n hx hb dX1_init_17 rfl (lv_at hl 0 rfl) ?_
  refine lv_bipush (v := 12) hx hb dX1_init_18 (by decide) ?_
  refine va_newa (atype := .int) (a0 := (12, .inl (fun _ => 0))) hx hb (hg (.arrayClass .int) gw_1_112) rfl hK hP hD hS hA (fun _ => rfl) (by decide) (N' := 12) rfl (Nat.le_of_ble_eq_true rfl) (Nat.le_of_ble_eq_true rfl) (Nat.le_of_ble_eq_true rfl) dX1_init_20 (fun q20 cq20 H hK hP hD hS => ?_)
  have hK : va_K (dC, dI) vwCl [(cq12, .long), (cq20, .int)] s := hK
  have hP : va_P (dC, dI) vwCl [(h0, .inr (1, [vI0, .ref q12, vN, vN, vN, vN, vN, vI0, vN, vN, vN, vN, vN, vN, vN, vN, vN, vI0])), rzl q12 cq12 12, rz q20 cq20 12] H := hP
  have hD : va_D A [(h0, .inr (1, [vI0, .ref q12, vN, vN, vN, vN, vN, vI0, vN, vN, vN, vN, vN, vN, vN, vN, vN, vI0])), rzl q12 cq12 12, rz q20 cq20 12] := hD
  refine W.widen (k := 2) (n := 24) (Nat.le_of_ble_eq_true rfl) (Nat.le_of_ble_eq_true rfl) ?_
  refine va_putF (D := (dC, dI)) (ci := 1) (v := .ref q20) (ty := .array .int) (C := RX1) (T := TX1) (N := 18) hx hb hg inG_X1 tyX1 tyX1_ok nmX1 hown hK hP hD hS 0 rfl rfl 2 (by decide) (hg (.fieldLink RX1 19 "AttributeDesk$Grammar" "attributeCounts" "[I") gw_1_31) (fun _ h9 => h9) rfl hin rfl (by decide +kernel) rfl rfl (Nat.le_of_ble_eq_true rfl) dX1_init_22 (fun H locs hP hD hS => ?_)
  have hP : va_P (dC, dI) vwCl [(h0, .inr (1, [vI0, .ref q12, .ref q20, vN, vN, vN, vN, vI0, vN, vN, vN, vN, vN, vN, vN, vN, vN, vI0])), rzl q12 cq12 12, rz q20 cq20 12] H := hP
  have hD : va_D A [(h0, .inr (1, [vI0, .ref q12, .ref q20, vN, vN, vN, vN, vI0, vN, vN, vN, vN, vN, vN, vN, vN, vN, vI0])), rzl q12 cq12 12, rz q20 cq20 12] := hD
  refine lv_aload_n hx hb dX1_init_25 rfl (lv_at hl 0 rfl) ?_
  refine lv_bipush (v := 12) hx hb dX1_init_26 (by decide) ?_
  refine va_newa (atype := .int) (a0 := (12, .inl (fun _ => 0))) hx hb (hg (.arrayClass .int) gw_1_112) rfl hK hP hD hS hA (fun _ => rfl) (by decide) (N' := 12) rfl (Nat.le_of_ble_eq_true rfl) (Nat.le_of_ble_eq_true rfl) (Nat.le_of_ble_eq_true rfl) dX1_init_28 (fun q28 cq28 H hK hP hD hS => ?_)
  have hK : va_K (dC, dI) vwCl [(cq12, .long), (cq20, .int), (cq28, .int)] s := hK
  have hP : va_P (dC, dI) vwCl [(h0, .inr (1, [vI0, .ref q12, .ref q20, vN, vN, vN, vN, vI0, vN, vN, vN, vN, vN, vN, vN, vN, vN, vI0])), rzl q12 cq12 12, rz q20 cq20 12, rz q28 cq28 12] H := hP
  have hD : va_D A [(h0, .inr (1, [vI0, .ref q12, .ref q20, vN, vN, vN, vN, vI0, vN, vN, vN, vN, vN, vN, vN, vN, vN, vI0])), rzl q12 cq12 12, rz q20 cq20 12, rz q28 cq28 12] := hD
  refine W.widen (k := 3) (n := 36) (Nat.le_of_ble_eq_true rfl) (Nat.le_of_ble_eq_true rfl) ?_
  obtain rfl : cq20 = cq28 := va_clsI hK (i := 1) (j := 2) rfl rfl
  have hK := hK.sub (tys' := [(cq12, .long), (cq20, .int)]) [0, 1] rfl
  refine va_putF (D := (dC, dI)) (ci := 1) (v := .ref q28) (ty := .array .int) (C := RX1) (T := TX1) (N := 18) hx hb hg inG_X1 tyX1 tyX1_ok nmX1 hown hK hP hD hS 0 rfl rfl 3 (by decide) (hg (.fieldLink RX1 23 "AttributeDesk$Grammar" "inheritedCounts" "[I") gw_1_35) (fun _ h9 => h9) rfl hin rfl (by decide +kernel) rfl rfl (Nat.le_of_ble_eq_true rfl) dX1_init_30 (fun H locs hP hD hS => ?_)
  have hP : va_P (dC, dI) vwCl [(h0, .inr (1, [vI0, .ref q12, .ref q20, .ref q28, vN, vN, vN, vI0, vN, vN, vN, vN, vN, vN, vN, vN, vN, vI0])), rzl q12 cq12 12, rz q20 cq20 12, rz q28 cq20 12] H := hP
  have hD : va_D A [(h0, .inr (1, [vI0, .ref q12, .ref q20, .ref q28, vN, vN, vN, vI0, vN, vN, vN, vN, vN, vN, vN, vN, vN, vI0])), rzl q12 cq12 12, rz q20 cq20 12, rz q28 cq20 12] := hD
  refine lv_aload_n hx hb dX1_init_33 rfl (lv_at hl 0 rfl) ?_
  refine lv_bipush (v := 72) hx hb dX1_init_34 (by decide) ?_
  refine va_newa (atype := .long) (a0 := (72, .inr (.inl (fun _ => 0)))) hx hb (hg (.arrayClass .long) gw_1_111) rfl hK hP hD hS hA (fun _ => rfl) (by decide) (N' := 72) rfl (Nat.le_of_ble_eq_true rfl) (Nat.le_of_ble_eq_true rfl) (Nat.le_of_ble_eq_true rfl) dX1_init_36 (fun q36 cq36 H hK hP hD hS => ?_)
  have hK : va_K (dC, dI) vwCl [(cq12, .long), (cq20, .int), (cq36, .long)] s := hK
  have hP : va_P (dC, dI) vwCl [(h0, .inr (1, [vI0, .ref q12, .ref q20, .ref q28, vN, vN, vN, vI0, vN, vN, vN, vN, vN, vN, vN, vN, vN, vI0])), rzl q12 cq12 12, rz q20 cq20 12, rz q28 cq20 12, rzl q36 cq36 72] H := hP
  have hD : va_D A [(h0, .inr (1, [vI0, .ref q12, .ref q20, .ref q28, vN, vN, vN, vI0, vN, vN, vN, vN, vN, vN, vN, vN, vN, vI0])), rzl q12 cq12 12, rz q20 cq20 12, rz q28 cq20 12, rzl q36 cq36 72] := hD
  refine W.widen (k := 4) (n := 108) (Nat.le_of_ble_eq_true rfl) (Nat.le_of_ble_eq_true rfl) ?_
  obtain rfl : cq12 = cq36 := va_clsJ hK (i := 0) (j := 2) rfl rfl
  have hK := hK.sub (tys' := [(cq12, .long), (cq20, .int)]) [0, 1] rfl
  refine va_putF (D := (dC, dI)) (ci := 1) (v := .ref q36) (ty := .array .long) (C := RX1) (T := TX1) (N := 18) hx hb hg inG_X1 tyX1 tyX1_ok nmX1 hown hK hP hD hS 0 rfl rfl 4 (by decide) (hg (.fieldLink RX1 26 "AttributeDesk$Grammar" "attributeNames" "[J") gw_1_38) (fun _ h9 => h9) rfl hin rfl (by decide +kernel) rfl rfl (Nat.le_of_ble_eq_true rfl) dX1_init_38 (fun H locs hP hD hS => ?_)
  have hP : va_P (dC, dI) vwCl [(h0, .inr (1, [vI0, .ref q12, .ref q20, .ref q28, .ref q36, vN, vN, vI0, vN, vN, vN, vN, vN, vN, vN, vN, vN, vI0])), rzl q12 cq12 12, rz q20 cq20 12, rz q28 cq20 12, rzl q36 cq12 72] H := hP
  have hD : va_D A [(h0, .inr (1, [vI0, .ref q12, .ref q20, .ref q28, .ref q36, vN, vN, vI0, vN, vN, vN, vN, vN, vN, vN, vN, vN, vI0])), rzl q12 cq12 12, rz q20 cq20 12, rz q28 cq20 12, rzl q36 cq12 72] := hD
  refine lv_aload_n hx hb dX1_init_41 rfl (lv_at hl 0 rfl) ?_
  refine lv_bipush (v := 72) hx hb dX1_init_42 (by decide) ?_
  refine va_newa (atype := .boolean) (a0 := (72, .inl (fun _ => 0))) hx hb (hg (.arrayClass .boolean) gw_1_113) rfl hK hP hD hS hA (fun _ => rfl) (by decide) (N' := 72) rfl (Nat.le_of_ble_eq_true rfl) (Nat.le_of_ble_eq_true rfl) (Nat.le_of_ble_eq_true rfl) dX1_init_44 (fun q44 cq44 H hK hP hD hS => ?_)
  have hK : va_K (dC, dI) vwCl [(cq12, .long), (cq20, .int), (cq44, .boolean)] s := hK
  have hP : va_P (dC, dI) vwCl [(h0, .inr (1, [vI0, .ref q12, .ref q20, .ref q28, .ref q36, vN, vN, vI0, vN, vN, vN, vN, vN, vN, vN, vN, vN, vI0])), rzl q12 cq12 12, rz q20 cq20 12, rz q28 cq20 12, rzl q36 cq12 72, rz q44 cq44 72] H := hP
  have hD : va_D A [(h0, .inr (1, [vI0, .ref q12, .ref q20, .ref q28, .ref q36, vN, vN, vI0, vN, vN, vN, vN, vN, vN, vN, vN, vN, vI0])), rzl q12 cq12 12, rz q20 cq20 12, rz q28 cq20 12, rzl q36 cq12 72, rz q44 cq44 72] := hD
  refine W.widen (k := 5) (n := 180) (Nat.le_of_ble_eq_true rfl) (Nat.le_of_ble_eq_true rfl) ?_
  refine va_putF (D := (dC, dI)) (ci := 1) (v := .ref q44) (ty := .array .boolean) (C := RX1) (T := TX1) (N := 18) hx hb hg inG_X1 tyX1 tyX1_ok nmX1 hown hK hP hD hS 0 rfl rfl 5 (by decide) (hg (.fieldLink RX1 29 "AttributeDesk$Grammar" "inherited" "[Z") gw_1_39) (fun _ h9 => h9) rfl hin rfl (by decide +kernel) rfl rfl (Nat.le_of_ble_eq_true rfl) dX1_init_46 (fun H locs hP hD hS => ?_)
  have hP : va_P (dC, dI) vwCl [(h0, .inr (1, [vI0, .ref q12, .ref q20, .ref q28, .ref q36, .ref q44, vN, vI0, vN, vN, vN, vN, vN, vN, vN, vN, vN, vI0])), rzl q12 cq12 12, rz q20 cq20 12, rz q28 cq20 12, rzl q36 cq12 72, rz q44 cq44 72] H := hP
  have hD : va_D A [(h0, .inr (1, [vI0, .ref q12, .ref q20, .ref q28, .ref q36, .ref q44, vN, vI0, vN, vN, vN, vN, vN, vN, vN, vN, vN, vI0])), rzl q12 cq12 12, rz q20 cq20 12, rz q28 cq20 12, rzl q36 cq12 72, rz q44 cq44 72] := hD
  refine lv_aload_n hx hb dX1_init_49 rfl (lv_at hl 0 rfl) ?_
  refine lv_bipush (v := 72) hx hb dX1_init_50 (by decide) ?_
  refine va_newa (atype := .int) (a0 := (72, .inl (fun _ => 0))) hx hb (hg (.arrayClass .int) gw_1_112) rfl hK hP hD hS hA (fun _ => rfl) (by decide) (N' := 72) rfl (Nat.le_of_ble_eq_true rfl) (Nat.le_of_ble_eq_true rfl) (Nat.le_of_ble_eq_true rfl) dX1_init_52 (fun q52 cq52 H hK hP hD hS => ?_)
  have hK : va_K (dC, dI) vwCl [(cq12, .long), (cq20, .int), (cq44, .boolean), (cq52, .int)] s := hK
  have hP : va_P (dC, dI) vwCl [(h0, .inr (1, [vI0, .ref q12, .ref q20, .ref q28, .ref q36, .ref q44, vN, vI0, vN, vN, vN, vN, vN, vN, vN, vN, vN, vI0])), rzl q12 cq12 12, rz q20 cq20 12, rz q28 cq20 12, rzl q36 cq12 72, rz q44 cq44 72, rz q52 cq52 72] H := hP
  have hD : va_D A [(h0, .inr (1, [vI0, .ref q12, .ref q20, .ref q28, .ref q36, .ref q44, vN, vI0, vN, vN, vN, vN, vN, vN, vN, vN, vN, vI0])), rzl q12 cq12 12, rz q20 cq20 12, rz q28 cq20 12, rzl q36 cq12 72, rz q44 cq44 72, rz q52 cq52 72] := hD
  refine W.widen (k := 6) (n := 252) (Nat.le_of_ble_eq_true rfl) (Nat.le_of_ble_eq_true rfl) ?_
  obtain rfl : cq20 = cq52 := va_clsI hK (i := 1) (j := 3) rfl rfl
  have hK := hK.sub (tys' := [(cq12, .long), (cq20, .int), (cq44, .boolean)]) [0, 1, 2] rfl
  refine va_putF (D := (dC, dI)) (ci := 1) (v := .ref q52) (ty := .array .int) (C := RX1) (T := TX1) (N := 18) hx hb hg inG_X1 tyX1 tyX1_ok nmX1 hown hK hP hD hS 0 rfl rfl 6 (by decide) (hg (.fieldLink RX1 33 "AttributeDesk$Grammar" "ranks" "[I") gw_1_40) (fun _ h9 => h9) rfl hin rfl (by decide +kernel) rfl rfl (Nat.le_of_ble_eq_true rfl) dX1_init_54 (fun H locs hP hD hS => ?_)
  have hP : va_P (dC, dI) vwCl [(h0, .inr (1, [vI0, .ref q12, .ref q20, .ref q28, .ref q36, .ref q44, .ref q52, vI0, vN, vN, vN, vN, vN, vN, vN, vN, vN, vI0])), rzl q12 cq12 12, rz q20 cq20 12, rz q28 cq20 12, rzl q36 cq12 72, rz q44 cq44 72, rz q52 cq20 72] H := hP
  have hD : va_D A [(h0, .inr (1, [vI0, .ref q12, .ref q20, .ref q28, .ref q36, .ref q44, .ref q52, vI0, vN, vN, vN, vN, vN, vN, vN, vN, vN, vI0])), rzl q12 cq12 12, rz q20 cq20 12, rz q28 cq20 12, rzl q36 cq12 72, rz q44 cq44 72, rz q52 cq20 72] := hD
  refine lv_aload_n hx hb dX1_init_57 rfl (lv_at hl 0 rfl) ?_
  refine lv_iconst (v := 0) hx hb dX1_init_58 (by decide) ?_
  refine va_put (D := (dC, dI)) (ci := 1) (v := .int 0) (ty := .int) (C := RX1) (T := TX1) (N := 18) hx hb hg inG_X1 tyX1 tyX1_ok nmX1 hown hK hP hD hS 0 rfl rfl 7 (by decide) (hg (.fieldLink RX1 36 "AttributeDesk$Grammar" "ruleCount" "I") gw_1_41) (fun _ h9 => h9) rfl (by decide +kernel) rfl rfl (Nat.le_of_ble_eq_true rfl) dX1_init_59 (fun H locs hP hD hS => ?_)
  have hP : va_P (dC, dI) vwCl [(h0, .inr (1, [vI0, .ref q12, .ref q20, .ref q28, .ref q36, .ref q44, .ref q52, vI0, vN, vN, vN, vN, vN, vN, vN, vN, vN, vI0])), rzl q12 cq12 12, rz q20 cq20 12, rz q28 cq20 12, rzl q36 cq12 72, rz q44 cq44 72, rz q52 cq20 72] H := hP
  have hD : va_D A [(h0, .inr (1, [vI0, .ref q12, .ref q20, .ref q28, .ref q36, .ref q44, .ref q52, vI0, vN, vN, vN, vN, vN, vN, vN, vN, vN, vI0])), rzl q12 cq12 12, rz q20 cq20 12, rz q28 cq20 12, rzl q36 cq12 72, rz q44 cq44 72, rz q52 cq20 72] := hD
  refine lv_aload_n hx hb dX1_init_62 rfl (lv_at hl 0 rfl) ?_
  refine lv_bipush (v := 30) hx hb dX1_init_63 (by decide) ?_
  refine va_newa (atype := .long) (a0 := (30, .inr (.inl (fun _ => 0)))) hx hb (hg (.arrayClass .long) gw_1_111) rfl hK hP hD hS hA (fun _ => rfl) (by decide) (N' := 30) rfl (Nat.le_of_ble_eq_true rfl) (Nat.le_of_ble_eq_true rfl) (Nat.le_of_ble_eq_true rfl) dX1_init_65 (fun q65 cq65 H hK hP hD hS => ?_)
  have hK : va_K (dC, dI) vwCl [(cq12, .long), (cq20, .int), (cq44, .boolean), (cq65, .long)] s := hK
  have hP : va_P (dC, dI) vwCl [(h0, .inr (1, [vI0, .ref q12, .ref q20, .ref q28, .ref q36, .ref q44, .ref q52, vI0, vN, vN, vN, vN, vN, vN, vN, vN, vN, vI0])), rzl q12 cq12 12, rz q20 cq20 12, rz q28 cq20 12, rzl q36 cq12 72, rz q44 cq44 72, rz q52 cq20 72, rzl q65 cq65 30] H := hP
  have hD : va_D A [(h0, .inr (1, [vI0, .ref q12, .ref q20, .ref q28, .ref q36, .ref q44, .ref q52, vI0, vN, vN, vN, vN, vN, vN, vN, vN, vN, vI0])), rzl q12 cq12 12, rz q20 cq20 12, rz q28 cq20 12, rzl q36 cq12 72, rz q44 cq44 72, rz q52 cq20 72, rzl q65 cq65 30] := hD
  refine W.widen (k := 7) (n := 282) (Nat.le_of_ble_eq_true rfl) (Nat.le_of_ble_eq_true rfl) ?_
  obtain rfl : cq12 = cq65 := va_clsJ hK (i := 0) (j := 3) rfl rfl
  have hK := hK.sub (tys' := [(cq12, .long), (cq20, .int), (cq44, .boolean)]) [0, 1, 2] rfl
  refine va_putF (D := (dC, dI)) (ci := 1) (v := .ref q65) (ty := .array .long) (C := RX1) (T := TX1) (N := 18) hx hb hg inG_X1 tyX1 tyX1_ok nmX1 hown hK hP hD hS 0 rfl rfl 8 (by decide) (hg (.fieldLink RX1 39 "AttributeDesk$Grammar" "ruleNames" "[J") gw_1_45) (fun _ h9 => h9) rfl hin rfl (by decide +kernel) rfl rfl (Nat.le_of_ble_eq_true rfl) dX1_init_67 (fun H locs hP hD hS => ?_)
  have hP : va_P (dC, dI) vwCl [(h0, .inr (1, [vI0, .ref q12, .ref q20, .ref q28, .ref q36, .ref q44, .ref q52, vI0, .ref q65, vN, vN, vN, vN, vN, vN, vN, vN, vI0])), rzl q12 cq12 12, rz q20 cq20 12, rz q28 cq20 12, rzl q36 cq12 72, rz q44 cq44 72, rz q52 cq20 72, rzl q65 cq12 30] H := hP
  have hD : va_D A [(h0, .inr (1, [vI0, .ref q12, .ref q20, .ref q28, .ref q36, .ref q44, .ref q52, vI0, .ref q65, vN, vN, vN, vN, vN, vN, vN, vN, vI0])), rzl q12 cq12 12, rz q20 cq20 12, rz q28 cq20 12, rzl q36 cq12 72, rz q44 cq44 72, rz q52 cq20 72, rzl q65 cq12 30] := hD
  refine lv_aload_n hx hb dX1_init_70 rfl (lv_at hl 0 rfl) ?_
  refine lv_bipush (v := 120) hx hb dX1_init_71 (by decide) ?_
  refine va_newa (atype := .int) (a0 := (120, .inl (fun _ => 0))) hx hb (hg (.arrayClass .int) gw_1_112) rfl hK hP hD hS hA (fun _ => rfl) (by decide) (N' := 120) rfl (Nat.le_of_ble_eq_true rfl) (Nat.le_of_ble_eq_true rfl) (Nat.le_of_ble_eq_true rfl) dX1_init_73 (fun q73 cq73 H hK hP hD hS => ?_)
  have hK : va_K (dC, dI) vwCl [(cq12, .long), (cq20, .int), (cq44, .boolean), (cq73, .int)] s := hK
  have hP : va_P (dC, dI) vwCl [(h0, .inr (1, [vI0, .ref q12, .ref q20, .ref q28, .ref q36, .ref q44, .ref q52, vI0, .ref q65, vN, vN, vN, vN, vN, vN, vN, vN, vI0])), rzl q12 cq12 12, rz q20 cq20 12, rz q28 cq20 12, rzl q36 cq12 72, rz q44 cq44 72, rz q52 cq20 72, rzl q65 cq12 30, rz q73 cq73 120] H := hP
  have hD : va_D A [(h0, .inr (1, [vI0, .ref q12, .ref q20, .ref q28, .ref q36, .ref q44, .ref q52, vI0, .ref q65, vN, vN, vN, vN, vN, vN, vN, vN, vI0])), rzl q12 cq12 12, rz q20 cq20 12, rz q28 cq20 12, rzl q36 cq12 72, rz q44 cq44 72, rz q52 cq20 72, rzl q65 cq12 30, rz q73 cq73 120] := hD
  refine W.widen (k := 8) (n := 402) (Nat.le_of_ble_eq_true rfl) (Nat.le_of_ble_eq_true rfl) ?_
  obtain rfl : cq20 = cq73 := va_clsI hK (i := 1) (j := 3) rfl rfl
  have hK := hK.sub (tys' := [(cq12, .long), (cq20, .int), (cq44, .boolean)]) [0, 1, 2] rfl
  refine va_putF (D := (dC, dI)) (ci := 1) (v := .ref q73) (ty := .array .int) (C := RX1) (T := TX1) (N := 18) hx hb hg inG_X1 tyX1 tyX1_ok nmX1 hown hK hP hD hS 0 rfl rfl 9 (by decide) (hg (.fieldLink RX1 42 "AttributeDesk$Grammar" "ruleSymbols" "[I") gw_1_46) (fun _ h9 => h9) rfl hin rfl (by decide +kernel) rfl rfl (Nat.le_of_ble_eq_true rfl) dX1_init_75 (fun H locs hP hD hS => ?_)
  have hP : va_P (dC, dI) vwCl [(h0, .inr (1, [vI0, .ref q12, .ref q20, .ref q28, .ref q36, .ref q44, .ref q52, vI0, .ref q65, .ref q73, vN, vN, vN, vN, vN, vN, vN, vI0])), rzl q12 cq12 12, rz q20 cq20 12, rz q28 cq20 12, rzl q36 cq12 72, rz q44 cq44 72, rz q52 cq20 72, rzl q65 cq12 30, rz q73 cq20 120] H := hP
  have hD : va_D A [(h0, .inr (1, [vI0, .ref q12, .ref q20, .ref q28, .ref q36, .ref q44, .ref q52, vI0, .ref q65, .ref q73, vN, vN, vN, vN, vN, vN, vN, vI0])), rzl q12 cq12 12, rz q20 cq20 12, rz q28 cq20 12, rzl q36 cq12 72, rz q44 cq44 72, rz q52 cq20 72, rzl q65 cq12 30, rz q73 cq20 120] := hD
  refine lv_aload_n hx hb dX1_init_78 rfl (lv_at hl 0 rfl) ?_
  refine lv_bipush (v := 30) hx hb dX1_init_79 (by decide) ?_
  refine va_newa (atype := .int) (a0 := (30, .inl (fun _ => 0))) hx hb (hg (.arrayClass .int) gw_1_112) rfl hK hP hD hS hA (fun _ => rfl) (by decide) (N' := 30) rfl (Nat.le_of_ble_eq_true rfl) (Nat.le_of_ble_eq_true rfl) (Nat.le_of_ble_eq_true rfl) dX1_init_81 (fun q81 cq81 H hK hP hD hS => ?_)
  have hK : va_K (dC, dI) vwCl [(cq12, .long), (cq20, .int), (cq44, .boolean), (cq81, .int)] s := hK
  have hP : va_P (dC, dI) vwCl [(h0, .inr (1, [vI0, .ref q12, .ref q20, .ref q28, .ref q36, .ref q44, .ref q52, vI0, .ref q65, .ref q73, vN, vN, vN, vN, vN, vN, vN, vI0])), rzl q12 cq12 12, rz q20 cq20 12, rz q28 cq20 12, rzl q36 cq12 72, rz q44 cq44 72, rz q52 cq20 72, rzl q65 cq12 30, rz q73 cq20 120, rz q81 cq81 30] H := hP
  have hD : va_D A [(h0, .inr (1, [vI0, .ref q12, .ref q20, .ref q28, .ref q36, .ref q44, .ref q52, vI0, .ref q65, .ref q73, vN, vN, vN, vN, vN, vN, vN, vI0])), rzl q12 cq12 12, rz q20 cq20 12, rz q28 cq20 12, rzl q36 cq12 72, rz q44 cq44 72, rz q52 cq20 72, rzl q65 cq12 30, rz q73 cq20 120, rz q81 cq81 30] := hD
  refine W.widen (k := 9) (n := 432) (Nat.le_of_ble_eq_true rfl) (Nat.le_of_ble_eq_true rfl) ?_
  obtain rfl : cq20 = cq81 := va_clsI hK (i := 1) (j := 3) rfl rfl
  have hK := hK.sub (tys' := [(cq12, .long), (cq20, .int), (cq44, .boolean)]) [0, 1, 2] rfl
  refine va_putF (D := (dC, dI)) (ci := 1) (v := .ref q81) (ty := .array .int) (C := RX1) (T := TX1) (N := 18) hx hb hg inG_X1 tyX1 tyX1_ok nmX1 hown hK hP hD hS 0 rfl rfl 10 (by decide) (hg (.fieldLink RX1 45 "AttributeDesk$Grammar" "childCounts" "[I") gw_1_48) (fun _ h9 => h9) rfl hin rfl (by decide +kernel) rfl rfl (Nat.le_of_ble_eq_true rfl) dX1_init_83 (fun H locs hP hD hS => ?_)
  have hP : va_P (dC, dI) vwCl [(h0, .inr (1, [vI0, .ref q12, .ref q20, .ref q28, .ref q36, .ref q44, .ref q52, vI0, .ref q65, .ref q73, .ref q81, vN, vN, vN, vN, vN, vN, vI0])), rzl q12 cq12 12, rz q20 cq20 12, rz q28 cq20 12, rzl q36 cq12 72, rz q44 cq44 72, rz q52 cq20 72, rzl q65 cq12 30, rz q73 cq20 120, rz q81 cq20 30] H := hP
  have hD : va_D A [(h0, .inr (1, [vI0, .ref q12, .ref q20, .ref q28, .ref q36, .ref q44, .ref q52, vI0, .ref q65, .ref q73, .ref q81, vN, vN, vN, vN, vN, vN, vI0])), rzl q12 cq12 12, rz q20 cq20 12, rz q28 cq20 12, rzl q36 cq12 72, rz q44 cq44 72, rz q52 cq20 72, rzl q65 cq12 30, rz q73 cq20 120, rz q81 cq20 30] := hD
  refine lv_aload_n hx hb dX1_init_86 rfl (lv_at hl 0 rfl) ?_
  refine lv_bipush (v := 30) hx hb dX1_init_87 (by decide) ?_
  refine va_newa (atype := .int) (a0 := (30, .inl (fun _ => 0))) hx hb (hg (.arrayClass .int) gw_1_112) rfl hK hP hD hS hA (fun _ => rfl) (by decide) (N' := 30) rfl (Nat.le_of_ble_eq_true rfl) (Nat.le_of_ble_eq_true rfl) (Nat.le_of_ble_eq_true rfl) dX1_init_89 (fun q89 cq89 H hK hP hD hS => ?_)
  have hK : va_K (dC, dI) vwCl [(cq12, .long), (cq20, .int), (cq44, .boolean), (cq89, .int)] s := hK
  have hP : va_P (dC, dI) vwCl [(h0, .inr (1, [vI0, .ref q12, .ref q20, .ref q28, .ref q36, .ref q44, .ref q52, vI0, .ref q65, .ref q73, .ref q81, vN, vN, vN, vN, vN, vN, vI0])), rzl q12 cq12 12, rz q20 cq20 12, rz q28 cq20 12, rzl q36 cq12 72, rz q44 cq44 72, rz q52 cq20 72, rzl q65 cq12 30, rz q73 cq20 120, rz q81 cq20 30, rz q89 cq89 30] H := hP
  have hD : va_D A [(h0, .inr (1, [vI0, .ref q12, .ref q20, .ref q28, .ref q36, .ref q44, .ref q52, vI0, .ref q65, .ref q73, .ref q81, vN, vN, vN, vN, vN, vN, vI0])), rzl q12 cq12 12, rz q20 cq20 12, rz q28 cq20 12, rzl q36 cq12 72, rz q44 cq44 72, rz q52 cq20 72, rzl q65 cq12 30, rz q73 cq20 120, rz q81 cq20 30, rz q89 cq89 30] := hD
  refine W.widen (k := 10) (n := 462) (Nat.le_of_ble_eq_true rfl) (Nat.le_of_ble_eq_true rfl) ?_
  obtain rfl : cq20 = cq89 := va_clsI hK (i := 1) (j := 3) rfl rfl
  have hK := hK.sub (tys' := [(cq12, .long), (cq20, .int), (cq44, .boolean)]) [0, 1, 2] rfl
  refine va_putF (D := (dC, dI)) (ci := 1) (v := .ref q89) (ty := .array .int) (C := RX1) (T := TX1) (N := 18) hx hb hg inG_X1 tyX1 tyX1_ok nmX1 hown hK hP hD hS 0 rfl rfl 11 (by decide) (hg (.fieldLink RX1 48 "AttributeDesk$Grammar" "equationCounts" "[I") gw_1_54) (fun _ h9 => h9) rfl hin rfl (by decide +kernel) rfl rfl (Nat.le_of_ble_eq_true rfl) dX1_init_91 (fun H locs hP hD hS => ?_)
  have hP : va_P (dC, dI) vwCl [(h0, .inr (1, [vI0, .ref q12, .ref q20, .ref q28, .ref q36, .ref q44, .ref q52, vI0, .ref q65, .ref q73, .ref q81, .ref q89, vN, vN, vN, vN, vN, vI0])), rzl q12 cq12 12, rz q20 cq20 12, rz q28 cq20 12, rzl q36 cq12 72, rz q44 cq44 72, rz q52 cq20 72, rzl q65 cq12 30, rz q73 cq20 120, rz q81 cq20 30, rz q89 cq20 30] H := hP
  have hD : va_D A [(h0, .inr (1, [vI0, .ref q12, .ref q20, .ref q28, .ref q36, .ref q44, .ref q52, vI0, .ref q65, .ref q73, .ref q81, .ref q89, vN, vN, vN, vN, vN, vI0])), rzl q12 cq12 12, rz q20 cq20 12, rz q28 cq20 12, rzl q36 cq12 72, rz q44 cq44 72, rz q52 cq20 72, rzl q65 cq12 30, rz q73 cq20 120, rz q81 cq20 30, rz q89 cq20 30] := hD
  refine lv_aload_n hx hb dX1_init_94 rfl (lv_at hl 0 rfl) ?_
  refine lv_sipush (v := 720) hx hb dX1_init_95 (by decide) ?_
  refine va_newa (atype := .int) (a0 := (720, .inl (fun _ => 0))) hx hb (hg (.arrayClass .int) gw_1_112) rfl hK hP hD hS hA (fun _ => rfl) (by decide) (N' := 720) rfl (Nat.le_of_ble_eq_true rfl) (Nat.le_of_ble_eq_true rfl) (Nat.le_of_ble_eq_true rfl) dX1_init_98 (fun q98 cq98 H hK hP hD hS => ?_)
  have hK : va_K (dC, dI) vwCl [(cq12, .long), (cq20, .int), (cq44, .boolean), (cq98, .int)] s := hK
  have hP : va_P (dC, dI) vwCl [(h0, .inr (1, [vI0, .ref q12, .ref q20, .ref q28, .ref q36, .ref q44, .ref q52, vI0, .ref q65, .ref q73, .ref q81, .ref q89, vN, vN, vN, vN, vN, vI0])), rzl q12 cq12 12, rz q20 cq20 12, rz q28 cq20 12, rzl q36 cq12 72, rz q44 cq44 72, rz q52 cq20 72, rzl q65 cq12 30, rz q73 cq20 120, rz q81 cq20 30, rz q89 cq20 30, rz q98 cq98 720] H := hP
  have hD : va_D A [(h0, .inr (1, [vI0, .ref q12, .ref q20, .ref q28, .ref q36, .ref q44, .ref q52, vI0, .ref q65, .ref q73, .ref q81, .ref q89, vN, vN, vN, vN, vN, vI0])), rzl q12 cq12 12, rz q20 cq20 12, rz q28 cq20 12, rzl q36 cq12 72, rz q44 cq44 72, rz q52 cq20 72, rzl q65 cq12 30, rz q73 cq20 120, rz q81 cq20 30, rz q89 cq20 30, rz q98 cq98 720] := hD
  refine W.widen (k := 11) (n := 1182) (Nat.le_of_ble_eq_true rfl) (Nat.le_of_ble_eq_true rfl) ?_
  obtain rfl : cq20 = cq98 := va_clsI hK (i := 1) (j := 3) rfl rfl
  have hK := hK.sub (tys' := [(cq12, .long), (cq20, .int), (cq44, .boolean)]) [0, 1, 2] rfl
  refine va_putF (D := (dC, dI)) (ci := 1) (v := .ref q98) (ty := .array .int) (C := RX1) (T := TX1) (N := 18) hx hb hg inG_X1 tyX1 tyX1_ok nmX1 hown hK hP hD hS 0 rfl rfl 12 (by decide) (hg (.fieldLink RX1 51 "AttributeDesk$Grammar" "codeStarts" "[I") gw_1_57) (fun _ h9 => h9) rfl hin rfl (by decide +kernel) rfl rfl (Nat.le_of_ble_eq_true rfl) dX1_init_100 (fun H locs hP hD hS => ?_)
  have hP : va_P (dC, dI) vwCl [(h0, .inr (1, [vI0, .ref q12, .ref q20, .ref q28, .ref q36, .ref q44, .ref q52, vI0, .ref q65, .ref q73, .ref q81, .ref q89, .ref q98, vN, vN, vN, vN, vI0])), rzl q12 cq12 12, rz q20 cq20 12, rz q28 cq20 12, rzl q36 cq12 72, rz q44 cq44 72, rz q52 cq20 72, rzl q65 cq12 30, rz q73 cq20 120, rz q81 cq20 30, rz q89 cq20 30, rz q98 cq20 720] H := hP
  have hD : va_D A [(h0, .inr (1, [vI0, .ref q12, .ref q20, .ref q28, .ref q36, .ref q44, .ref q52, vI0, .ref q65, .ref q73, .ref q81, .ref q89, .ref q98, vN, vN, vN, vN, vI0])), rzl q12 cq12 12, rz q20 cq20 12, rz q28 cq20 12, rzl q36 cq12 72, rz q44 cq44 72, rz q52 cq20 72, rzl q65 cq12 30, rz q73 cq20 120, rz q81 cq20 30, rz q89 cq20 30, rz q98 cq20 720] := hD
  refine lv_aload_n hx hb dX1_init_103 rfl (lv_at hl 0 rfl) ?_
  refine lv_sipush (v := 720) hx hb dX1_init_104 (by decide) ?_
  refine va_newa (atype := .int) (a0 := (720, .inl (fun _ => 0))) hx hb (hg (.arrayClass .int) gw_1_112) rfl hK hP hD hS hA (fun _ => rfl) (by decide) (N' := 720) rfl (Nat.le_of_ble_eq_true rfl) (Nat.le_of_ble_eq_true rfl) (Nat.le_of_ble_eq_true rfl) dX1_init_107 (fun q107 cq107 H hK hP hD hS => ?_)
  have hK : va_K (dC, dI) vwCl [(cq12, .long), (cq20, .int), (cq44, .boolean), (cq107, .int)] s := hK
  have hP : va_P (dC, dI) vwCl [(h0, .inr (1, [vI0, .ref q12, .ref q20, .ref q28, .ref q36, .ref q44, .ref q52, vI0, .ref q65, .ref q73, .ref q81, .ref q89, .ref q98, vN, vN, vN, vN, vI0])), rzl q12 cq12 12, rz q20 cq20 12, rz q28 cq20 12, rzl q36 cq12 72, rz q44 cq44 72, rz q52 cq20 72, rzl q65 cq12 30, rz q73 cq20 120, rz q81 cq20 30, rz q89 cq20 30, rz q98 cq20 720, rz q107 cq107 720] H := hP
  have hD : va_D A [(h0, .inr (1, [vI0, .ref q12, .ref q20, .ref q28, .ref q36, .ref q44, .ref q52, vI0, .ref q65, .ref q73, .ref q81, .ref q89, .ref q98, vN, vN, vN, vN, vI0])), rzl q12 cq12 12, rz q20 cq20 12, rz q28 cq20 12, rzl q36 cq12 72, rz q44 cq44 72, rz q52 cq20 72, rzl q65 cq12 30, rz q73 cq20 120, rz q81 cq20 30, rz q89 cq20 30, rz q98 cq20 720, rz q107 cq107 720] := hD
  refine W.widen (k := 12) (n := 1902) (Nat.le_of_ble_eq_true rfl) (Nat.le_of_ble_eq_true rfl) ?_
  obtain rfl : cq20 = cq107 := va_clsI hK (i := 1) (j := 3) rfl rfl
  have hK := hK.sub (tys' := [(cq12, .long), (cq20, .int), (cq44, .boolean)]) [0, 1, 2] rfl
  refine va_putF (D := (dC, dI)) (ci := 1) (v := .ref q107) (ty := .array .int) (C := RX1) (T := TX1) (N := 18) hx hb hg inG_X1 tyX1 tyX1_ok nmX1 hown hK hP hD hS 0 rfl rfl 13 (by decide) (hg (.fieldLink RX1 54 "AttributeDesk$Grammar" "codeEnds" "[I") gw_1_61) (fun _ h9 => h9) rfl hin rfl (by decide +kernel) rfl rfl (Nat.le_of_ble_eq_true rfl) dX1_init_109 (fun H locs hP hD hS => ?_)
  have hP : va_P (dC, dI) vwCl [(h0, .inr (1, [vI0, .ref q12, .ref q20, .ref q28, .ref q36, .ref q44, .ref q52, vI0, .ref q65, .ref q73, .ref q81, .ref q89, .ref q98, .ref q107, vN, vN, vN, vI0])), rzl q12 cq12 12, rz q20 cq20 12, rz q28 cq20 12, rzl q36 cq12 72, rz q44 cq44 72, rz q52 cq20 72, rzl q65 cq12 30, rz q73 cq20 120, rz q81 cq20 30, rz q89 cq20 30, rz q98 cq20 720, rz q107 cq20 720] H := hP
  have hD : va_D A [(h0, .inr (1, [vI0, .ref q12, .ref q20, .ref q28, .ref q36, .ref q44, .ref q52, vI0, .ref q65, .ref q73, .ref q81, .ref q89, .ref q98, .ref q107, vN, vN, vN, vI0])), rzl q12 cq12 12, rz q20 cq20 12, rz q28 cq20 12, rzl q36 cq12 72, rz q44 cq44 72, rz q52 cq20 72, rzl q65 cq12 30, rz q73 cq20 120, rz q81 cq20 30, rz q89 cq20 30, rz q98 cq20 720, rz q107 cq20 720] := hD
  refine lv_aload_n hx hb dX1_init_112 rfl (lv_at hl 0 rfl) ?_
  refine lv_sipush (v := 720) hx hb dX1_init_113 (by decide) ?_
  refine va_newa (atype := .int) (a0 := (720, .inl (fun _ => 0))) hx hb (hg (.arrayClass .int) gw_1_112) rfl hK hP hD hS hA (fun _ => rfl) (by decide) (N' := 720) rfl (Nat.le_of_ble_eq_true rfl) (Nat.le_of_ble_eq_true rfl) (Nat.le_of_ble_eq_true rfl) dX1_init_116 (fun q116 cq116 H hK hP hD hS => ?_)
  have hK : va_K (dC, dI) vwCl [(cq12, .long), (cq20, .int), (cq44, .boolean), (cq116, .int)] s := hK
  have hP : va_P (dC, dI) vwCl [(h0, .inr (1, [vI0, .ref q12, .ref q20, .ref q28, .ref q36, .ref q44, .ref q52, vI0, .ref q65, .ref q73, .ref q81, .ref q89, .ref q98, .ref q107, vN, vN, vN, vI0])), rzl q12 cq12 12, rz q20 cq20 12, rz q28 cq20 12, rzl q36 cq12 72, rz q44 cq44 72, rz q52 cq20 72, rzl q65 cq12 30, rz q73 cq20 120, rz q81 cq20 30, rz q89 cq20 30, rz q98 cq20 720, rz q107 cq20 720, rz q116 cq116 720] H := hP
  have hD : va_D A [(h0, .inr (1, [vI0, .ref q12, .ref q20, .ref q28, .ref q36, .ref q44, .ref q52, vI0, .ref q65, .ref q73, .ref q81, .ref q89, .ref q98, .ref q107, vN, vN, vN, vI0])), rzl q12 cq12 12, rz q20 cq20 12, rz q28 cq20 12, rzl q36 cq12 72, rz q44 cq44 72, rz q52 cq20 72, rzl q65 cq12 30, rz q73 cq20 120, rz q81 cq20 30, rz q89 cq20 30, rz q98 cq20 720, rz q107 cq20 720, rz q116 cq116 720] := hD
  refine W.widen (k := 13) (n := 2622) (Nat.le_of_ble_eq_true rfl) (Nat.le_of_ble_eq_true rfl) ?_
  obtain rfl : cq20 = cq116 := va_clsI hK (i := 1) (j := 3) rfl rfl
  have hK := hK.sub (tys' := [(cq12, .long), (cq20, .int), (cq44, .boolean)]) [0, 1, 2] rfl
  refine va_putF (D := (dC, dI)) (ci := 1) (v := .ref q116) (ty := .array .int) (C := RX1) (T := TX1) (N := 18) hx hb hg inG_X1 tyX1 tyX1_ok nmX1 hown hK hP hD hS 0 rfl rfl 14 (by decide) (hg (.fieldLink RX1 57 "AttributeDesk$Grammar" "hangs" "[I") gw_1_64) (fun _ h9 => h9) rfl hin rfl (by decide +kernel) rfl rfl (Nat.le_of_ble_eq_true rfl) dX1_init_118 (fun H locs hP hD hS => ?_)
  have hP : va_P (dC, dI) vwCl [(h0, .inr (1, [vI0, .ref q12, .ref q20, .ref q28, .ref q36, .ref q44, .ref q52, vI0, .ref q65, .ref q73, .ref q81, .ref q89, .ref q98, .ref q107, .ref q116, vN, vN, vI0])), rzl q12 cq12 12, rz q20 cq20 12, rz q28 cq20 12, rzl q36 cq12 72, rz q44 cq44 72, rz q52 cq20 72, rzl q65 cq12 30, rz q73 cq20 120, rz q81 cq20 30, rz q89 cq20 30, rz q98 cq20 720, rz q107 cq20 720, rz q116 cq20 720] H := hP
  have hD : va_D A [(h0, .inr (1, [vI0, .ref q12, .ref q20, .ref q28, .ref q36, .ref q44, .ref q52, vI0, .ref q65, .ref q73, .ref q81, .ref q89, .ref q98, .ref q107, .ref q116, vN, vN, vI0])), rzl q12 cq12 12, rz q20 cq20 12, rz q28 cq20 12, rzl q36 cq12 72, rz q44 cq44 72, rz q52 cq20 72, rzl q65 cq12 30, rz q73 cq20 120, rz q81 cq20 30, rz q89 cq20 30, rz q98 cq20 720, rz q107 cq20 720, rz q116 cq20 720] := hD
  refine lv_aload_n hx hb dX1_init_121 rfl (lv_at hl 0 rfl) ?_
  refine lv_sipush (v := 3000) hx hb dX1_init_122 (by decide) ?_
  refine va_newa (atype := .int) (a0 := (3000, .inl (fun _ => 0))) hx hb (hg (.arrayClass .int) gw_1_112) rfl hK hP hD hS hA (fun _ => rfl) (by decide) (N' := 3000) rfl (Nat.le_of_ble_eq_true rfl) (Nat.le_of_ble_eq_true rfl) (Nat.le_of_ble_eq_true rfl) dX1_init_125 (fun q125 cq125 H hK hP hD hS => ?_)
  have hK : va_K (dC, dI) vwCl [(cq12, .long), (cq20, .int), (cq44, .boolean), (cq125, .int)] s := hK
  have hP : va_P (dC, dI) vwCl [(h0, .inr (1, [vI0, .ref q12, .ref q20, .ref q28, .ref q36, .ref q44, .ref q52, vI0, .ref q65, .ref q73, .ref q81, .ref q89, .ref q98, .ref q107, .ref q116, vN, vN, vI0])), rzl q12 cq12 12, rz q20 cq20 12, rz q28 cq20 12, rzl q36 cq12 72, rz q44 cq44 72, rz q52 cq20 72, rzl q65 cq12 30, rz q73 cq20 120, rz q81 cq20 30, rz q89 cq20 30, rz q98 cq20 720, rz q107 cq20 720, rz q116 cq20 720, rz q125 cq125 3000] H := hP
  have hD : va_D A [(h0, .inr (1, [vI0, .ref q12, .ref q20, .ref q28, .ref q36, .ref q44, .ref q52, vI0, .ref q65, .ref q73, .ref q81, .ref q89, .ref q98, .ref q107, .ref q116, vN, vN, vI0])), rzl q12 cq12 12, rz q20 cq20 12, rz q28 cq20 12, rzl q36 cq12 72, rz q44 cq44 72, rz q52 cq20 72, rzl q65 cq12 30, rz q73 cq20 120, rz q81 cq20 30, rz q89 cq20 30, rz q98 cq20 720, rz q107 cq20 720, rz q116 cq20 720, rz q125 cq125 3000] := hD
  refine W.widen (k := 14) (n := 5622) (Nat.le_of_ble_eq_true rfl) (Nat.le_of_ble_eq_true rfl) ?_
  obtain rfl : cq20 = cq125 := va_clsI hK (i := 1) (j := 3) rfl rfl
  have hK := hK.sub (tys' := [(cq12, .long), (cq20, .int), (cq44, .boolean)]) [0, 1, 2] rfl
  refine va_putF (D := (dC, dI)) (ci := 1) (v := .ref q125) (ty := .array .int) (C := RX1) (T := TX1) (N := 18) hx hb hg inG_X1 tyX1 tyX1_ok nmX1 hown hK hP hD hS 0 rfl rfl 15 (by decide) (hg (.fieldLink RX1 60 "AttributeDesk$Grammar" "operations" "[I") gw_1_67) (fun _ h9 => h9) rfl hin rfl (by decide +kernel) rfl rfl (Nat.le_of_ble_eq_true rfl) dX1_init_127 (fun H locs hP hD hS => ?_)
  have hP : va_P (dC, dI) vwCl [(h0, .inr (1, [vI0, .ref q12, .ref q20, .ref q28, .ref q36, .ref q44, .ref q52, vI0, .ref q65, .ref q73, .ref q81, .ref q89, .ref q98, .ref q107, .ref q116, .ref q125, vN, vI0])), rzl q12 cq12 12, rz q20 cq20 12, rz q28 cq20 12, rzl q36 cq12 72, rz q44 cq44 72, rz q52 cq20 72, rzl q65 cq12 30, rz q73 cq20 120, rz q81 cq20 30, rz q89 cq20 30, rz q98 cq20 720, rz q107 cq20 720, rz q116 cq20 720, rz q125 cq20 3000] H := hP
  have hD : va_D A [(h0, .inr (1, [vI0, .ref q12, .ref q20, .ref q28, .ref q36, .ref q44, .ref q52, vI0, .ref q65, .ref q73, .ref q81, .ref q89, .ref q98, .ref q107, .ref q116, .ref q125, vN, vI0])), rzl q12 cq12 12, rz q20 cq20 12, rz q28 cq20 12, rzl q36 cq12 72, rz q44 cq44 72, rz q52 cq20 72, rzl q65 cq12 30, rz q73 cq20 120, rz q81 cq20 30, rz q89 cq20 30, rz q98 cq20 720, rz q107 cq20 720, rz q116 cq20 720, rz q125 cq20 3000] := hD
  refine lv_aload_n hx hb dX1_init_130 rfl (lv_at hl 0 rfl) ?_
  refine lv_sipush (v := 3000) hx hb dX1_init_131 (by decide) ?_
  refine va_newa (atype := .int) (a0 := (3000, .inl (fun _ => 0))) hx hb (hg (.arrayClass .int) gw_1_112) rfl hK hP hD hS hA (fun _ => rfl) (by decide) (N' := 3000) rfl (Nat.le_of_ble_eq_true rfl) (Nat.le_of_ble_eq_true rfl) (Nat.le_of_ble_eq_true rfl) dX1_init_134 (fun q134 cq134 H hK hP hD hS => ?_)
  have hK : va_K (dC, dI) vwCl [(cq12, .long), (cq20, .int), (cq44, .boolean), (cq134, .int)] s := hK
  have hP : va_P (dC, dI) vwCl [(h0, .inr (1, [vI0, .ref q12, .ref q20, .ref q28, .ref q36, .ref q44, .ref q52, vI0, .ref q65, .ref q73, .ref q81, .ref q89, .ref q98, .ref q107, .ref q116, .ref q125, vN, vI0])), rzl q12 cq12 12, rz q20 cq20 12, rz q28 cq20 12, rzl q36 cq12 72, rz q44 cq44 72, rz q52 cq20 72, rzl q65 cq12 30, rz q73 cq20 120, rz q81 cq20 30, rz q89 cq20 30, rz q98 cq20 720, rz q107 cq20 720, rz q116 cq20 720, rz q125 cq20 3000, rz q134 cq134 3000] H := hP
  have hD : va_D A [(h0, .inr (1, [vI0, .ref q12, .ref q20, .ref q28, .ref q36, .ref q44, .ref q52, vI0, .ref q65, .ref q73, .ref q81, .ref q89, .ref q98, .ref q107, .ref q116, .ref q125, vN, vI0])), rzl q12 cq12 12, rz q20 cq20 12, rz q28 cq20 12, rzl q36 cq12 72, rz q44 cq44 72, rz q52 cq20 72, rzl q65 cq12 30, rz q73 cq20 120, rz q81 cq20 30, rz q89 cq20 30, rz q98 cq20 720, rz q107 cq20 720, rz q116 cq20 720, rz q125 cq20 3000, rz q134 cq134 3000] := hD
  refine W.widen (k := 15) (n := 8622) (Nat.le_of_ble_eq_true rfl) (Nat.le_of_ble_eq_true rfl) ?_
  obtain rfl : cq20 = cq134 := va_clsI hK (i := 1) (j := 3) rfl rfl
  have hK := hK.sub (tys' := [(cq12, .long), (cq20, .int), (cq44, .boolean)]) [0, 1, 2] rfl
  refine va_putF (D := (dC, dI)) (ci := 1) (v := .ref q134) (ty := .array .int) (C := RX1) (T := TX1) (N := 18) hx hb hg inG_X1 tyX1 tyX1_ok nmX1 hown hK hP hD hS 0 rfl rfl 16 (by decide) (hg (.fieldLink RX1 63 "AttributeDesk$Grammar" "operands" "[I") gw_1_69) (fun _ h9 => h9) rfl hin rfl (by decide +kernel) rfl rfl (Nat.le_of_ble_eq_true rfl) dX1_init_136 (fun H locs hP hD hS => ?_)
  have hP : va_P (dC, dI) vwCl [(h0, .inr (1, [vI0, .ref q12, .ref q20, .ref q28, .ref q36, .ref q44, .ref q52, vI0, .ref q65, .ref q73, .ref q81, .ref q89, .ref q98, .ref q107, .ref q116, .ref q125, .ref q134, vI0])), rzl q12 cq12 12, rz q20 cq20 12, rz q28 cq20 12, rzl q36 cq12 72, rz q44 cq44 72, rz q52 cq20 72, rzl q65 cq12 30, rz q73 cq20 120, rz q81 cq20 30, rz q89 cq20 30, rz q98 cq20 720, rz q107 cq20 720, rz q116 cq20 720, rz q125 cq20 3000, rz q134 cq20 3000] H := hP
  have hD : va_D A [(h0, .inr (1, [vI0, .ref q12, .ref q20, .ref q28, .ref q36, .ref q44, .ref q52, vI0, .ref q65, .ref q73, .ref q81, .ref q89, .ref q98, .ref q107, .ref q116, .ref q125, .ref q134, vI0])), rzl q12 cq12 12, rz q20 cq20 12, rz q28 cq20 12, rzl q36 cq12 72, rz q44 cq44 72, rz q52 cq20 72, rzl q65 cq12 30, rz q73 cq20 120, rz q81 cq20 30, rz q89 cq20 30, rz q98 cq20 720, rz q107 cq20 720, rz q116 cq20 720, rz q125 cq20 3000, rz q134 cq20 3000] := hD
  refine lv_aload_n hx hb dX1_init_139 rfl (lv_at hl 0 rfl) ?_
  refine lv_iconst (v := 0) hx hb dX1_init_140 (by decide) ?_
  refine va_put (D := (dC, dI)) (ci := 1) (v := .int 0) (ty := .int) (C := RX1) (T := TX1) (N := 18) hx hb hg inG_X1 tyX1 tyX1_ok nmX1 hown hK hP hD hS 0 rfl rfl 17 (by decide) (hg (.fieldLink RX1 66 "AttributeDesk$Grammar" "codeSize" "I") gw_1_71) (fun _ h9 => h9) rfl (by decide +kernel) rfl rfl (Nat.le_of_ble_eq_true rfl) dX1_init_141 (fun H locs hP hD hS => ?_)
  have hP : va_P (dC, dI) vwCl [(h0, .inr (1, [vI0, .ref q12, .ref q20, .ref q28, .ref q36, .ref q44, .ref q52, vI0, .ref q65, .ref q73, .ref q81, .ref q89, .ref q98, .ref q107, .ref q116, .ref q125, .ref q134, vI0])), rzl q12 cq12 12, rz q20 cq20 12, rz q28 cq20 12, rzl q36 cq12 72, rz q44 cq44 72, rz q52 cq20 72, rzl q65 cq12 30, rz q73 cq20 120, rz q81 cq20 30, rz q89 cq20 30, rz q98 cq20 720, rz q107 cq20 720, rz q116 cq20 720, rz q125 cq20 3000, rz q134 cq20 3000] H := hP
  have hD : va_D A [(h0, .inr (1, [vI0, .ref q12, .ref q20, .ref q28, .ref q36, .ref q44, .ref q52, vI0, .ref q65, .ref q73, .ref q81, .ref q89, .ref q98, .ref q107, .ref q116, .ref q125, .ref q134, vI0])), rzl q12 cq12 12, rz q20 cq20 12, rz q28 cq20 12, rzl q36 cq12 72, rz q44 cq44 72, rz q52 cq20 72, rzl q65 cq12 30, rz q73 cq20 120, rz q81 cq20 30, rz q89 cq20 30, rz q98 cq20 720, rz q107 cq20 720, rz q116 cq20 720, rz q125 cq20 3000, rz q134 cq20 3000] := hD
  have hP9 := hP.sub (ws' := [(h0, .inr (1, [vI0, .ref q12, .ref q20, .ref q28, .ref q36, .ref q44, .ref q52, vI0, .ref q65, .ref q73, .ref q81, .ref q89, .ref q98, .ref q107, .ref q116, .ref q125, .ref q134, vI0])), rzl q12 cq12 12, rz q20 cq20 12, rz q28 cq20 12, rzl q36 cq12 72, rz q44 cq44 72, rz q52 cq20 72, rzl q65 cq12 30, rz q73 cq20 120, rz q81 cq20 30, rz q89 cq20 30, rz q98 cq20 720, rz q107 cq20 720, rz q116 cq20 720, rz q125 cq20 3000, rz q134 cq20 3000]) [0, 1, 2, 3, 4, 5, 6, 7, 8, 9, 10, 11, 12, 13, 14, 15] rfl
  have hD9 := hD.sub (ws' := [(h0, .inr (1, [vI0, .ref q12, .ref q20, .ref q28, .ref q36, .ref q44, .ref q52, vI0, .ref q65, .ref q73, .ref q81, .ref q89, .ref q98, .ref q107, .ref q116, .ref q125, .ref q134, vI0])), rzl q12 cq12 12, rz q20 cq20 12, rz q28 cq20 12, rzl q36 cq12 72, rz q44 cq44 72, rz q52 cq20 72, rzl q65 cq12 30, rz q73 cq20 120, rz q81 cq20 30, rz q89 cq20 30, rz q98 cq20 720, rz q107 cq20 720, rz q116 cq20 720, rz q125 cq20 3000, rz q134 cq20 3000]) [0, 1, 2, 3, 4, 5, 6, 7, 8, 9, 10, 11, 12, 13, 14, 15] (by decide +kernel) rfl
  have hK9 := hK.sub (tys' := [(cq12, .long), (cq20, .int), (cq44, .boolean)]) [0, 1, 2] rfl
  refine W.widen (k := 15) (n := 8622) (Nat.le_of_ble_eq_true rfl) (Nat.le_of_ble_eq_true rfl) ?_
  exact W.vret hx hb hr (fun t ht hW => ⟨⟨(), rfl, trivial, q12, q20, q28, q36, q44, q52, q65, q73, q81, q89, q98, q107, q116, q125, q134, cq12, cq20, cq44, by rw [ht]; exact hP9, va_K.moved hW.alike hK9, hD9⟩, hS.F ht⟩) hS.2.2 dX1_init_144

set_option maxHeartbeats 4000000 in
set_option maxRecDepth 100000 in
theorem c_X4_init (l : Launch) (dC : Nat → ClassId) (dI : Nat → Nat → Nat) (h0 : Nat) (sz : Nat) : Met l yX4_init wyX4_init ({ frames := 1, cells := 5, slots := 1400, locals := 12 }) (va_Pc [.ref h0] (fun U => U.heap.size = sz ∧ va_P (dC, dI) vwCl [(h0, .inr (4, [vI0, vN, vN, vN, vN, vN]))] U.heap ∧ va_K (dC, dI) vwCl [] U ∧ va_D (fun _ => True) [(h0, .inr (4, [vI0, vN, vN, vN, vN, vN]))])) (va_Qv (fun _ : Unit => True) (fun _ t => ∃ (e0 : Nat), ∃ (e1 : Nat), ∃ (e2 : Nat), ∃ (e3 : Nat), ∃ (e4 : Nat), ∃ (e5 : ClassId), va_P (dC, dI) vwCl [(h0, .inr (4, [vI0, .ref e0, .ref e1, .ref e2, .ref e3, .ref e4])), rz e0 e5 200, rz e1 e5 200, rz e2 e5 200, rz e3 e5 200, rz e4 e5 600] t.heap ∧ va_K (dC, dI) vwCl [(e5, .int)] t ∧ va_D (va_A [(h0, .inr (4, [vI0, vN, vN, vN, vN, vN]))] sz) [(h0, .inr (4, [vI0, .ref e0, .ref e1, .ref e2, .ref e3, .ref e4])), rz e0 e5 200, rz e1 e5 200, rz e2 e5 200, rz e3 e5 200, rz e4 e5 600]) (va_A [(h0, .inr (4, [vI0, vN, vN, vN, vN, vN]))] sz)) 5 1400 (va_A [(h0, .inr (4, [vI0, vN, vN, vN, vN, vN]))] sz) := by
  refine Met.ofW (cc := cX4_init) (maxL := 1) (ret := none) (by decide) rfl ?_
  intro p e s m args below meth c s₁ B hml hv
  obtain ⟨rfl, hsz, hP, hK, hD0⟩ := hv
  have hx := B.exec
  have hb := B.bytes
  have hr := B.returns
  have hts := atoms_spec (ws := wyX4_init) B.pre
  have hg : ∀ w ∈ lw_G, w.before _ s = true := fun w h => hts w (List.mem_cons_of_mem _ h)
  have hown : s.vm.findClass RX4 = some m.cls := findClass_of_methodNamed B.named
  have hlocks := B.notSynchronized
  have hin : meth.name = "<init>" := (name_of_methodNamed B.named B.method).1
  subst hsz
  have hD := hD0.self (sz := s.heap.size)
  generalize hAe : va_A [(h0, .inr (4, [vI0, vN, vN, vN, vN, vN]))] s.heap.size = A at hD ⊢
  have hA : ∀ q : Nat, s.heap.size ≤ q → A q := fun q h => by rw [← hAe]; exact Or.inr h
  have hS : va_S A s.heap s.heap [] := va_S.rf
  have hP : va_P (dC, dI) vwCl [(h0, .inr (4, [vI0, vN, vN, vN, vN, vN]))] s.heap := hP
  have hl := lv_entry ([.ref h0]) (n := 1) (Nat.le_of_ble_eq_true rfl)
  rw [lg_entry_eq]
  generalize (lg_sl ([.ref h0]) ++ List.replicate (1 - (lg_sl ([.ref h0])).length) Slot.unset).toArray = ls at hl ⊢
  have hl : lv_has ls 1 [(0, .ref h0)] := hl
  refine lv_aload_n hx hb dX4_init_0 rfl (lv_at hl 0 rfl) ?_
  refine W.objInit hx hb hown (hg (.methodLink RX4 3 objectInit) gw_1_119) (hg (.instanceMethod objectInit) gw_1_18) (hg (.code objectInit ⟨#[0xb1]⟩ 1 none) gw_1_19) rfl (by rw [hml]; exact hl.1) rfl dX4_init_1 (Nat.le_of_ble_eq_true rfl) (Nat.le_of_ble_eq_true rfl) ?_
  refine W.eq (g2 := F0 m 4 ls []) rfl ?_
  refine lv_aload_n hx hb dX4_init_4 rfl (lv_at hl 0 rfl) ?_
  refine lv_iconst (v := 0) hx hb dX4_init_5 (by decide) ?_
  refine va_put (D := (dC, dI)) (ci := 4) (v := .int 0) (ty := .int) (C := RX4) (T := TX4) (N := 6) hx hb hg inG_X4 tyX4 tyX4_ok nmX4 hown hK hP hD hS 0 rfl rfl 0 (by decide) (hg (.fieldLink RX4 9 "AttributeDesk$Tree" "size" "I") gw_1_120) (fun _ h9 => h9) rfl (by decide +kernel) rfl rfl (Nat.le_of_ble_eq_true rfl) dX4_init_6 (fun H locs hP hD hS => ?_)
  have hP : va_P (dC, dI) vwCl [(h0, .inr (4, [vI0, vN, vN, vN, vN, vN]))] H := hP
  have hD : va_D A [(h0, .inr (4, [vI0, vN, vN, vN, vN, vN]))] := hD
  refine lv_aload_n hx hb dX4_init_9 rfl (lv_at hl 0 rfl) ?_
  refine lv_sipush (v := 200) hx hb dX4_init_10 (by decide) ?_
  refine va_newa (atype := .int) (a0 := (200, .inl (fun _ => 0))) hx hb (hg (.arrayClass .int) gw_1_112) rfl hK hP hD hS hA (fun _ => rfl) (by decide) (N' := 200) rfl (Nat.le_of_ble_eq_true rfl) (Nat.le_of_ble_eq_true rfl) (Nat.le_of_ble_eq_true rfl) dX4_init_13 (fun q13 cq13 H hK hP hD hS => ?_)
  have hK : va_K (dC, dI) vwCl [(cq13, .int)] s := hK
  have hP : va_P (dC, dI) vwCl [(h0, .inr (4, [vI0, vN, vN, vN, vN, vN])), rz q13 cq13 200] H := hP
  have hD : va_D A [(h0, .inr (4, [vI0, vN, vN, vN, vN, vN])), rz q13 cq13 200] := hD
  refine W.widen (k := 1) (n := 200) (Nat.le_of_ble_eq_true rfl) (Nat.le_of_ble_eq_true rfl) ?_
  refine va_putF (D := (dC, dI)) (ci := 4) (v := .ref q13) (ty := .array .int) (C := RX4) (T := TX4) (N := 6) hx hb hg inG_X4 tyX4 tyX4_ok nmX4 hown hK hP hD hS 0 rfl rfl 1 (by decide) (hg (.fieldLink RX4 15 "AttributeDesk$Tree" "rules" "[I") gw_1_123) (fun _ h9 => h9) rfl hin rfl (by decide +kernel) rfl rfl (Nat.le_of_ble_eq_true rfl) dX4_init_15 (fun H locs hP hD hS => ?_)
  have hP : va_P (dC, dI) vwCl [(h0, .inr (4, [vI0, .ref q13, vN, vN, vN, vN])), rz q13 cq13 200] H := hP
  have hD : va_D A [(h0, .inr (4, [vI0, .ref q13, vN, vN, vN, vN])), rz q13 cq13 200] := hD
  refine lv_aload_n hx hb dX4_init_18 rfl (lv_at hl 0 rfl) ?_
  refine lv_sipush (v := 200) hx hb dX4_init_19 (by decide) ?_
  refine va_newa (atype := .int) (a0 := (200, .inl (fun _ => 0))) hx hb (hg (.arrayClass .int) gw_1_112) rfl hK hP hD hS hA (fun _ => rfl) (by decide) (N' := 200) rfl (Nat.le_of_ble_eq_true rfl) (Nat.le_of_ble_eq_true rfl) (Nat.le_of_ble_eq_true rfl) dX4_init_22 (fun q22 cq22 H hK hP hD hS => ?_)
  have hK : va_K (dC, dI) vwCl [(cq13, .int), (cq22, .int)] s := hK
  have hP : va_P (dC, dI) vwCl [(h0, .inr (4, [vI0, .ref q13, vN, vN, vN, vN])), rz q13 cq13 200, rz q22 cq22 200] H := hP
  have hD : va_D A [(h0, .inr (4, [vI0, .ref q13, vN, vN, vN, vN])), rz q13 cq13 200, rz q22 cq22 200] := hD
  refine W.widen (k := 2) (n := 400) (Nat.le_of_ble_eq_true rfl) (Nat.le_of_ble_eq_true rfl) ?_
  obtain rfl : cq13 = cq22 := va_clsI hK (i := 0) (j := 1) rfl rfl
  have hK := hK.sub (tys' := [(cq13, .int)]) [0] rfl
  refine va_putF (D := (dC, dI)) (ci := 4) (v := .ref q22) (ty := .array .int) (C := RX4) (T := TX4) (N := 6) hx hb hg inG_X4 tyX4 tyX4_ok nmX4 hown hK hP hD hS 0 rfl rfl 2 (by decide) (hg (.fieldLink RX4 19 "AttributeDesk$Tree" "above" "[I") gw_1_127) (fun _ h9 => h9) rfl hin rfl (by decide +kernel) rfl rfl (Nat.le_of_ble_eq_true rfl) dX4_init_24 (fun H locs hP hD hS => ?_)
  have hP : va_P (dC, dI) vwCl [(h0, .inr (4, [vI0, .ref q13, .ref q22, vN, vN, vN])), rz q13 cq13 200, rz q22 cq13 200] H := hP
  have hD : va_D A [(h0, .inr (4, [vI0, .ref q13, .ref q22, vN, vN, vN])), rz q13 cq13 200, rz q22 cq13 200] := hD
  refine lv_aload_n hx hb dX4_init_27 rfl (lv_at hl 0 rfl) ?_
  refine lv_sipush (v := 200) hx hb dX4_init_28 (by decide) ?_
  refine va_newa (atype := .int) (a0 := (200, .inl (fun _ => 0))) hx hb (hg (.arrayClass .int) gw_1_112) rfl hK hP hD hS hA (fun _ => rfl) (by decide) (N' := 200) rfl (Nat.le_of_ble_eq_true rfl) (Nat.le_of_ble_eq_true rfl) (Nat.le_of_ble_eq_true rfl) dX4_init_31 (fun q31 cq31 H hK hP hD hS => ?_)
  have hK : va_K (dC, dI) vwCl [(cq13, .int), (cq31, .int)] s := hK
  have hP : va_P (dC, dI) vwCl [(h0, .inr (4, [vI0, .ref q13, .ref q22, vN, vN, vN])), rz q13 cq13 200, rz q22 cq13 200, rz q31 cq31 200] H := hP
  have hD : va_D A [(h0, .inr (4, [vI0, .ref q13, .ref q22, vN, vN, vN])), rz q13 cq13 200, rz q22 cq13 200, rz q31 cq31 200] := hD
  refine W.widen (k := 3) (n := 600) (Nat.le_of_ble_eq_true rfl) (Nat.le_of_ble_eq_true rfl) ?_
  obtain rfl : cq13 = cq31 := va_clsI hK (i := 0) (j := 1) rfl rfl
  have hK := hK.sub (tys' := [(cq13, .int)]) [0] rfl
  refine va_putF (D := (dC, dI)) (ci := 4) (v := .ref q31) (ty := .array .int) (C := RX4) (T := TX4) (N := 6) hx hb hg inG_X4 tyX4 tyX4_ok nmX4 hown hK hP hD hS 0 rfl rfl 3 (by decide) (hg (.fieldLink RX4 22 "AttributeDesk$Tree" "places" "[I") gw_1_131) (fun _ h9 => h9) rfl hin rfl (by decide +kernel) rfl rfl (Nat.le_of_ble_eq_true rfl) dX4_init_33 (fun H locs hP hD hS => ?_)
  have hP : va_P (dC, dI) vwCl [(h0, .inr (4, [vI0, .ref q13, .ref q22, .ref q31, vN, vN])), rz q13 cq13 200, rz q22 cq13 200, rz q31 cq13 200] H := hP
  have hD : va_D A [(h0, .inr (4, [vI0, .ref q13, .ref q22, .ref q31, vN, vN])), rz q13 cq13 200, rz q22 cq13 200, rz q31 cq13 200] := hD
  refine lv_aload_n hx hb dX4_init_36 rfl (lv_at hl 0 rfl) ?_
  refine lv_sipush (v := 200) hx hb dX4_init_37 (by decide) ?_
  refine va_newa (atype := .int) (a0 := (200, .inl (fun _ => 0))) hx hb (hg (.arrayClass .int) gw_1_112) rfl hK hP hD hS hA (fun _ => rfl) (by decide) (N' := 200) rfl (Nat.le_of_ble_eq_true rfl) (Nat.le_of_ble_eq_true rfl) (Nat.le_of_ble_eq_true rfl) dX4_init_40 (fun q40 cq40 H hK hP hD hS => ?_)
  have hK : va_K (dC, dI) vwCl [(cq13, .int), (cq40, .int)] s := hK
  have hP : va_P (dC, dI) vwCl [(h0, .inr (4, [vI0, .ref q13, .ref q22, .ref q31, vN, vN])), rz q13 cq13 200, rz q22 cq13 200, rz q31 cq13 200, rz q40 cq40 200] H := hP
  have hD : va_D A [(h0, .inr (4, [vI0, .ref q13, .ref q22, .ref q31, vN, vN])), rz q13 cq13 200, rz q22 cq13 200, rz q31 cq13 200, rz q40 cq40 200] := hD
  refine W.widen (k := 4) (n := 800) (Nat.le_of_ble_eq_true rfl) (Nat.le_of_ble_eq_true rfl) ?_
  obtain rfl : cq13 = cq40 := va_clsI hK (i := 0) (j := 1) rfl rfl
  have hK := hK.sub (tys' := [(cq13, .int)]) [0] rfl
  refine va_putF (D := (dC, dI)) (ci := 4) (v := .ref q40) (ty := .array .int) (C := RX4) (T := TX4) (N := 6) hx hb hg inG_X4 tyX4 tyX4_ok nmX4 hown hK hP hD hS 0 rfl rfl 4 (by decide) (hg (.fieldLink RX4 25 "AttributeDesk$Tree" "owns" "[I") gw_1_135) (fun _ h9 => h9) rfl hin rfl (by decide +kernel) rfl rfl (Nat.le_of_ble_eq_true rfl) dX4_init_42 (fun H locs hP hD hS => ?_)
  have hP : va_P (dC, dI) vwCl [(h0, .inr (4, [vI0, .ref q13, .ref q22, .ref q31, .ref q40, vN])), rz q13 cq13 200, rz q22 cq13 200, rz q31 cq13 200, rz q40 cq13 200] H := hP
  have hD : va_D A [(h0, .inr (4, [vI0, .ref q13, .ref q22, .ref q31, .ref q40, vN])), rz q13 cq13 200, rz q22 cq13 200, rz q31 cq13 200, rz q40 cq13 200] := hD
  refine lv_aload_n hx hb dX4_init_45 rfl (lv_at hl 0 rfl) ?_
  refine lv_sipush (v := 600) hx hb dX4_init_46 (by decide) ?_
  refine va_newa (atype := .int) (a0 := (600, .inl (fun _ => 0))) hx hb (hg (.arrayClass .int) gw_1_112) rfl hK hP hD hS hA (fun _ => rfl) (by decide) (N' := 600) rfl (Nat.le_of_ble_eq_true rfl) (Nat.le_of_ble_eq_true rfl) (Nat.le_of_ble_eq_true rfl) dX4_init_49 (fun q49 cq49 H hK hP hD hS => ?_)
  have hK : va_K (dC, dI) vwCl [(cq13, .int), (cq49, .int)] s := hK
  have hP : va_P (dC, dI) vwCl [(h0, .inr (4, [vI0, .ref q13, .ref q22, .ref q31, .ref q40, vN])), rz q13 cq13 200, rz q22 cq13 200, rz q31 cq13 200, rz q40 cq13 200, rz q49 cq49 600] H := hP
  have hD : va_D A [(h0, .inr (4, [vI0, .ref q13, .ref q22, .ref q31, .ref q40, vN])), rz q13 cq13 200, rz q22 cq13 200, rz q31 cq13 200, rz q40 cq13 200, rz q49 cq49 600] := hD
  refine W.widen (k := 5) (n := 1400) (Nat.le_of_ble_eq_true rfl) (Nat.le_of_ble_eq_true rfl) ?_
  obtain rfl : cq13 = cq49 := va_clsI hK (i := 0) (j := 1) rfl rfl
  have hK := hK.sub (tys' := [(cq13, .int)]) [0] rfl
  refine va_putF (D := (dC, dI)) (ci := 4) (v := .ref q49) (ty := .array .int) (C := RX4) (T := TX4) (N := 6) hx hb hg inG_X4 tyX4 tyX4_ok nmX4 hown hK hP hD hS 0 rfl rfl 5 (by decide) (hg (.fieldLink RX4 28 "AttributeDesk$Tree" "children" "[I") gw_1_139) (fun _ h9 => h9) rfl hin rfl (by decide +kernel) rfl rfl (Nat.le_of_ble_eq_true rfl) dX4_init_51 (fun H locs hP hD hS => ?_)
  have hP : va_P (dC, dI) vwCl [(h0, .inr (4, [vI0, .ref q13, .ref q22, .ref q31, .ref q40, .ref q49])), rz q13 cq13 200, rz q22 cq13 200, rz q31 cq13 200, rz q40 cq13 200, rz q49 cq13 600] H := hP
  have hD : va_D A [(h0, .inr (4, [vI0, .ref q13, .ref q22, .ref q31, .ref q40, .ref q49])), rz q13 cq13 200, rz q22 cq13 200, rz q31 cq13 200, rz q40 cq13 200, rz q49 cq13 600] := hD
  have hP9 := hP.sub (ws' := [(h0, .inr (4, [vI0, .ref q13, .ref q22, .ref q31, .ref q40, .ref q49])), rz q13 cq13 200, rz q22 cq13 200, rz q31 cq13 200, rz q40 cq13 200, rz q49 cq13 600]) [0, 1, 2, 3, 4, 5] rfl
  have hD9 := hD.sub (ws' := [(h0, .inr (4, [vI0, .ref q13, .ref q22, .ref q31, .ref q40, .ref q49])), rz q13 cq13 200, rz q22 cq13 200, rz q31 cq13 200, rz q40 cq13 200, rz q49 cq13 600]) [0, 1, 2, 3, 4, 5] (by decide +kernel) rfl
  have hK9 := hK.sub (tys' := [(cq13, .int)]) [0] rfl
  refine W.widen (k := 5) (n := 1400) (Nat.le_of_ble_eq_true rfl) (Nat.le_of_ble_eq_true rfl) ?_
  exact W.vret hx hb hr (fun t ht hW => ⟨⟨(), rfl, trivial, q13, q22, q31, q40, q49, cq13, by rw [ht]; exact hP9, va_K.moved hW.alike hK9, hD9⟩, hS.F ht⟩) hS.2.2 dX4_init_54

set_option maxHeartbeats 4000000 in
set_option maxRecDepth 100000 in
theorem c_X3_init (l : Launch) (dC : Nat → ClassId) (dI : Nat → Nat → Nat) (h0 a1 : Nat) (sz : Nat) : Met l yX3_init wyX3_init ({ frames := 1, cells := 0, slots := 0, locals := 12 }) (va_Pc [.ref h0, .ref a1] (fun U => U.heap.size = sz ∧ va_P (dC, dI) vwCl [(h0, .inr (3, [vN, vI0, vI0, vI0, vI0, vJ0, vJ0]))] U.heap ∧ va_K (dC, dI) vwCl [] U ∧ va_D (fun _ => True) [(h0, .inr (3, [vN, vI0, vI0, vI0, vI0, vJ0, vJ0]))])) (va_Qv (fun _ : Unit => True) (fun _ t => va_P (dC, dI) vwCl [(h0, .inr (3, [.ref a1, vI0, vI0, .int (-1), vI0, vJ0, vJ0]))] t.heap ∧ va_K (dC, dI) vwCl [] t ∧ va_D (va_A [(h0, .inr (3, [vN, vI0, vI0, vI0, vI0, vJ0, vJ0]))] sz) [(h0, .inr (3, [.ref a1, vI0, vI0, .int (-1), vI0, vJ0, vJ0]))]) (va_A [(h0, .inr (3, [vN, vI0, vI0, vI0, vI0, vJ0, vJ0]))] sz)) 0 0 (va_A [(h0, .inr (3, [vN, vI0, vI0, vI0, vI0, vJ0, vJ0]))] sz) := by
  refine Met.ofW (cc := cX3_init) (maxL := 2) (ret := none) (by decide) rfl ?_
  intro p e s m args below meth c s₁ B hml hv
  obtain ⟨rfl, hsz, hP, hK, hD0⟩ := hv
  have hx := B.exec
  have hb := B.bytes
  have hr := B.returns
  have hts := atoms_spec (ws := wyX3_init) B.pre
  have hg : ∀ w ∈ lw_G, w.before _ s = true := fun w h => hts w (List.mem_cons_of_mem _ h)
  have hown : s.vm.findClass RX3 = some m.cls := findClass_of_methodNamed B.named
  have hlocks := B.notSynchronized
  have hin : meth.name = "<init>" := (name_of_methodNamed B.named B.method).1
  subst hsz
  have hD := hD0.self (sz := s.heap.size)
  generalize hAe : va_A [(h0, .inr (3, [vN, vI0, vI0, vI0, vI0, vJ0, vJ0]))] s.heap.size = A at hD ⊢
  have hA : ∀ q : Nat, s.heap.size ≤ q → A q := fun q h => by rw [← hAe]; exact Or.inr h
  have hS : va_S A s.heap s.heap [] := va_S.rf
  have hP : va_P (dC, dI) vwCl [(h0, .inr (3, [vN, vI0, vI0, vI0, vI0, vJ0, vJ0]))] s.heap := hP
  have hl := lv_entry ([.ref h0, .ref a1]) (n := 2) (Nat.le_of_ble_eq_true rfl)
  rw [lg_entry_eq]
  generalize (lg_sl ([.ref h0, .ref a1]) ++ List.replicate (2 - (lg_sl ([.ref h0, .ref a1])).length) Slot.unset).toArray = ls at hl ⊢
  have hl : lv_has ls 2 [(0, .ref h0), (1, .ref a1)] := hl
  refine lv_aload_n hx hb dX3_init_0 rfl (lv_at hl 0 rfl) ?_
  refine W.objInit hx hb hown (hg (.methodLink RX3 3 objectInit) gw_1_159) (hg (.instanceMethod objectInit) gw_1_18) (hg (.code objectInit ⟨#[0xb1]⟩ 1 none) gw_1_19) rfl (by rw [hml]; exact hl.1) rfl dX3_init_1 (Nat.le_of_ble_eq_true rfl) (Nat.le_of_ble_eq_true rfl) ?_
  refine W.eq (g2 := F0 m 4 ls []) rfl ?_
  refine lv_aload_n hx hb dX3_init_4 rfl (lv_at hl 0 rfl) ?_
  refine lv_iconst (v := 0) hx hb dX3_init_5 (by decide) ?_
  refine va_put (D := (dC, dI)) (ci := 3) (v := .int 0) (ty := .int) (C := RX3) (T := TX3) (N := 7) hx hb hg inG_X3 tyX3 tyX3_ok nmX3 hown hK hP hD hS 0 rfl rfl 1 (by decide) (hg (.fieldLink RX3 9 "AttributeDesk$Tokens" "size" "I") gw_1_161) (fun _ h9 => h9) rfl (by decide +kernel) rfl rfl (Nat.le_of_ble_eq_true rfl) dX3_init_6 (fun H locs hP hD hS => ?_)
  have hP : va_P (dC, dI) vwCl [(h0, .inr (3, [vN, vI0, vI0, vI0, vI0, vJ0, vJ0]))] H := hP
  have hD : va_D A [(h0, .inr (3, [vN, vI0, vI0, vI0, vI0, vJ0, vJ0]))] := hD
  refine lv_aload_n hx hb dX3_init_9 rfl (lv_at hl 0 rfl) ?_
  refine lv_iconst (v := 0) hx hb dX3_init_10 (by decide) ?_
  refine va_put (D := (dC, dI)) (ci := 3) (v := .int 0) (ty := .int) (C := RX3) (T := TX3) (N := 7) hx hb hg inG_X3 tyX3 tyX3_ok nmX3 hown hK hP hD hS 0 rfl rfl 2 (by decide) (hg (.fieldLink RX3 15 "AttributeDesk$Tokens" "behind" "I") gw_1_162) (fun _ h9 => h9) rfl (by decide +kernel) rfl rfl (Nat.le_of_ble_eq_true rfl) dX3_init_11 (fun H locs hP hD hS => ?_)
  have hP : va_P (dC, dI) vwCl [(h0, .inr (3, [vN, vI0, vI0, vI0, vI0, vJ0, vJ0]))] H := hP
  have hD : va_D A [(h0, .inr (3, [vN, vI0, vI0, vI0, vI0, vJ0, vJ0]))] := hD
  refine lv_aload_n hx hb dX3_init_14 rfl (lv_at hl 0 rfl) ?_
  refine lv_iconst (v := (-1)) hx hb dX3_init_15 (by decide) ?_
  refine va_put (D := (dC, dI)) (ci := 3) (v := .int (-1)) (ty := .int) (C := RX3) (T := TX3) (N := 7) hx hb hg inG_X3 tyX3 tyX3_ok nmX3 hown hK hP hD hS 0 rfl rfl 3 (by decide) (hg (.fieldLink RX3 18 "AttributeDesk$Tokens" "kind" "I") gw_1_163) (fun _ h9 => h9) rfl (by decide +kernel) rfl rfl (Nat.le_of_ble_eq_true rfl) dX3_init_16 (fun H locs hP hD hS => ?_)
  have hP : va_P (dC, dI) vwCl [(h0, .inr (3, [vN, vI0, vI0, .int (-1), vI0, vJ0, vJ0]))] H := hP
  have hD : va_D A [(h0, .inr (3, [vN, vI0, vI0, .int (-1), vI0, vJ0, vJ0]))] := hD
  refine lv_aload_n hx hb dX3_init_19 rfl (lv_at hl 0 rfl) ?_
  refine lv_iconst (v := 0) hx hb dX3_init_20 (by decide) ?_
  refine va_put (D := (dC, dI)) (ci := 3) (v := .int 0) (ty := .int) (C := RX3) (T := TX3) (N := 7) hx hb hg inG_X3 tyX3 tyX3_ok nmX3 hown hK hP hD hS 0 rfl rfl 4 (by decide) (hg (.fieldLink RX3 21 "AttributeDesk$Tokens" "at" "I") gw_1_167) (fun _ h9 => h9) rfl (by decide +kernel) rfl rfl (Nat.le_of_ble_eq_true rfl) dX3_init_21 (fun H locs hP hD hS => ?_)
  have hP : va_P (dC, dI) vwCl [(h0, .inr (3, [vN, vI0, vI0, .int (-1), vI0, vJ0, vJ0]))] H := hP
  have hD : va_D A [(h0, .inr (3, [vN, vI0, vI0, .int (-1), vI0, vJ0, vJ0]))] := hD
  refine lv_aload_n hx hb dX3_init_24 rfl (lv_at hl 0 rfl) ?_
  refine lv_lconst (v := 0) hx hb dX3_init_25 (by decide) ?_
  refine va_put (D := (dC, dI)) (ci := 3) (v := .long 0) (ty := .long) (C := RX3) (T := TX3) (N := 7) hx hb hg inG_X3 tyX3 tyX3_ok nmX3 hown hK hP hD hS 0 rfl rfl 5 (by decide) (hg (.fieldLink RX3 24 "AttributeDesk$Tokens" "name" "J") gw_1_169) (fun _ h9 => h9) rfl (by decide +kernel) rfl rfl (Nat.le_of_ble_eq_true rfl) dX3_init_26 (fun H locs hP hD hS => ?_)
  have hP : va_P (dC, dI) vwCl [(h0, .inr (3, [vN, vI0, vI0, .int (-1), vI0, vJ0, vJ0]))] H := hP
  have hD : va_D A [(h0, .inr (3, [vN, vI0, vI0, .int (-1), vI0, vJ0, vJ0]))] := hD
  refine lv_aload_n hx hb dX3_init_29 rfl (lv_at hl 0 rfl) ?_
  refine lv_lconst (v := 0) hx hb dX3_init_30 (by decide) ?_
  refine va_put (D := (dC, dI)) (ci := 3) (v := .long 0) (ty := .long) (C := RX3) (T := TX3) (N := 7) hx hb hg inG_X3 tyX3 tyX3_ok nmX3 hown hK hP hD hS 0 rfl rfl 6 (by decide) (hg (.fieldLink RX3 28 "AttributeDesk$Tokens" "number" "J") gw_1_173) (fun _ h9 => h9) rfl (by decide +kernel) rfl rfl (Nat.le_of_ble_eq_true rfl) dX3_init_31 (fun H locs hP hD hS => ?_)
  have hP : va_P (dC, dI) vwCl [(h0, .inr (3, [vN, vI0, vI0, .int (-1), vI0, vJ0, vJ0]))] H := hP
  have hD : va_D A [(h0, .inr (3, [vN, vI0, vI0, .int (-1), vI0, vJ0, vJ0]))] := hD
  refine lv_aload_n hx hb dX3_init_34 rfl (lv_at hl 0 rfl) ?_
  refine lv_aload_n hx hb dX3_init_35 rfl (lv_at hl 1 rfl) ?_
  refine va_putF (D := (dC, dI)) (ci := 3) (v := .ref a1) (ty := .array .byte) (C := RX3) (T := TX3) (N := 7) hx hb hg inG_X3 tyX3 tyX3_ok nmX3 hown hK hP hD hS 0 rfl rfl 0 (by decide) (hg (.fieldLink RX3 31 "AttributeDesk$Tokens" "text" "[B") gw_1_160) (fun _ h9 => h9) rfl hin rfl (by decide +kernel) rfl rfl (Nat.le_of_ble_eq_true rfl) dX3_init_36 (fun H locs hP hD hS => ?_)
  have hP : va_P (dC, dI) vwCl [(h0, .inr (3, [.ref a1, vI0, vI0, .int (-1), vI0, vJ0, vJ0]))] H := hP
  have hD : va_D A [(h0, .inr (3, [.ref a1, vI0, vI0, .int (-1), vI0, vJ0, vJ0]))] := hD
  have hP9 := hP.sub (ws' := [(h0, .inr (3, [.ref a1, vI0, vI0, .int (-1), vI0, vJ0, vJ0]))]) [0] rfl
  have hD9 := hD.sub (ws' := [(h0, .inr (3, [.ref a1, vI0, vI0, .int (-1), vI0, vJ0, vJ0]))]) [0] (by decide +kernel) rfl
  have hK9 := hK.sub (tys' := []) [] rfl
  refine W.widen (k := 0) (n := 0) (Nat.le_of_ble_eq_true rfl) (Nat.le_of_ble_eq_true rfl) ?_
  exact W.vret hx hb hr (fun t ht hW => ⟨⟨(), rfl, trivial, by rw [ht]; exact hP9, va_K.moved hW.alike hK9, hD9⟩, hS.F ht⟩) hS.2.2 dX3_init_39

set_option maxHeartbeats 4000000 in
set_option maxRecDepth 100000 in
theorem c_X0_init (l : Launch) (dC : Nat → ClassId) (dI : Nat → Nat → Nat) (h0 a1 a2 : Nat) (sz : Nat) : Met l yX0_init wyX0_init ({ frames := 1, cells := 1, slots := 40, locals := 12 }) (va_Pc [.ref h0, .ref a1, .ref a2] (fun U => U.heap.size = sz ∧ va_P (dC, dI) vwCl [(h0, .inr (0, [vN, vN, vI0, vI0, vI0, vI0, vI0, vN, vI0, vI0, vI0]))] U.heap ∧ va_K (dC, dI) vwCl [] U ∧ va_D (fun _ => True) [(h0, .inr (0, [vN, vN, vI0, vI0, vI0, vI0, vI0, vN, vI0, vI0, vI0]))])) (va_Qv (fun _ : Unit => True) (fun _ t => ∃ (e0 : Nat), ∃ (e1 : ClassId), va_P (dC, dI) vwCl [(h0, .inr (0, [.ref a1, .ref a2, vI0, vI0, vI0, vI0, vI0, .ref e0, vI0, vI0, vI0])), rz e0 e1 40] t.heap ∧ va_K (dC, dI) vwCl [(e1, .int)] t ∧ va_D (va_A [(h0, .inr (0, [vN, vN, vI0, vI0, vI0, vI0, vI0, vN, vI0, vI0, vI0]))] sz) [(h0, .inr (0, [.ref a1, .ref a2, vI0, vI0, vI0, vI0, vI0, .ref e0, vI0, vI0, vI0])), rz e0 e1 40]) (va_A [(h0, .inr (0, [vN, vN, vI0, vI0, vI0, vI0, vI0, vN, vI0, vI0, vI0]))] sz)) 1 40 (va_A [(h0, .inr (0, [vN, vN, vI0, vI0, vI0, vI0, vI0, vN, vI0, vI0, vI0]))] sz) := by
  refine Met.ofW (cc := cX0_init) (maxL := 3) (ret := none) (by decide) rfl ?_
  intro p e s m args below meth c s₁ B hml hv
  obtain ⟨rfl, hsz, hP, hK, hD0⟩ := hv
  have hx := B.exec
  have hb := B.bytes
  have hr := B.returns
  have hts := atoms_spec (ws := wyX0_init) B.pre
  have hg : ∀ w ∈ lw_G, w.before _ s = true := fun w h => hts w (List.mem_cons_of_mem _ h)
  have hown : s.vm.findClass RX0 = some m.cls := findClass_of_methodNamed B.named
  have hlocks := B.notSynchronized
  have hin : meth.name = "<init>" := (name_of_methodNamed B.named B.method).1
  subst hsz
  have hD := hD0.self (sz := s.heap.size)
  generalize hAe : va_A [(h0, .inr (0, [vN, vN, vI0, vI0, vI0, vI0, vI0, vN, vI0, vI0, vI0]))] s.heap.size = A at hD ⊢
  have hA : ∀ q : Nat, s.heap.size ≤ q → A q := fun q h => by rw [← hAe]; exact Or.inr h
  have hS : va_S A s.heap s.heap [] := va_S.rf
  have hP : va_P (dC, dI) vwCl [(h0, .inr (0, [vN, vN, vI0, vI0, vI0, vI0, vI0, vN, vI0, vI0, vI0]))] s.heap := hP
  have hl := lv_entry ([.ref h0, .ref a1, .ref a2]) (n := 3) (Nat.le_of_ble_eq_true rfl)
  rw [lg_entry_eq]
  generalize (lg_sl ([.ref h0, .ref a1, .ref a2]) ++ List.replicate (3 - (lg_sl ([.ref h0, .ref a1, .ref a2])).length) Slot.unset).toArray = ls at hl ⊢
  have hl : lv_has ls 3 [(0, .ref h0), (1, .ref a1), (2, .ref a2)] := hl
  refine lv_aload_n hx hb dX0_init_0 rfl (lv_at hl 0 rfl) ?_
  refine W.objInit hx hb hown (hg (.methodLink RX0 3 objectInit) gw_1_203) (hg (.instanceMethod objectInit) gw_1_18) (hg (.code objectInit ⟨#[0xb1]⟩ 1 none) gw_1_19) rfl (by rw [hml]; exact hl.1) rfl dX0_init_1 (Nat.le_of_ble_eq_true rfl) (Nat.le_of_ble_eq_true rfl) ?_
  refine W.eq (g2 := F0 m 4 ls []) rfl ?_
  refine lv_aload_n hx hb dX0_init_4 rfl (lv_at hl 0 rfl) ?_
  refine lv_iconst (v := 0) hx hb dX0_init_5 (by decide) ?_
  refine va_put (D := (dC, dI)) (ci := 0) (v := .int 0) (ty := .int) (C := RX0) (T := TX0) (N := 11) hx hb hg inG_X0 tyX0 tyX0_ok nmX0 hown hK hP hD hS 0 rfl rfl 2 (by decide) (hg (.fieldLink RX0 9 "AttributeDesk$ExpressionReader" "rule" "I") gw_1_206) (fun _ h9 => h9) rfl (by decide +kernel) rfl rfl (Nat.le_of_ble_eq_true rfl) dX0_init_6 (fun H locs hP hD hS => ?_)
  have hP : va_P (dC, dI) vwCl [(h0, .inr (0, [vN, vN, vI0, vI0, vI0, vI0, vI0, vN, vI0, vI0, vI0]))] H := hP
  have hD : va_D A [(h0, .inr (0, [vN, vN, vI0, vI0, vI0, vI0, vI0, vN, vI0, vI0, vI0]))] := hD
  refine lv_aload_n hx hb dX0_init_9 rfl (lv_at hl 0 rfl) ?_
  refine lv_iconst (v := 0) hx hb dX0_init_10 (by decide) ?_
  refine va_put (D := (dC, dI)) (ci := 0) (v := .int 0) (ty := .int) (C := RX0) (T := TX0) (N := 11) hx hb hg inG_X0 tyX0 tyX0_ok nmX0 hown hK hP hD hS 0 rfl rfl 3 (by decide) (hg (.fieldLink RX0 15 "AttributeDesk$ExpressionReader" "target" "I") gw_1_207) (fun _ h9 => h9) rfl (by decide +kernel) rfl rfl (Nat.le_of_ble_eq_true rfl) dX0_init_11 (fun H locs hP hD hS => ?_)
  have hP : va_P (dC, dI) vwCl [(h0, .inr (0, [vN, vN, vI0, vI0, vI0, vI0, vI0, vN, vI0, vI0, vI0]))] H := hP
  have hD : va_D A [(h0, .inr (0, [vN, vN, vI0, vI0, vI0, vI0, vI0, vN, vI0, vI0, vI0]))] := hD
  refine lv_aload_n hx hb dX0_init_14 rfl (lv_at hl 0 rfl) ?_
  refine lv_iconst (v := 0) hx hb dX0_init_15 (by decide) ?_
  refine va_put (D := (dC, dI)) (ci := 0) (v := .int 0) (ty := .int) (C := RX0) (T := TX0) (N := 11) hx hb hg inG_X0 tyX0 tyX0_ok nmX0 hown hK hP hD hS 0 rfl rfl 4 (by decide) (hg (.fieldLink RX0 18 "AttributeDesk$ExpressionReader" "state" "I") gw_1_208) (fun _ h9 => h9) rfl (by decide +kernel) rfl rfl (Nat.le_of_ble_eq_true rfl) dX0_init_16 (fun H locs hP hD hS => ?_)
  have hP : va_P (dC, dI) vwCl [(h0, .inr (0, [vN, vN, vI0, vI0, vI0, vI0, vI0, vN, vI0, vI0, vI0]))] H := hP
  have hD : va_D A [(h0, .inr (0, [vN, vN, vI0, vI0, vI0, vI0, vI0, vN, vI0, vI0, vI0]))] := hD
  refine lv_aload_n hx hb dX0_init_19 rfl (lv_at hl 0 rfl) ?_
  refine lv_iconst (v := 0) hx hb dX0_init_20 (by decide) ?_
  refine va_put (D := (dC, dI)) (ci := 0) (v := .int 0) (ty := .int) (C := RX0) (T := TX0) (N := 11) hx hb hg inG_X0 tyX0 tyX0_ok nmX0 hown hK hP hD hS 0 rfl rfl 5 (by decide) (hg (.fieldLink RX0 21 "AttributeDesk$ExpressionReader" "tokenCount" "I") gw_1_209) (fun _ h9 => h9) rfl (by decide +kernel) rfl rfl (Nat.le_of_ble_eq_true rfl) dX0_init_21 (fun H locs hP hD hS => ?_)
  have hP : va_P (dC, dI) vwCl [(h0, .inr (0, [vN, vN, vI0, vI0, vI0, vI0, vI0, vN, vI0, vI0, vI0]))] H := hP
  have hD : va_D A [(h0, .inr (0, [vN, vN, vI0, vI0, vI0, vI0, vI0, vN, vI0, vI0, vI0]))] := hD
  refine lv_aload_n hx hb dX0_init_24 rfl (lv_at hl 0 rfl) ?_
  refine lv_iconst (v := 0) hx hb dX0_init_25 (by decide) ?_
  refine va_put (D := (dC, dI)) (ci := 0) (v := .int 0) (ty := .int) (C := RX0) (T := TX0) (N := 11) hx hb hg inG_X0 tyX0 tyX0_ok nmX0 hown hK hP hD hS 0 rfl rfl 6 (by decide) (hg (.fieldLink RX0 24 "AttributeDesk$ExpressionReader" "occPlace" "I") gw_1_210) (fun _ h9 => h9) rfl (by decide +kernel) rfl rfl (Nat.le_of_ble_eq_true rfl) dX0_init_26 (fun H locs hP hD hS => ?_)
  have hP : va_P (dC, dI) vwCl [(h0, .inr (0, [vN, vN, vI0, vI0, vI0, vI0, vI0, vN, vI0, vI0, vI0]))] H := hP
  have hD : va_D A [(h0, .inr (0, [vN, vN, vI0, vI0, vI0, vI0, vI0, vN, vI0, vI0, vI0]))] := hD
  refine lv_aload_n hx hb dX0_init_29 rfl (lv_at hl 0 rfl) ?_
  refine lv_bipush (v := 40) hx hb dX0_init_30 (by decide) ?_
  refine va_newa (atype := .int) (a0 := (40, .inl (fun _ => 0))) hx hb (hg (.arrayClass .int) gw_1_112) rfl hK hP hD hS hA (fun _ => rfl) (by decide) (N' := 40) rfl (Nat.le_of_ble_eq_true rfl) (Nat.le_of_ble_eq_true rfl) (Nat.le_of_ble_eq_true rfl) dX0_init_32 (fun q32 cq32 H hK hP hD hS => ?_)
  have hK : va_K (dC, dI) vwCl [(cq32, .int)] s := hK
  have hP : va_P (dC, dI) vwCl [(h0, .inr (0, [vN, vN, vI0, vI0, vI0, vI0, vI0, vN, vI0, vI0, vI0])), rz q32 cq32 40] H := hP
  have hD : va_D A [(h0, .inr (0, [vN, vN, vI0, vI0, vI0, vI0, vI0, vN, vI0, vI0, vI0])), rz q32 cq32 40] := hD
  refine W.widen (k := 1) (n := 40) (Nat.le_of_ble_eq_true rfl) (Nat.le_of_ble_eq_true rfl) ?_
  refine va_putF (D := (dC, dI)) (ci := 0) (v := .ref q32) (ty := .array .int) (C := RX0) (T := TX0) (N := 11) hx hb hg inG_X0 tyX0 tyX0_ok nmX0 hown hK hP hD hS 0 rfl rfl 7 (by decide) (hg (.fieldLink RX0 27 "AttributeDesk$ExpressionReader" "waiting" "[I") gw_1_211) (fun _ h9 => h9) rfl hin rfl (by decide +kernel) rfl rfl (Nat.le_of_ble_eq_true rfl) dX0_init_34 (fun H locs hP hD hS => ?_)
  have hP : va_P (dC, dI) vwCl [(h0, .inr (0, [vN, vN, vI0, vI0, vI0, vI0, vI0, .ref q32, vI0, vI0, vI0])), rz q32 cq32 40] H := hP
  have hD : va_D A [(h0, .inr (0, [vN, vN, vI0, vI0, vI0, vI0, vI0, .ref q32, vI0, vI0, vI0])), rz q32 cq32 40] := hD
  refine lv_aload_n hx hb dX0_init_37 rfl (lv_at hl 0 rfl) ?_
  refine lv_iconst (v := 0) hx hb dX0_init_38 (by decide) ?_
  refine va_put (D := (dC, dI)) (ci := 0) (v := .int 0) (ty := .int) (C := RX0) (T := TX0) (N := 11) hx hb hg inG_X0 tyX0 tyX0_ok nmX0 hown hK hP hD hS 0 rfl rfl 8 (by decide) (hg (.fieldLink RX0 31 "AttributeDesk$ExpressionReader" "waitingCount" "I") gw_1_212) (fun _ h9 => h9) rfl (by decide +kernel) rfl rfl (Nat.le_of_ble_eq_true rfl) dX0_init_39 (fun H locs hP hD hS => ?_)
  have hP : va_P (dC, dI) vwCl [(h0, .inr (0, [vN, vN, vI0, vI0, vI0, vI0, vI0, .ref q32, vI0, vI0, vI0])), rz q32 cq32 40] H := hP
  have hD : va_D A [(h0, .inr (0, [vN, vN, vI0, vI0, vI0, vI0, vI0, .ref q32, vI0, vI0, vI0])), rz q32 cq32 40] := hD
  refine lv_aload_n hx hb dX0_init_42 rfl (lv_at hl 0 rfl) ?_
  refine lv_iconst (v := 0) hx hb dX0_init_43 (by decide) ?_
  refine va_put (D := (dC, dI)) (ci := 0) (v := .int 0) (ty := .int) (C := RX0) (T := TX0) (N := 11) hx hb hg inG_X0 tyX0 tyX0_ok nmX0 hown hK hP hD hS 0 rfl rfl 9 (by decide) (hg (.fieldLink RX0 34 "AttributeDesk$ExpressionReader" "openCount" "I") gw_1_213) (fun _ h9 => h9) rfl (by decide +kernel) rfl rfl (Nat.le_of_ble_eq_true rfl) dX0_init_44 (fun H locs hP hD hS => ?_)
  have hP : va_P (dC, dI) vwCl [(h0, .inr (0, [vN, vN, vI0, vI0, vI0, vI0, vI0, .ref q32, vI0, vI0, vI0])), rz q32 cq32 40] H := hP
  have hD : va_D A [(h0, .inr (0, [vN, vN, vI0, vI0, vI0, vI0, vI0, .ref q32, vI0, vI0, vI0])), rz q32 cq32 40] := hD
  refine lv_aload_n hx hb dX0_init_47 rfl (lv_at hl 0 rfl) ?_
  refine lv_iconst (v := 0) hx hb dX0_init_48 (by decide) ?_
  refine va_put (D := (dC, dI)) (ci := 0) (v := .int 0) (ty := .boolean) (C := RX0) (T := TX0) (N := 11) hx hb hg inG_X0 tyX0 tyX0_ok nmX0 hown hK hP hD hS 0 rfl rfl 10 (by decide) (hg (.fieldLink RX0 37 "AttributeDesk$ExpressionReader" "isComplete" "Z") gw_1_214) (fun _ h9 => h9) rfl (by decide +kernel) rfl rfl (Nat.le_of_ble_eq_true rfl) dX0_init_49 (fun H locs hP hD hS => ?_)
  have hP : va_P (dC, dI) vwCl [(h0, .inr (0, [vN, vN, vI0, vI0, vI0, vI0, vI0, .ref q32, vI0, vI0, vI0])), rz q32 cq32 40] H := hP
  have hD : va_D A [(h0, .inr (0, [vN, vN, vI0, vI0, vI0, vI0, vI0, .ref q32, vI0, vI0, vI0])), rz q32 cq32 40] := hD
  refine lv_aload_n hx hb dX0_init_52 rfl (lv_at hl 0 rfl) ?_
  refine lv_aload_n hx hb dX0_init_53 rfl (lv_at hl 1 rfl) ?_
  refine va_putF (D := (dC, dI)) (ci := 0) (v := .ref a1) (ty := .object "AttributeDesk$Tokens") (C := RX0) (T := TX0) (N := 11) hx hb hg inG_X0 tyX0 tyX0_ok nmX0 hown hK hP hD hS 0 rfl rfl 0 (by decide) (hg (.fieldLink RX0 41 "AttributeDesk$ExpressionReader" "tokens" "LAttributeDesk$Tokens;") gw_1_204) (fun _ h9 => h9) rfl hin rfl (by decide +kernel) rfl rfl (Nat.le_of_ble_eq_true rfl) dX0_init_54 (fun H locs hP hD hS => ?_)
  have hP : va_P (dC, dI) vwCl [(h0, .inr (0, [.ref a1, vN, vI0, vI0, vI0, vI0, vI0, .ref q32, vI0, vI0, vI0])), rz q32 cq32 40] H := hP
  have hD : va_D A [(h0, .inr (0, [.ref a1, vN, vI0, vI0, vI0, vI0, vI0, .ref q32, vI0, vI0, vI0])), rz q32 cq32 40] := hD
  refine lv_aload_n hx hb dX0_init_57 rfl (lv_at hl 0 rfl) ?_
  refine lv_aload_n hx hb dX0_init_58 rfl (lv_at hl 2 rfl) ?_
  refine va_put (D := (dC, dI)) (ci := 0) (v := .ref a2) (ty := .object "AttributeDesk$Grammar") (C := RX0) (T := TX0) (N := 11) hx hb hg inG_X0 tyX0 tyX0_ok nmX0 hown hK hP hD hS 0 rfl rfl 1 (by decide) (hg (.fieldLink RX0 45 "AttributeDesk$ExpressionReader" "grammar" "LAttributeDesk$Grammar;") gw_1_205) (fun _ h9 => h9) rfl (by decide +kernel) rfl rfl (Nat.le_of_ble_eq_true rfl) dX0_init_59 (fun H locs hP hD hS => ?_)
  have hP : va_P (dC, dI) vwCl [(h0, .inr (0, [.ref a1, .ref a2, vI0, vI0, vI0, vI0, vI0, .ref q32, vI0, vI0, vI0])), rz q32 cq32 40] H := hP
  have hD : va_D A [(h0, .inr (0, [.ref a1, .ref a2, vI0, vI0, vI0, vI0, vI0, .ref q32, vI0, vI0, vI0])), rz q32 cq32 40] := hD
  have hP9 := hP.sub (ws' := [(h0, .inr (0, [.ref a1, .ref a2, vI0, vI0, vI0, vI0, vI0, .ref q32, vI0, vI0, vI0])), rz q32 cq32 40]) [0, 1] rfl
  have hD9 := hD.sub (ws' := [(h0, .inr (0, [.ref a1, .ref a2, vI0, vI0, vI0, vI0, vI0, .ref q32, vI0, vI0, vI0])), rz q32 cq32 40]) [0, 1] (by decide +kernel) rfl
  have hK9 := hK.sub (tys' := [(cq32, .int)]) [0] rfl
  refine W.widen (k := 1) (n := 40) (Nat.le_of_ble_eq_true rfl) (Nat.le_of_ble_eq_true rfl) ?_
  exact W.vret hx hb hr (fun t ht hW => ⟨⟨(), rfl, trivial, q32, cq32, by rw [ht]; exact hP9, va_K.moved hW.alike hK9, hD9⟩, hS.F ht⟩) hS.2.2 dX0_init_62

set_option maxHeartbeats 4000000 in
set_option maxRecDepth 100000 in
theorem c_X2_init (l : Launch) (dC : Nat → ClassId) (dI : Nat → Nat → Nat) (h0 a1 a2 : Nat) (sz : Nat) : Met l yX2_init wyX2_init ({ frames := 2, cells := 2, slots := 51, locals := 34 }) (va_Pc [.ref h0, .ref a1, .ref a2] (fun U => U.heap.size = sz ∧ va_P (dC, dI) vwCl [(h0, .inr (2, [vN, vN, vN, vI0, vI0, vI0, vI0]))] U.heap ∧ va_K (dC, dI) vwCl [] U ∧ va_D (fun _ => True) [(h0, .inr (2, [vN, vN, vN, vI0, vI0, vI0, vI0]))])) (va_Qv (fun _ : Unit => True) (fun _ t => ∃ (e0 : Nat), ∃ (e1 : Nat), ∃ (e2 : ClassId), va_P (dC, dI) vwCl [(h0, .inr (2, [.ref a1, .ref e0, .ref a2, vI0, vI0, vI0, vI0])), (e0, .inr (0, [.ref a1, .ref a2, vI0, vI0, vI0, vI0, vI0, .ref e1, vI0, vI0, vI0])), rz e1 e2 40] t.heap ∧ va_K (dC, dI) vwCl [(e2, .int)] t ∧ va_D (va_A [(h0, .inr (2, [vN, vN, vN, vI0, vI0, vI0, vI0]))] sz) [(h0, .inr (2, [.ref a1, .ref e0, .ref a2, vI0, vI0, vI0, vI0])), (e0, .inr (0, [.ref a1, .ref a2, vI0, vI0, vI0, vI0, vI0, .ref e1, vI0, vI0, vI0])), rz e1 e2 40]) (va_A [(h0, .inr (2, [vN, vN, vN, vI0, vI0, vI0, vI0]))] sz)) 2 51 (va_A [(h0, .inr (2, [vN, vN, vN, vI0, vI0, vI0, vI0]))] sz) := by
  refine Met.ofW (cc := cX2_init) (maxL := 3) (ret := none) (by decide) rfl ?_
  intro p e s m args below meth c s₁ B hml hv
  obtain ⟨rfl, hsz, hP, hK, hD0⟩ := hv
  have hx := B.exec
  have hb := B.bytes
  have hr := B.returns
  have hts := atoms_spec (ws := wyX2_init) B.pre
  have hg : ∀ w ∈ lw_G, w.before _ s = true := fun w h => hts w (List.mem_cons_of_mem _ h)
  have hown : s.vm.findClass RX2 = some m.cls := findClass_of_methodNamed B.named
  have hlocks := B.notSynchronized
  have hin : meth.name = "<init>" := (name_of_methodNamed B.named B.method).1
  subst hsz
  have hD := hD0.self (sz := s.heap.size)
  generalize hAe : va_A [(h0, .inr (2, [vN, vN, vN, vI0, vI0, vI0, vI0]))] s.heap.size = A at hD ⊢
  have hA : ∀ q : Nat, s.heap.size ≤ q → A q := fun q h => by rw [← hAe]; exact Or.inr h
  have hS : va_S A s.heap s.heap [] := va_S.rf
  have hP : va_P (dC, dI) vwCl [(h0, .inr (2, [vN, vN, vN, vI0, vI0, vI0, vI0]))] s.heap := hP
  have hl := lv_entry ([.ref h0, .ref a1, .ref a2]) (n := 3) (Nat.le_of_ble_eq_true rfl)
  rw [lg_entry_eq]
  generalize (lg_sl ([.ref h0, .ref a1, .ref a2]) ++ List.replicate (3 - (lg_sl ([.ref h0, .ref a1, .ref a2])).length) Slot.unset).toArray = ls at hl ⊢
  have hl : lv_has ls 3 [(0, .ref h0), (1, .ref a1), (2, .ref a2)] := hl
  refine lv_aload_n hx hb dX2_init_0 rfl (lv_at hl 0 rfl) ?_
  refine W.objInit hx hb hown (hg (.methodLink RX2 3 objectInit) gw_1_197) (hg (.instanceMethod objectInit) gw_1_18) (hg (.code objectInit ⟨#[0xb1]⟩ 1 none) gw_1_19) rfl (by rw [hml]; exact hl.1) rfl dX2_init_1 (Nat.le_of_ble_eq_true rfl) (Nat.le_of_ble_eq_true rfl) ?_
  refine W.eq (g2 := F0 m 4 ls []) rfl ?_
  refine lv_aload_n hx hb dX2_init_4 rfl (lv_at hl 0 rfl) ?_
  refine lv_iconst (v := 0) hx hb dX2_init_5 (by decide) ?_
  refine va_put (D := (dC, dI)) (ci := 2) (v := .int 0) (ty := .int) (C := RX2) (T := TX2) (N := 7) hx hb hg inG_X2 tyX2 tyX2_ok nmX2 hown hK hP hD hS 0 rfl rfl 3 (by decide) (hg (.fieldLink RX2 11 "AttributeDesk$GrammarReader" "state" "I") gw_2_2) (fun _ h9 => h9) rfl (by decide +kernel) rfl rfl (Nat.le_of_ble_eq_true rfl) dX2_init_6 (fun H locs hP hD hS => ?_)
  have hP : va_P (dC, dI) vwCl [(h0, .inr (2, [vN, vN, vN, vI0, vI0, vI0, vI0]))] H := hP
  have hD : va_D A [(h0, .inr (2, [vN, vN, vN, vI0, vI0, vI0, vI0]))] := hD
  refine lv_aload_n hx hb dX2_init_9 rfl (lv_at hl 0 rfl) ?_
  refine lv_iconst (v := 0) hx hb dX2_init_10 (by decide) ?_
  refine va_put (D := (dC, dI)) (ci := 2) (v := .int 0) (ty := .boolean) (C := RX2) (T := TX2) (N := 7) hx hb hg inG_X2 tyX2 tyX2_ok nmX2 hown hK hP hD hS 0 rfl rfl 4 (by decide) (hg (.fieldLink RX2 15 "AttributeDesk$GrammarReader" "readsInherited" "Z") gw_2_3) (fun _ h9 => h9) rfl (by decide +kernel) rfl rfl (Nat.le_of_ble_eq_true rfl) dX2_init_11 (fun H locs hP hD hS => ?_)
  have hP : va_P (dC, dI) vwCl [(h0, .inr (2, [vN, vN, vN, vI0, vI0, vI0, vI0]))] H := hP
  have hD : va_D A [(h0, .inr (2, [vN, vN, vN, vI0, vI0, vI0, vI0]))] := hD
  refine lv_aload_n hx hb dX2_init_14 rfl (lv_at hl 0 rfl) ?_
  refine lv_iconst (v := 0) hx hb dX2_init_15 (by decide) ?_
  refine va_put (D := (dC, dI)) (ci := 2) (v := .int 0) (ty := .int) (C := RX2) (T := TX2) (N := 7) hx hb hg inG_X2 tyX2 tyX2_ok nmX2 hown hK hP hD hS 0 rfl rfl 5 (by decide) (hg (.fieldLink RX2 19 "AttributeDesk$GrammarReader" "targetPlace" "I") gw_2_4) (fun _ h9 => h9) rfl (by decide +kernel) rfl rfl (Nat.le_of_ble_eq_true rfl) dX2_init_16 (fun H locs hP hD hS => ?_)
  have hP : va_P (dC, dI) vwCl [(h0, .inr (2, [vN, vN, vN, vI0, vI0, vI0, vI0]))] H := hP
  have hD : va_D A [(h0, .inr (2, [vN, vN, vN, vI0, vI0, vI0, vI0]))] := hD
  refine lv_aload_n hx hb dX2_init_19 rfl (lv_at hl 0 rfl) ?_
  refine lv_iconst (v := 0) hx hb dX2_init_20 (by decide) ?_
  refine va_put (D := (dC, dI)) (ci := 2) (v := .int 0) (ty := .int) (C := RX2) (T := TX2) (N := 7) hx hb hg inG_X2 tyX2 tyX2_ok nmX2 hown hK hP hD hS 0 rfl rfl 6 (by decide) (hg (.fieldLink RX2 22 "AttributeDesk$GrammarReader" "targetSpot" "I") gw_2_5) (fun _ h9 => h9) rfl (by decide +kernel) rfl rfl (Nat.le_of_ble_eq_true rfl) dX2_init_21 (fun H locs hP hD hS => ?_)
  have hP : va_P (dC, dI) vwCl [(h0, .inr (2, [vN, vN, vN, vI0, vI0, vI0, vI0]))] H := hP
  have hD : va_D A [(h0, .inr (2, [vN, vN, vN, vI0, vI0, vI0, vI0]))] := hD
  refine lv_aload_n hx hb dX2_init_24 rfl (lv_at hl 0 rfl) ?_
  refine lv_aload_n hx hb dX2_init_25 rfl (lv_at hl 1 rfl) ?_
  refine va_putF (D := (dC, dI)) (ci := 2) (v := .ref a1) (ty := .object "AttributeDesk$Tokens") (C := RX2) (T := TX2) (N := 7) hx hb hg inG_X2 tyX2 tyX2_ok nmX2 hown hK hP hD hS 0 rfl rfl 0 (by decide) (hg (.fieldLink RX2 25 "AttributeDesk$GrammarReader" "tokens" "LAttributeDesk$Tokens;") gw_1_239) (fun _ h9 => h9) rfl hin rfl (by decide +kernel) rfl rfl (Nat.le_of_ble_eq_true rfl) dX2_init_26 (fun H locs hP hD hS => ?_)
  have hP : va_P (dC, dI) vwCl [(h0, .inr (2, [.ref a1, vN, vN, vI0, vI0, vI0, vI0]))] H := hP
  have hD : va_D A [(h0, .inr (2, [.ref a1, vN, vN, vI0, vI0, vI0, vI0]))] := hD
  refine lv_aload_n hx hb dX2_init_29 rfl (lv_at hl 0 rfl) ?_
  refine lv_aload_n hx hb dX2_init_30 rfl (lv_at hl 2 rfl) ?_
  refine va_put (D := (dC, dI)) (ci := 2) (v := .ref a2) (ty := .object "AttributeDesk$Grammar") (C := RX2) (T := TX2) (N := 7) hx hb hg inG_X2 tyX2 tyX2_ok nmX2 hown hK hP hD hS 0 rfl rfl 2 (by decide) (hg (.fieldLink RX2 29 "AttributeDesk$GrammarReader" "grammar" "LAttributeDesk$Grammar;") gw_2_1) (fun _ h9 => h9) rfl (by decide +kernel) rfl rfl (Nat.le_of_ble_eq_true rfl) dX2_init_31 (fun H locs hP hD hS => ?_)
  have hP : va_P (dC, dI) vwCl [(h0, .inr (2, [.ref a1, vN, .ref a2, vI0, vI0, vI0, vI0]))] H := hP
  have hD : va_D A [(h0, .inr (2, [.ref a1, vN, .ref a2, vI0, vI0, vI0, vI0]))] := hD
  refine lv_aload_n hx hb dX2_init_34 rfl (lv_at hl 0 rfl) ?_
  refine va_new (ci := 0) (fs := [.null, .null, .int 0, .int 0, .int 0, .int 0, .int 0, .null, .int 0, .int 0, .int 0]) (C := RX0) (T := TX0) (N := 11) hx hb hg inG_X0 tyX0 tyX0_ok hown (hg (.classLink RX2 33 RX0) gw_1_198) (hg (.instantiable RX0 11) gw_1_199) (hg (.initialized RX0) gw_1_6) hK hP hD hS hA rfl (dflX0) (Nat.le_of_ble_eq_true rfl) (Nat.le_of_ble_eq_true rfl) dX2_init_35 (fun q35 H hP hD hS => ?_)
  have hP : va_P (dC, dI) vwCl [(h0, .inr (2, [.ref a1, vN, .ref a2, vI0, vI0, vI0, vI0])), (q35, .inr (0, [vN, vN, vI0, vI0, vI0, vI0, vI0, vN, vI0, vI0, vI0]))] H := hP
  have hD : va_D A [(h0, .inr (2, [.ref a1, vN, .ref a2, vI0, vI0, vI0, vI0])), (q35, .inr (0, [vN, vN, vI0, vI0, vI0, vI0, vI0, vN, vI0, vI0, vI0]))] := hD
  refine W.widen (k := 1) (n := 11) (Nat.le_of_ble_eq_true rfl) (Nat.le_of_ble_eq_true rfl) ?_
  refine lv_dup hx hb dX2_init_38 rfl ?_
  refine lv_aload_n hx hb dX2_init_39 rfl (lv_at hl 1 rfl) ?_
  refine lv_aload_n hx hb dX2_init_40 rfl (lv_at hl 2 rfl) ?_
  have hPc := hP.sub (ws' := [(q35, .inr (0, [vN, vN, vI0, vI0, vI0, vI0, vI0, vN, vI0, vI0, vI0]))]) [1] rfl
  have hDc := hD.sub (ws' := [(q35, .inr (0, [vN, vN, vI0, vI0, vI0, vI0, vI0, vN, vI0, vI0, vI0]))]) [1] (by decide +kernel) rfl
  have hKc := hK.sub (tys' := []) [] rfl
  have hFc := va_free (wc := [(q35, .inr (0, [vN, vN, vI0, vI0, vI0, vI0, vI0, vN, vI0, vI0, vI0]))]) hD hS hA [1] rfl
  refine va_callv (va_runI (As := [.ref a1, .ref a2]) (rest := [.ref q35, .ref h0]) ⟨hx, hb, hml, hown, hg⟩ (c_X0_init l dC dI q35 a1 a2 H.size) (cwI 2 hg gy_X0_init rfl rfl rfl (hg (.initialized RX0) gw_1_6) (hg (.methodLink RX2 35 yX0_init) gw_1_200) (hg (.instanceMethod yX0_init) gw_1_201) rfl (by decide +kernel) ⟨Nat.le_of_ble_eq_true rfl, Nat.le_of_ble_eq_true rfl⟩) ⟨fun a U g mk q => by obtain ⟨q0, q1, qP, qK, qD⟩ := q; exact ⟨q0, q1, qP, va_K.moved (u := U) (U := U.calling g mk a) (Vm.Alike.refl U.vm) qK, qD⟩, fun U hU hW => ⟨rfl, by rw [hU], by rw [hU]; exact hPc, va_K.moved hW.alike hKc, hDc.weaken (fun _ _ _ _ => trivial)⟩⟩ rfl rfl hl.1 rfl (lv_room (Nat.le_of_ble_eq_true rfl)) dX2_init_41 ⟨Nat.le_of_ble_eq_true rfl, Nat.le_of_ble_eq_true rfl⟩) hS (fun q _ h => hFc q h) hFc (fun u2 t H1 locs ht hvm hw2 hB hz1 hk1 hS => ?_)
  obtain ⟨e0_3, e1_4, hP1, hK1, hD1⟩ := hB
  rw [ht] at hP1
  have hK1 := va_K.moved hvm.symm hK1
  obtain ⟨hP, hD⟩ := va_join (wr := [(h0, .inr (2, [.ref a1, vN, .ref a2, vI0, vI0, vI0, vI0]))]) (w1 := [(q35, .inr (0, [.ref a1, .ref a2, vI0, vI0, vI0, vI0, vI0, .ref e0_3, vI0, vI0, vI0])), rz e0_3 e1_4 40]) hP hD [1] [0] rfl rfl (by decide +kernel) (by decide +kernel) hk1 hFc hP1 hD1
  have hK := (hK.sub (tys' := []) [] rfl).app hK1
  generalize H1 = H at hP hS ⊢
  have hP : va_P (dC, dI) vwCl [(h0, .inr (2, [.ref a1, vN, .ref a2, vI0, vI0, vI0, vI0])), (q35, .inr (0, [.ref a1, .ref a2, vI0, vI0, vI0, vI0, vI0, .ref e0_3, vI0, vI0, vI0])), rz e0_3 e1_4 40] H := hP
  have hD : va_D A [(h0, .inr (2, [.ref a1, vN, .ref a2, vI0, vI0, vI0, vI0])), (q35, .inr (0, [.ref a1, .ref a2, vI0, vI0, vI0, vI0, vI0, .ref e0_3, vI0, vI0, vI0])), rz e0_3 e1_4 40] := hD
  have hK : va_K (dC, dI) vwCl [(e1_4, .int)] s := hK
  refine W.widen (k := 2) (n := 51) (Nat.le_of_ble_eq_true rfl) (Nat.le_of_ble_eq_true rfl) ?_
  refine va_putF (D := (dC, dI)) (ci := 2) (v := .ref q35) (ty := .object "AttributeDesk$ExpressionReader") (C := RX2) (T := TX2) (N := 7) hx hb hg inG_X2 tyX2 tyX2_ok nmX2 hown hK hP hD hS 0 rfl rfl 1 (by decide) (hg (.fieldLink RX2 38 "AttributeDesk$GrammarReader" "expression" "LAttributeDesk$ExpressionReader;") gw_2_0) (fun _ h9 => h9) rfl hin rfl (by decide +kernel) rfl rfl (Nat.le_of_ble_eq_true rfl) dX2_init_44 (fun H locs hP hD hS => ?_)
  have hP : va_P (dC, dI) vwCl [(h0, .inr (2, [.ref a1, .ref q35, .ref a2, vI0, vI0, vI0, vI0])), (q35, .inr (0, [.ref a1, .ref a2, vI0, vI0, vI0, vI0, vI0, .ref e0_3, vI0, vI0, vI0])), rz e0_3 e1_4 40] H := hP
  have hD : va_D A [(h0, .inr (2, [.ref a1, .ref q35, .ref a2, vI0, vI0, vI0, vI0])), (q35, .inr (0, [.ref a1, .ref a2, vI0, vI0, vI0, vI0, vI0, .ref e0_3, vI0, vI0, vI0])), rz e0_3 e1_4 40] := hD
  have hP9 := hP.sub (ws' := [(h0, .inr (2, [.ref a1, .ref q35, .ref a2, vI0, vI0, vI0, vI0])), (q35, .inr (0, [.ref a1, .ref a2, vI0, vI0, vI0, vI0, vI0, .ref e0_3, vI0, vI0, vI0])), rz e0_3 e1_4 40]) [0, 1, 2] rfl
  have hD9 := hD.sub (ws' := [(h0, .inr (2, [.ref a1, .ref q35, .ref a2, vI0, vI0, vI0, vI0])), (q35, .inr (0, [.ref a1, .ref a2, vI0, vI0, vI0, vI0, vI0, .ref e0_3, vI0, vI0, vI0])), rz e0_3 e1_4 40]) [0, 1, 2] (by decide +kernel) rfl
  have hK9 := hK.sub (tys' := [(e1_4, .int)]) [0] rfl
  refine W.widen (k := 2) (n := 51) (Nat.le_of_ble_eq_true rfl) (Nat.le_of_ble_eq_true rfl) ?_
  exact W.vret hx hb hr (fun t ht hW => ⟨⟨(), rfl, trivial, q35, e0_3, e1_4, by rw [ht]; exact hP9, va_K.moved hW.alike hK9, hD9⟩, hS.F ht⟩) hS.2.2 dX2_init_47

set_option maxHeartbeats 4000000 in
set_option maxRecDepth 100000 in
theorem c_X5_init (l : Launch) (dC : Nat → ClassId) (dI : Nat → Nat → Nat) (h0 a1 a2 a3 : Nat) (sz : Nat) : Met l yX5_init wyX5_init ({ frames := 1, cells := 1, slots := 200, locals := 12 }) (va_Pc [.ref h0, .ref a1, .ref a2, .ref a3] (fun U => U.heap.size = sz ∧ va_P (dC, dI) vwCl [(h0, .inr (5, [vN, vN, vN, vI0, vI0, vI0, vN]))] U.heap ∧ va_K (dC, dI) vwCl [] U ∧ va_D (fun _ => True) [(h0, .inr (5, [vN, vN, vN, vI0, vI0, vI0, vN]))])) (va_Qv (fun _ : Unit => True) (fun _ t => ∃ (e0 : Nat), ∃ (e1 : ClassId), va_P (dC, dI) vwCl [(h0, .inr (5, [.ref a1, .ref a2, .ref a3, vI0, .int (-1), vI0, .ref e0])), rz e0 e1 200] t.heap ∧ va_K (dC, dI) vwCl [(e1, .int)] t ∧ va_D (va_A [(h0, .inr (5, [vN, vN, vN, vI0, vI0, vI0, vN]))] sz) [(h0, .inr (5, [.ref a1, .ref a2, .ref a3, vI0, .int (-1), vI0, .ref e0])), rz e0 e1 200]) (va_A [(h0, .inr (5, [vN, vN, vN, vI0, vI0, vI0, vN]))] sz)) 1 200 (va_A [(h0, .inr (5, [vN, vN, vN, vI0, vI0, vI0, vN]))] sz) := by
  refine Met.ofW (cc := cX5_init) (maxL := 4) (ret := none) (by decide) rfl ?_
  intro p e s m args below meth c s₁ B hml hv
  obtain ⟨rfl, hsz, hP, hK, hD0⟩ := hv
  have hx := B.exec
  have hb := B.bytes
  have hr := B.returns
  have hts := atoms_spec (ws := wyX5_init) B.pre
  have hg : ∀ w ∈ lw_G, w.before _ s = true := fun w h => hts w (List.mem_cons_of_mem _ h)
  have hown : s.vm.findClass RX5 = some m.cls := findClass_of_methodNamed B.named
  have hlocks := B.notSynchronized
  have hin : meth.name = "<init>" := (name_of_methodNamed B.named B.method).1
  subst hsz
  have hD := hD0.self (sz := s.heap.size)
  generalize hAe : va_A [(h0, .inr (5, [vN, vN, vN, vI0, vI0, vI0, vN]))] s.heap.size = A at hD ⊢
  have hA : ∀ q : Nat, s.heap.size ≤ q → A q := fun q h => by rw [← hAe]; exact Or.inr h
  have hS : va_S A s.heap s.heap [] := va_S.rf
  have hP : va_P (dC, dI) vwCl [(h0, .inr (5, [vN, vN, vN, vI0, vI0, vI0, vN]))] s.heap := hP
  have hl := lv_entry ([.ref h0, .ref a1, .ref a2, .ref a3]) (n := 4) (Nat.le_of_ble_eq_true rfl)
  rw [lg_entry_eq]
  generalize (lg_sl ([.ref h0, .ref a1, .ref a2, .ref a3]) ++ List.replicate (4 - (lg_sl ([.ref h0, .ref a1, .ref a2, .ref a3])).length) Slot.unset).toArray = ls at hl ⊢
  have hl : lv_has ls 4 [(0, .ref h0), (1, .ref a1), (2, .ref a2), (3, .ref a3)] := hl
  refine lv_aload_n hx hb dX5_init_0 rfl (lv_at hl 0 rfl) ?_
  refine W.objInit hx hb hown (hg (.methodLink RX5 3 objectInit) gw_2_26) (hg (.instanceMethod objectInit) gw_1_18) (hg (.code objectInit ⟨#[0xb1]⟩ 1 none) gw_1_19) rfl (by rw [hml]; exact hl.1) rfl dX5_init_1 (Nat.le_of_ble_eq_true rfl) (Nat.le_of_ble_eq_true rfl) ?_
  refine W.eq (g2 := F0 m 4 ls []) rfl ?_
  refine lv_aload_n hx hb dX5_init_4 rfl (lv_at hl 0 rfl) ?_
  refine lv_iconst (v := 0) hx hb dX5_init_5 (by decide) ?_
  refine va_put (D := (dC, dI)) (ci := 5) (v := .int 0) (ty := .int) (C := RX5) (T := TX5) (N := 7) hx hb hg inG_X5 tyX5 tyX5_ok nmX5 hown hK hP hD hS 0 rfl rfl 3 (by decide) (hg (.fieldLink RX5 11 "AttributeDesk$TreeReader" "state" "I") gw_2_30) (fun _ h9 => h9) rfl (by decide +kernel) rfl rfl (Nat.le_of_ble_eq_true rfl) dX5_init_6 (fun H locs hP hD hS => ?_)
  have hP : va_P (dC, dI) vwCl [(h0, .inr (5, [vN, vN, vN, vI0, vI0, vI0, vN]))] H := hP
  have hD : va_D A [(h0, .inr (5, [vN, vN, vN, vI0, vI0, vI0, vN]))] := hD
  refine lv_aload_n hx hb dX5_init_9 rfl (lv_at hl 0 rfl) ?_
  refine lv_iconst (v := (-1)) hx hb dX5_init_10 (by decide) ?_
  refine va_put (D := (dC, dI)) (ci := 5) (v := .int (-1)) (ty := .int) (C := RX5) (T := TX5) (N := 7) hx hb hg inG_X5 tyX5 tyX5_ok nmX5 hown hK hP hD hS 0 rfl rfl 4 (by decide) (hg (.fieldLink RX5 15 "AttributeDesk$TreeReader" "here" "I") gw_2_31) (fun _ h9 => h9) rfl (by decide +kernel) rfl rfl (Nat.le_of_ble_eq_true rfl) dX5_init_11 (fun H locs hP hD hS => ?_)
  have hP : va_P (dC, dI) vwCl [(h0, .inr (5, [vN, vN, vN, vI0, .int (-1), vI0, vN]))] H := hP
  have hD : va_D A [(h0, .inr (5, [vN, vN, vN, vI0, .int (-1), vI0, vN]))] := hD
  refine lv_aload_n hx hb dX5_init_14 rfl (lv_at hl 0 rfl) ?_
  refine lv_iconst (v := 0) hx hb dX5_init_15 (by decide) ?_
  refine va_put (D := (dC, dI)) (ci := 5) (v := .int 0) (ty := .int) (C := RX5) (T := TX5) (N := 7) hx hb hg inG_X5 tyX5 tyX5_ok nmX5 hown hK hP hD hS 0 rfl rfl 5 (by decide) (hg (.fieldLink RX5 18 "AttributeDesk$TreeReader" "depth" "I") gw_2_32) (fun _ h9 => h9) rfl (by decide +kernel) rfl rfl (Nat.le_of_ble_eq_true rfl) dX5_init_16 (fun H locs hP hD hS => ?_)
  have hP : va_P (dC, dI) vwCl [(h0, .inr (5, [vN, vN, vN, vI0, .int (-1), vI0, vN]))] H := hP
  have hD : va_D A [(h0, .inr (5, [vN, vN, vN, vI0, .int (-1), vI0, vN]))] := hD
  refine lv_aload_n hx hb dX5_init_19 rfl (lv_at hl 0 rfl) ?_
  refine lv_sipush (v := 200) hx hb dX5_init_20 (by decide) ?_
  refine va_newa (atype := .int) (a0 := (200, .inl (fun _ => 0))) hx hb (hg (.arrayClass .int) gw_1_112) rfl hK hP hD hS hA (fun _ => rfl) (by decide) (N' := 200) rfl (Nat.le_of_ble_eq_true rfl) (Nat.le_of_ble_eq_true rfl) (Nat.le_of_ble_eq_true rfl) dX5_init_23 (fun q23 cq23 H hK hP hD hS => ?_)
  have hK : va_K (dC, dI) vwCl [(cq23, .int)] s := hK
  have hP : va_P (dC, dI) vwCl [(h0, .inr (5, [vN, vN, vN, vI0, .int (-1), vI0, vN])), rz q23 cq23 200] H := hP
  have hD : va_D A [(h0, .inr (5, [vN, vN, vN, vI0, .int (-1), vI0, vN])), rz q23 cq23 200] := hD
  refine W.widen (k := 1) (n := 200) (Nat.le_of_ble_eq_true rfl) (Nat.le_of_ble_eq_true rfl) ?_
  refine va_putF (D := (dC, dI)) (ci := 5) (v := .ref q23) (ty := .array .int) (C := RX5) (T := TX5) (N := 7) hx hb hg inG_X5 tyX5 tyX5_ok nmX5 hown hK hP hD hS 0 rfl rfl 6 (by decide) (hg (.fieldLink RX5 21 "AttributeDesk$TreeReader" "filled" "[I") gw_2_33) (fun _ h9 => h9) rfl hin rfl (by decide +kernel) rfl rfl (Nat.le_of_ble_eq_true rfl) dX5_init_25 (fun H locs hP hD hS => ?_)
  have hP : va_P (dC, dI) vwCl [(h0, .inr (5, [vN, vN, vN, vI0, .int (-1), vI0, .ref q23])), rz q23 cq23 200] H := hP
  have hD : va_D A [(h0, .inr (5, [vN, vN, vN, vI0, .int (-1), vI0, .ref q23])), rz q23 cq23 200] := hD
  refine lv_aload_n hx hb dX5_init_28 rfl (lv_at hl 0 rfl) ?_
  refine lv_aload_n hx hb dX5_init_29 rfl (lv_at hl 1 rfl) ?_
  refine va_putF (D := (dC, dI)) (ci := 5) (v := .ref a1) (ty := .object "AttributeDesk$Tokens") (C := RX5) (T := TX5) (N := 7) hx hb hg inG_X5 tyX5 tyX5_ok nmX5 hown hK hP hD hS 0 rfl rfl 0 (by decide) (hg (.fieldLink RX5 25 "AttributeDesk$TreeReader" "tokens" "LAttributeDesk$Tokens;") gw_2_27) (fun _ h9 => h9) rfl hin rfl (by decide +kernel) rfl rfl (Nat.le_of_ble_eq_true rfl) dX5_init_30 (fun H locs hP hD hS => ?_)
  have hP : va_P (dC, dI) vwCl [(h0, .inr (5, [.ref a1, vN, vN, vI0, .int (-1), vI0, .ref q23])), rz q23 cq23 200] H := hP
  have hD : va_D A [(h0, .inr (5, [.ref a1, vN, vN, vI0, .int (-1), vI0, .ref q23])), rz q23 cq23 200] := hD
  refine lv_aload_n hx hb dX5_init_33 rfl (lv_at hl 0 rfl) ?_
  refine lv_aload_n hx hb dX5_init_34 rfl (lv_at hl 2 rfl) ?_
  refine va_put (D := (dC, dI)) (ci := 5) (v := .ref a2) (ty := .object "AttributeDesk$Grammar") (C := RX5) (T := TX5) (N := 7) hx hb hg inG_X5 tyX5 tyX5_ok nmX5 hown hK hP hD hS 0 rfl rfl 1 (by decide) (hg (.fieldLink RX5 29 "AttributeDesk$TreeReader" "grammar" "LAttributeDesk$Grammar;") gw_2_28) (fun _ h9 => h9) rfl (by decide +kernel) rfl rfl (Nat.le_of_ble_eq_true rfl) dX5_init_35 (fun H locs hP hD hS => ?_)
  have hP : va_P (dC, dI) vwCl [(h0, .inr (5, [.ref a1, .ref a2, vN, vI0, .int (-1), vI0, .ref q23])), rz q23 cq23 200] H := hP
  have hD : va_D A [(h0, .inr (5, [.ref a1, .ref a2, vN, vI0, .int (-1), vI0, .ref q23])), rz q23 cq23 200] := hD
  refine lv_aload_n hx hb dX5_init_38 rfl (lv_at hl 0 rfl) ?_
  refine lv_aload_n hx hb dX5_init_39 rfl (lv_at hl 3 rfl) ?_
  refine va_put (D := (dC, dI)) (ci := 5) (v := .ref a3) (ty := .object "AttributeDesk$Tree") (C := RX5) (T := TX5) (N := 7) hx hb hg inG_X5 tyX5 tyX5_ok nmX5 hown hK hP hD hS 0 rfl rfl 2 (by decide) (hg (.fieldLink RX5 33 "AttributeDesk$TreeReader" "tree" "LAttributeDesk$Tree;") gw_2_29) (fun _ h9 => h9) rfl (by decide +kernel) rfl rfl (Nat.le_of_ble_eq_true rfl) dX5_init_40 (fun H locs hP hD hS => ?_)
  have hP : va_P (dC, dI) vwCl [(h0, .inr (5, [.ref a1, .ref a2, .ref a3, vI0, .int (-1), vI0, .ref q23])), rz q23 cq23 200] H := hP
  have hD : va_D A [(h0, .inr (5, [.ref a1, .ref a2, .ref a3, vI0, .int (-1), vI0, .ref q23])), rz q23 cq23 200] := hD
  have hP9 := hP.sub (ws' := [(h0, .inr (5, [.ref a1, .ref a2, .ref a3, vI0, .int (-1), vI0, .ref q23])), rz q23 cq23 200]) [0, 1] rfl
  have hD9 := hD.sub (ws' := [(h0, .inr (5, [.ref a1, .ref a2, .ref a3, vI0, .int (-1), vI0, .ref q23])), rz q23 cq23 200]) [0, 1] (by decide +kernel) rfl
  have hK9 := hK.sub (tys' := [(cq23, .int)]) [0] rfl
  refine W.widen (k := 1) (n := 200) (Nat.le_of_ble_eq_true rfl) (Nat.le_of_ble_eq_true rfl) ?_
  exact W.vret hx hb hr (fun t ht hW => ⟨⟨(), rfl, trivial, q23, cq23, by rw [ht]; exact hP9, va_K.moved hW.alike hK9, hD9⟩, hS.F ht⟩) hS.2.2 dX5_init_43

set_option maxHeartbeats 4000000 in
set_option maxRecDepth 100000 in
theorem c_X6_init (l : Launch) (dC : Nat → ClassId) (dI : Nat → Nat → Nat) (h0 a1 : Nat) (sz : Nat) : Met l yX6_init wyX6_init ({ frames := 1, cells := 13, slots := 12546, locals := 12 }) (va_Pc [.ref h0, .ref a1] (fun U => U.heap.size = sz ∧ va_P (dC, dI) vwCl [(h0, .inr (6, [vN, vN, vI0, vN, vN, vN, vN, vN, vN, vN, vN, vN, vN, vN, vN]))] U.heap ∧ va_K (dC, dI) vwCl [] U ∧ va_D (fun _ => True) [(h0, .inr (6, [vN, vN, vI0, vN, vN, vN, vN, vN, vN, vN, vN, vN, vN, vN, vN]))])) (va_Qv (fun _ : Unit => True) (fun _ t => ∃ (e0 : Nat), ∃ (e1 : Nat), ∃ (e2 : Nat), ∃ (e3 : Nat), ∃ (e4 : Nat), ∃ (e5 : Nat), ∃ (e6 : Nat), ∃ (e7 : Nat), ∃ (e8 : Nat), ∃ (e9 : Nat), ∃ (e10 : Nat), ∃ (e11 : Nat), ∃ (e12 : Nat), ∃ (e13 : ClassId), ∃ (e14 : ClassId), va_P (dC, dI) vwCl [(h0, .inr (6, [.ref e0, .ref e1, vI0, .ref e2, .ref e3, .ref e4, .ref e5, .ref a1, .ref e6, .ref e7, .ref e8, .ref e9, .ref e10, .ref e11, .ref e12])), rz e0 e13 12, rz e1 e14 30, rz e2 e13 6144, rz e3 e13 12, rz e4 e14 30, rz e5 e14 30, rz e6 e14 6144, rz e7 e14 12, rz e8 e14 12, rz e9 e13 24, rz e10 e13 90, rz e11 e13 3, rz e12 e13 3] t.heap ∧ va_K (dC, dI) vwCl [(e13, .int), (e14, .boolean)] t ∧ va_D (va_A [(h0, .inr (6, [vN, vN, vI0, vN, vN, vN, vN, vN, vN, vN, vN, vN, vN, vN, vN]))] sz) [(h0, .inr (6, [.ref e0, .ref e1, vI0, .ref e2, .ref e3, .ref e4, .ref e5, .ref a1, .ref e6, .ref e7, .ref e8, .ref e9, .ref e10, .ref e11, .ref e12])), rz e0 e13 12, rz e1 e14 30, rz e2 e13 6144, rz e3 e13 12, rz e4 e14 30, rz e5 e14 30, rz e6 e14 6144, rz e7 e14 12, rz e8 e14 12, rz e9 e13 24, rz e10 e13 90, rz e11 e13 3, rz e12 e13 3]) (va_A [(h0, .inr (6, [vN, vN, vI0, vN, vN, vN, vN, vN, vN, vN, vN, vN, vN, vN, vN]))] sz)) 13 12546 (va_A [(h0, .inr (6, [vN, vN, vI0, vN, vN, vN, vN, vN, vN, vN, vN, vN, vN, vN, vN]))] sz) := by
  refine Met.ofW (cc := cX6_init) (maxL := 2) (ret := none) (by decide) rfl ?_
  intro p e s m args below meth c s₁ B hml hv
  obtain ⟨rfl, hsz, hP, hK, hD0⟩ := hv
  have hx := B.exec
  have hb := B.bytes
  have hr := B.returns
  have hts := atoms_spec (ws := wyX6_init) B.pre
  have hg : ∀ w ∈ lw_G, w.before _ s = true := fun w h => hts w (List.mem_cons_of_mem _ h)
  have hown : s.vm.findClass RX6 = some m.cls := findClass_of_methodNamed B.named
  have hlocks := B.notSynchronized
  have hin : meth.name = "<init>" := (name_of_methodNamed B.named B.method).1
  subst hsz
  have hD := hD0.self (sz := s.heap.size)
  generalize hAe : va_A [(h0, .inr (6, [vN, vN, vI0, vN, vN, vN, vN, vN, vN, vN, vN, vN, vN, vN, vN]))] s.heap.size = A at hD ⊢
  have hA : ∀ q : Nat, s.heap.size ≤ q → A q := fun q h => by rw [← hAe]; exact Or.inr h
  have hS : va_S A s.heap s.heap [] := va_S.rf
  have hP : va_P (dC, dI) vwCl [(h0, .inr (6, [vN, vN, vI0, vN, vN, vN, vN, vN, vN, vN, vN, vN, vN, vN, vN]))] s.heap := hP
  have hl := lv_entry ([.ref h0, .ref a1]) (n := 2) (Nat.le_of_ble_eq_true rfl)
  rw [lg_entry_eq]
  generalize (lg_sl ([.ref h0, .ref a1]) ++ List.replicate (2 - (lg_sl ([.ref h0, .ref a1])).length) Slot.unset).toArray = ls at hl ⊢
  have hl : lv_has ls 2 [(0, .ref h0), (1, .ref a1)] := hl
  refine lv_aload_n hx hb dX6_init_0 rfl (lv_at hl 0 rfl) ?_
  refine W.objInit hx hb hown (hg (.methodLink RX6 3 objectInit) gw_2_54) (hg (.instanceMethod objectInit) gw_1_18) (hg (.code objectInit ⟨#[0xb1]⟩ 1 none) gw_1_19) rfl (by rw [hml]; exact hl.1) rfl dX6_init_1 (Nat.le_of_ble_eq_true rfl) (Nat.le_of_ble_eq_true rfl) ?_
  refine W.eq (g2 := F0 m 4 ls []) rfl ?_
  refine lv_aload_n hx hb dX6_init_4 rfl (lv_at hl 0 rfl) ?_
  refine lv_bipush (v := 12) hx hb dX6_init_5 (by decide) ?_
  refine va_newa (atype := .int) (a0 := (12, .inl (fun _ => 0))) hx hb (hg (.arrayClass .int) gw_1_112) rfl hK hP hD hS hA (fun _ => rfl) (by decide) (N' := 12) rfl (Nat.le_of_ble_eq_true rfl) (Nat.le_of_ble_eq_true rfl) (Nat.le_of_ble_eq_true rfl) dX6_init_7 (fun q7 cq7 H hK hP hD hS => ?_)
  have hK : va_K (dC, dI) vwCl [(cq7, .int)] s := hK
  have hP : va_P (dC, dI) vwCl [(h0, .inr (6, [vN, vN, vI0, vN, vN, vN, vN, vN, vN, vN, vN, vN, vN, vN, vN])), rz q7 cq7 12] H := hP
  have hD : va_D A [(h0, .inr (6, [vN, vN, vI0, vN, vN, vN, vN, vN, vN, vN, vN, vN, vN, vN, vN])), rz q7 cq7 12] := hD
  refine W.widen (k := 1) (n := 12) (Nat.le_of_ble_eq_true rfl) (Nat.le_of_ble_eq_true rfl) ?_
  refine va_putF (D := (dC, dI)) (ci := 6) (v := .ref q7) (ty := .array .int) (C := RX6) (T := TX6) (N := 15) hx hb hg inG_X6 tyX6 tyX6_ok nmX6 hown hK hP hD hS 0 rfl rfl 0 (by decide) (hg (.fieldLink RX6 9 "AttributeDesk$Ways" "plain" "[I") gw_2_55) (fun _ h9 => h9) rfl hin rfl (by decide +kernel) rfl rfl (Nat.le_of_ble_eq_true rfl) dX6_init_9 (fun H locs hP hD hS => ?_)
  have hP : va_P (dC, dI) vwCl [(h0, .inr (6, [.ref q7, vN, vI0, vN, vN, vN, vN, vN, vN, vN, vN, vN, vN, vN, vN])), rz q7 cq7 12] H := hP
  have hD : va_D A [(h0, .inr (6, [.ref q7, vN, vI0, vN, vN, vN, vN, vN, vN, vN, vN, vN, vN, vN, vN])), rz q7 cq7 12] := hD
  refine lv_aload_n hx hb dX6_init_12 rfl (lv_at hl 0 rfl) ?_
  refine lv_bipush (v := 30) hx hb dX6_init_13 (by decide) ?_
  refine va_newa (atype := .boolean) (a0 := (30, .inl (fun _ => 0))) hx hb (hg (.arrayClass .boolean) gw_1_113) rfl hK hP hD hS hA (fun _ => rfl) (by decide) (N' := 30) rfl (Nat.le_of_ble_eq_true rfl) (Nat.le_of_ble_eq_true rfl) (Nat.le_of_ble_eq_true rfl) dX6_init_15 (fun q15 cq15 H hK hP hD hS => ?_)
  have hK : va_K (dC, dI) vwCl [(cq7, .int), (cq15, .boolean)] s := hK
  have hP : va_P (dC, dI) vwCl [(h0, .inr (6, [.ref q7, vN, vI0, vN, vN, vN, vN, vN, vN, vN, vN, vN, vN, vN, vN])), rz q7 cq7 12, rz q15 cq15 30] H := hP
  have hD : va_D A [(h0, .inr (6, [.ref q7, vN, vI0, vN, vN, vN, vN, vN, vN, vN, vN, vN, vN, vN, vN])), rz q7 cq7 12, rz q15 cq15 30] := hD
  refine W.widen (k := 2) (n := 42) (Nat.le_of_ble_eq_true rfl) (Nat.le_of_ble_eq_true rfl) ?_
  refine va_putF (D := (dC, dI)) (ci := 6) (v := .ref q15) (ty := .array .boolean) (C := RX6) (T := TX6) (N := 15) hx hb hg inG_X6 tyX6 tyX6_ok nmX6 hown hK hP hD hS 0 rfl rfl 1 (by decide) (hg (.fieldLink RX6 15 "AttributeDesk$Ways" "plainRound" "[Z") gw_2_57) (fun _ h9 => h9) rfl hin rfl (by decide +kernel) rfl rfl (Nat.le_of_ble_eq_true rfl) dX6_init_17 (fun H locs hP hD hS => ?_)
  have hP : va_P (dC, dI) vwCl [(h0, .inr (6, [.ref q7, .ref q15, vI0, vN, vN, vN, vN, vN, vN, vN, vN, vN, vN, vN, vN])), rz q7 cq7 12, rz q15 cq15 30] H := hP
  have hD : va_D A [(h0, .inr (6, [.ref q7, .ref q15, vI0, vN, vN, vN, vN, vN, vN, vN, vN, vN, vN, vN, vN])), rz q7 cq7 12, rz q15 cq15 30] := hD
  refine lv_aload_n hx hb dX6_init_20 rfl (lv_at hl 0 rfl) ?_
  refine lv_iconst (v := 0) hx hb dX6_init_21 (by decide) ?_
  refine va_put (D := (dC, dI)) (ci := 6) (v := .int 0) (ty := .boolean) (C := RX6) (T := TX6) (N := 15) hx hb hg inG_X6 tyX6 tyX6_ok nmX6 hown hK hP hD hS 0 rfl rfl 2 (by decide) (hg (.fieldLink RX6 19 "AttributeDesk$Ways" "tooLarge" "Z") gw_2_59) (fun _ h9 => h9) rfl (by decide +kernel) rfl rfl (Nat.le_of_ble_eq_true rfl) dX6_init_22 (fun H locs hP hD hS => ?_)
  have hP : va_P (dC, dI) vwCl [(h0, .inr (6, [.ref q7, .ref q15, vI0, vN, vN, vN, vN, vN, vN, vN, vN, vN, vN, vN, vN])), rz q7 cq7 12, rz q15 cq15 30] H := hP
  have hD : va_D A [(h0, .inr (6, [.ref q7, .ref q15, vI0, vN, vN, vN, vN, vN, vN, vN, vN, vN, vN, vN, vN])), rz q7 cq7 12, rz q15 cq15 30] := hD
  refine lv_aload_n hx hb dX6_init_25 rfl (lv_at hl 0 rfl) ?_
  refine lv_sipush (v := 6144) hx hb dX6_init_26 (by decide) ?_
  refine va_newa (atype := .int) (a0 := (6144, .inl (fun _ => 0))) hx hb (hg (.arrayClass .int) gw_1_112) rfl hK hP hD hS hA (fun _ => rfl) (by decide) (N' := 6144) rfl (Nat.le_of_ble_eq_true rfl) (Nat.le_of_ble_eq_true rfl) (Nat.le_of_ble_eq_true rfl) dX6_init_29 (fun q29 cq29 H hK hP hD hS => ?_)
  have hK : va_K (dC, dI) vwCl [(cq7, .int), (cq15, .boolean), (cq29, .int)] s := hK
  have hP : va_P (dC, dI) vwCl [(h0, .inr (6, [.ref q7, .ref q15, vI0, vN, vN, vN, vN, vN, vN, vN, vN, vN, vN, vN, vN])), rz q7 cq7 12, rz q15 cq15 30, rz q29 cq29 6144] H := hP
  have hD : va_D A [(h0, .inr (6, [.ref q7, .ref q15, vI0, vN, vN, vN, vN, vN, vN, vN, vN, vN, vN, vN, vN])), rz q7 cq7 12, rz q15 cq15 30, rz q29 cq29 6144] := hD
  refine W.widen (k := 3) (n := 6186) (Nat.le_of_ble_eq_true rfl) (Nat.le_of_ble_eq_true rfl) ?_
  obtain rfl : cq7 = cq29 := va_clsI hK (i := 0) (j := 2) rfl rfl
  have hK := hK.sub (tys' := [(cq7, .int), (cq15, .boolean)]) [0, 1] rfl
  refine va_putF (D := (dC, dI)) (ci := 6) (v := .ref q29) (ty := .array .int) (C := RX6) (T := TX6) (N := 15) hx hb hg inG_X6 tyX6 tyX6_ok nmX6 hown hK hP hD hS 0 rfl rfl 3 (by decide) (hg (.fieldLink RX6 23 "AttributeDesk$Ways" "graphs" "[I") gw_2_61) (fun _ h9 => h9) rfl hin rfl (by decide +kernel) rfl rfl (Nat.le_of_ble_eq_true rfl) dX6_init_31 (fun H locs hP hD hS => ?_)
  have hP : va_P (dC, dI) vwCl [(h0, .inr (6, [.ref q7, .ref q15, vI0, .ref q29, vN, vN, vN, vN, vN, vN, vN, vN, vN, vN, vN])), rz q7 cq7 12, rz q15 cq15 30, rz q29 cq7 6144] H := hP
  have hD : va_D A [(h0, .inr (6, [.ref q7, .ref q15, vI0, .ref q29, vN, vN, vN, vN, vN, vN, vN, vN, vN, vN, vN])), rz q7 cq7 12, rz q15 cq15 30, rz q29 cq7 6144] := hD
  refine lv_aload_n hx hb dX6_init_34 rfl (lv_at hl 0 rfl) ?_
  refine lv_bipush (v := 12) hx hb dX6_init_35 (by decide) ?_
  refine va_newa (atype := .int) (a0 := (12, .inl (fun _ => 0))) hx hb (hg (.arrayClass .int) gw_1_112) rfl hK hP hD hS hA (fun _ => rfl) (by decide) (N' := 12) rfl (Nat.le_of_ble_eq_true rfl) (Nat.le_of_ble_eq_true rfl) (Nat.le_of_ble_eq_true rfl) dX6_init_37 (fun q37 cq37 H hK hP hD hS => ?_)
  have hK : va_K (dC, dI) vwCl [(cq7, .int), (cq15, .boolean), (cq37, .int)] s := hK
  have hP : va_P (dC, dI) vwCl [(h0, .inr (6, [.ref q7, .ref q15, vI0, .ref q29, vN, vN, vN, vN, vN, vN, vN, vN, vN, vN, vN])), rz q7 cq7 12, rz q15 cq15 30, rz q29 cq7 6144, rz q37 cq37 12] H := hP
  have hD : va_D A [(h0, .inr (6, [.ref q7, .ref q15, vI0, .ref q29, vN, vN, vN, vN, vN, vN, vN, vN, vN, vN, vN])), rz q7 cq7 12, rz q15 cq15 30, rz q29 cq7 6144, rz q37 cq37 12] := hD
  refine W.widen (k := 4) (n := 6198) (Nat.le_of_ble_eq_true rfl) (Nat.le_of_ble_eq_true rfl) ?_
  obtain rfl : cq7 = cq37 := va_clsI hK (i := 0) (j := 2) rfl rfl
  have hK := hK.sub (tys' := [(cq7, .int), (cq15, .boolean)]) [0, 1] rfl
  refine va_putF (D := (dC, dI)) (ci := 6) (v := .ref q37) (ty := .array .int) (C := RX6) (T := TX6) (N := 15) hx hb hg inG_X6 tyX6 tyX6_ok nmX6 hown hK hP hD hS 0 rfl rfl 4 (by decide) (hg (.fieldLink RX6 26 "AttributeDesk$Ways" "graphCounts" "[I") gw_2_63) (fun _ h9 => h9) rfl hin rfl (by decide +kernel) rfl rfl (Nat.le_of_ble_eq_true rfl) dX6_init_39 (fun H locs hP hD hS => ?_)
  have hP : va_P (dC, dI) vwCl [(h0, .inr (6, [.ref q7, .ref q15, vI0, .ref q29, .ref q37, vN, vN, vN, vN, vN, vN, vN, vN, vN, vN])), rz q7 cq7 12, rz q15 cq15 30, rz q29 cq7 6144, rz q37 cq7 12] H := hP
  have hD : va_D A [(h0, .inr (6, [.ref q7, .ref q15, vI0, .ref q29, .ref q37, vN, vN, vN, vN, vN, vN, vN, vN, vN, vN])), rz q7 cq7 12, rz q15 cq15 30, rz q29 cq7 6144, rz q37 cq7 12] := hD
  refine lv_aload_n hx hb dX6_init_42 rfl (lv_at hl 0 rfl) ?_
  refine lv_bipush (v := 30) hx hb dX6_init_43 (by decide) ?_
  refine va_newa (atype := .boolean) (a0 := (30, .inl (fun _ => 0))) hx hb (hg (.arrayClass .boolean) gw_1_113) rfl hK hP hD hS hA (fun _ => rfl) (by decide) (N' := 30) rfl (Nat.le_of_ble_eq_true rfl) (Nat.le_of_ble_eq_true rfl) (Nat.le_of_ble_eq_true rfl) dX6_init_45 (fun q45 cq45 H hK hP hD hS => ?_)
  have hK : va_K (dC, dI) vwCl [(cq7, .int), (cq15, .boolean), (cq45, .boolean)] s := hK
  have hP : va_P (dC, dI) vwCl [(h0, .inr (6, [.ref q7, .ref q15, vI0, .ref q29, .ref q37, vN, vN, vN, vN, vN, vN, vN, vN, vN, vN])), rz q7 cq7 12, rz q15 cq15 30, rz q29 cq7 6144, rz q37 cq7 12, rz q45 cq45 30] H := hP
  have hD : va_D A [(h0, .inr (6, [.ref q7, .ref q15, vI0, .ref q29, .ref q37, vN, vN, vN, vN, vN, vN, vN, vN, vN, vN])), rz q7 cq7 12, rz q15 cq15 30, rz q29 cq7 6144, rz q37 cq7 12, rz q45 cq45 30] := hD
  refine W.widen (k := 5) (n := 6228) (Nat.le_of_ble_eq_true rfl) (Nat.le_of_ble_eq_true rfl) ?_
  obtain rfl : cq15 = cq45 := va_clsZ hK (i := 1) (j := 2) rfl rfl
  have hK := hK.sub (tys' := [(cq7, .int), (cq15, .boolean)]) [0, 1] rfl
  refine va_putF (D := (dC, dI)) (ci := 6) (v := .ref q45) (ty := .array .boolean) (C := RX6) (T := TX6) (N := 15) hx hb hg inG_X6 tyX6 tyX6_ok nmX6 hown hK hP hD hS 0 rfl rfl 5 (by decide) (hg (.fieldLink RX6 29 "AttributeDesk$Ways" "exactRound" "[Z") gw_2_65) (fun _ h9 => h9) rfl hin rfl (by decide +kernel) rfl rfl (Nat.le_of_ble_eq_true rfl) dX6_init_47 (fun H locs hP hD hS => ?_)
  have hP : va_P (dC, dI) vwCl [(h0, .inr (6, [.ref q7, .ref q15, vI0, .ref q29, .ref q37, .ref q45, vN, vN, vN, vN, vN, vN, vN, vN, vN])), rz q7 cq7 12, rz q15 cq15 30, rz q29 cq7 6144, rz q37 cq7 12, rz q45 cq15 30] H := hP
  have hD : va_D A [(h0, .inr (6, [.ref q7, .ref q15, vI0, .ref q29, .ref q37, .ref q45, vN, vN, vN, vN, vN, vN, vN, vN, vN])), rz q7 cq7 12, rz q15 cq15 30, rz q29 cq7 6144, rz q37 cq7 12, rz q45 cq15 30] := hD
  refine lv_aload_n hx hb dX6_init_50 rfl (lv_at hl 0 rfl) ?_
  refine lv_bipush (v := 30) hx hb dX6_init_51 (by decide) ?_
  refine va_newa (atype := .boolean) (a0 := (30, .inl (fun _ => 0))) hx hb (hg (.arrayClass .boolean) gw_1_113) rfl hK hP hD hS hA (fun _ => rfl) (by decide) (N' := 30) rfl (Nat.le_of_ble_eq_true rfl) (Nat.le_of_ble_eq_true rfl) (Nat.le_of_ble_eq_true rfl) dX6_init_53 (fun q53 cq53 H hK hP hD hS => ?_)
  have hK : va_K (dC, dI) vwCl [(cq7, .int), (cq15, .boolean), (cq53, .boolean)] s := hK
  have hP : va_P (dC, dI) vwCl [(h0, .inr (6, [.ref q7, .ref q15, vI0, .ref q29, .ref q37, .ref q45, vN, vN, vN, vN, vN, vN, vN, vN, vN])), rz q7 cq7 12, rz q15 cq15 30, rz q29 cq7 6144, rz q37 cq7 12, rz q45 cq15 30, rz q53 cq53 30] H := hP
  have hD : va_D A [(h0, .inr (6, [.ref q7, .ref q15, vI0, .ref q29, .ref q37, .ref q45, vN, vN, vN, vN, vN, vN, vN, vN, vN])), rz q7 cq7 12, rz q15 cq15 30, rz q29 cq7 6144, rz q37 cq7 12, rz q45 cq15 30, rz q53 cq53 30] := hD
  refine W.widen (k := 6) (n := 6258) (Nat.le_of_ble_eq_true rfl) (Nat.le_of_ble_eq_true rfl) ?_
  obtain rfl : cq15 = cq53 := va_clsZ hK (i := 1) (j := 2) rfl rfl
  have hK := hK.sub (tys' := [(cq7, .int), (cq15, .boolean)]) [0, 1] rfl
  refine va_putF (D := (dC, dI)) (ci := 6) (v := .ref q53) (ty := .array .boolean) (C := RX6) (T := TX6) (N := 15) hx hb hg inG_X6 tyX6 tyX6_ok nmX6 hown hK hP hD hS 0 rfl rfl 6 (by decide) (hg (.fieldLink RX6 32 "AttributeDesk$Ways" "comes" "[Z") gw_2_67) (fun _ h9 => h9) rfl hin rfl (by decide +kernel) rfl rfl (Nat.le_of_ble_eq_true rfl) dX6_init_55 (fun H locs hP hD hS => ?_)
  have hP : va_P (dC, dI) vwCl [(h0, .inr (6, [.ref q7, .ref q15, vI0, .ref q29, .ref q37, .ref q45, .ref q53, vN, vN, vN, vN, vN, vN, vN, vN])), rz q7 cq7 12, rz q15 cq15 30, rz q29 cq7 6144, rz q37 cq7 12, rz q45 cq15 30, rz q53 cq15 30] H := hP
  have hD : va_D A [(h0, .inr (6, [.ref q7, .ref q15, vI0, .ref q29, .ref q37, .ref q45, .ref q53, vN, vN, vN, vN, vN, vN, vN, vN])), rz q7 cq7 12, rz q15 cq15 30, rz q29 cq7 6144, rz q37 cq7 12, rz q45 cq15 30, rz q53 cq15 30] := hD
  refine lv_aload_n hx hb dX6_init_58 rfl (lv_at hl 0 rfl) ?_
  refine lv_sipush (v := 6144) hx hb dX6_init_59 (by decide) ?_
  refine va_newa (atype := .boolean) (a0 := (6144, .inl (fun _ => 0))) hx hb (hg (.arrayClass .boolean) gw_1_113) rfl hK hP hD hS hA (fun _ => rfl) (by decide) (N' := 6144) rfl (Nat.le_of_ble_eq_true rfl) (Nat.le_of_ble_eq_true rfl) (Nat.le_of_ble_eq_true rfl) dX6_init_62 (fun q62 cq62 H hK hP hD hS => ?_)
  have hK : va_K (dC, dI) vwCl [(cq7, .int), (cq15, .boolean), (cq62, .boolean)] s := hK
  have hP : va_P (dC, dI) vwCl [(h0, .inr (6, [.ref q7, .ref q15, vI0, .ref q29, .ref q37, .ref q45, .ref q53, vN, vN, vN, vN, vN, vN, vN, vN])), rz q7 cq7 12, rz q15 cq15 30, rz q29 cq7 6144, rz q37 cq7 12, rz q45 cq15 30, rz q53 cq15 30, rz q62 cq62 6144] H := hP
  have hD : va_D A [(h0, .inr (6, [.ref q7, .ref q15, vI0, .ref q29, .ref q37, .ref q45, .ref q53, vN, vN, vN, vN, vN, vN, vN, vN])), rz q7 cq7 12, rz q15 cq15 30, rz q29 cq7 6144, rz q37 cq7 12, rz q45 cq15 30, rz q53 cq15 30, rz q62 cq62 6144] := hD
  refine W.widen (k := 7) (n := 12402) (Nat.le_of_ble_eq_true rfl) (Nat.le_of_ble_eq_true rfl) ?_
  obtain rfl : cq15 = cq62 := va_clsZ hK (i := 1) (j := 2) rfl rfl
  have hK := hK.sub (tys' := [(cq7, .int), (cq15, .boolean)]) [0, 1] rfl
  refine va_putF (D := (dC, dI)) (ci := 6) (v := .ref q62) (ty := .array .boolean) (C := RX6) (T := TX6) (N := 15) hx hb hg inG_X6 tyX6 tyX6_ok nmX6 hown hK hP hD hS 0 rfl rfl 8 (by decide) (hg (.fieldLink RX6 35 "AttributeDesk$Ways" "hasGraph" "[Z") gw_2_70) (fun _ h9 => h9) rfl hin rfl (by decide +kernel) rfl rfl (Nat.le_of_ble_eq_true rfl) dX6_init_64 (fun H locs hP hD hS => ?_)
  have hP : va_P (dC, dI) vwCl [(h0, .inr (6, [.ref q7, .ref q15, vI0, .ref q29, .ref q37, .ref q45, .ref q53, vN, .ref q62, vN, vN, vN, vN, vN, vN])), rz q7 cq7 12, rz q15 cq15 30, rz q29 cq7 6144, rz q37 cq7 12, rz q45 cq15 30, rz q53 cq15 30, rz q62 cq15 6144] H := hP
  have hD : va_D A [(h0, .inr (6, [.ref q7, .ref q15, vI0, .ref q29, .ref q37, .ref q45, .ref q53, vN, .ref q62, vN, vN, vN, vN, vN, vN])), rz q7 cq7 12, rz q15 cq15 30, rz q29 cq7 6144, rz q37 cq7 12, rz q45 cq15 30, rz q53 cq15 30, rz q62 cq15 6144] := hD
  refine lv_aload_n hx hb dX6_init_67 rfl (lv_at hl 0 rfl) ?_
  refine lv_bipush (v := 12) hx hb dX6_init_68 (by decide) ?_
  refine va_newa (atype := .boolean) (a0 := (12, .inl (fun _ => 0))) hx hb (hg (.arrayClass .boolean) gw_1_113) rfl hK hP hD hS hA (fun _ => rfl) (by decide) (N' := 12) rfl (Nat.le_of_ble_eq_true rfl) (Nat.le_of_ble_eq_true rfl) (Nat.le_of_ble_eq_true rfl) dX6_init_70 (fun q70 cq70 H hK hP hD hS => ?_)
  have hK : va_K (dC, dI) vwCl [(cq7, .int), (cq15, .boolean), (cq70, .boolean)] s := hK
  have hP : va_P (dC, dI) vwCl [(h0, .inr (6, [.ref q7, .ref q15, vI0, .ref q29, .ref q37, .ref q45, .ref q53, vN, .ref q62, vN, vN, vN, vN, vN, vN])), rz q7 cq7 12, rz q15 cq15 30, rz q29 cq7 6144, rz q37 cq7 12, rz q45 cq15 30, rz q53 cq15 30, rz q62 cq15 6144, rz q70 cq70 12] H := hP
  have hD : va_D A [(h0, .inr (6, [.ref q7, .ref q15, vI0, .ref q29, .ref q37, .ref q45, .ref q53, vN, .ref q62, vN, vN, vN, vN, vN, vN])), rz q7 cq7 12, rz q15 cq15 30, rz q29 cq7 6144, rz q37 cq7 12, rz q45 cq15 30, rz q53 cq15 30, rz q62 cq15 6144, rz q70 cq70 12] := hD
  refine W.widen (k := 8) (n := 12414) (Nat.le_of_ble_eq_true rfl) (Nat.le_of_ble_eq_true rfl) ?_
  obtain rfl : cq15 = cq70 := va_clsZ hK (i := 1) (j := 2) rfl rfl
  have hK := hK.sub (tys' := [(cq7, .int), (cq15, .boolean)]) [0, 1] rfl
  refine va_putF (D := (dC, dI)) (ci := 6) (v := .ref q70) (ty := .array .boolean) (C := RX6) (T := TX6) (N := 15) hx hb hg inG_X6 tyX6 tyX6_ok nmX6 hown hK hP hD hS 0 rfl rfl 9 (by decide) (hg (.fieldLink RX6 38 "AttributeDesk$Ways" "hasTree" "[Z") gw_2_71) (fun _ h9 => h9) rfl hin rfl (by decide +kernel) rfl rfl (Nat.le_of_ble_eq_true rfl) dX6_init_72 (fun H locs hP hD hS => ?_)
  have hP : va_P (dC, dI) vwCl [(h0, .inr (6, [.ref q7, .ref q15, vI0, .ref q29, .ref q37, .ref q45, .ref q53, vN, .ref q62, .ref q70, vN, vN, vN, vN, vN])), rz q7 cq7 12, rz q15 cq15 30, rz q29 cq7 6144, rz q37 cq7 12, rz q45 cq15 30, rz q53 cq15 30, rz q62 cq15 6144, rz q70 cq15 12] H := hP
  have hD : va_D A [(h0, .inr (6, [.ref q7, .ref q15, vI0, .ref q29, .ref q37, .ref q45, .ref q53, vN, .ref q62, .ref q70, vN, vN, vN, vN, vN])), rz q7 cq7 12, rz q15 cq15 30, rz q29 cq7 6144, rz q37 cq7 12, rz q45 cq15 30, rz q53 cq15 30, rz q62 cq15 6144, rz q70 cq15 12] := hD
  refine lv_aload_n hx hb dX6_init_75 rfl (lv_at hl 0 rfl) ?_
  refine lv_bipush (v := 12) hx hb dX6_init_76 (by decide) ?_
  refine va_newa (atype := .boolean) (a0 := (12, .inl (fun _ => 0))) hx hb (hg (.arrayClass .boolean) gw_1_113) rfl hK hP hD hS hA (fun _ => rfl) (by decide) (N' := 12) rfl (Nat.le_of_ble_eq_true rfl) (Nat.le_of_ble_eq_true rfl) (Nat.le_of_ble_eq_true rfl) dX6_init_78 (fun q78 cq78 H hK hP hD hS => ?_)
  have hK : va_K (dC, dI) vwCl [(cq7, .int), (cq15, .boolean), (cq78, .boolean)] s := hK
  have hP : va_P (dC, dI) vwCl [(h0, .inr (6, [.ref q7, .ref q15, vI0, .ref q29, .ref q37, .ref q45, .ref q53, vN, .ref q62, .ref q70, vN, vN, vN, vN, vN])), rz q7 cq7 12, rz q15 cq15 30, rz q29 cq7 6144, rz q37 cq7 12, rz q45 cq15 30, rz q53 cq15 30, rz q62 cq15 6144, rz q70 cq15 12, rz q78 cq78 12] H := hP
  have hD : va_D A [(h0, .inr (6, [.ref q7, .ref q15, vI0, .ref q29, .ref q37, .ref q45, .ref q53, vN, .ref q62, .ref q70, vN, vN, vN, vN, vN])), rz q7 cq7 12, rz q15 cq15 30, rz q29 cq7 6144, rz q37 cq7 12, rz q45 cq15 30, rz q53 cq15 30, rz q62 cq15 6144, rz q70 cq15 12, rz q78 cq78 12] := hD
  refine W.widen (k := 9) (n := 12426) (Nat.le_of_ble_eq_true rfl) (Nat.le_of_ble_eq_true rfl) ?_
  obtain rfl : cq15 = cq78 := va_clsZ hK (i := 1) (j := 2) rfl rfl
  have hK := hK.sub (tys' := [(cq7, .int), (cq15, .boolean)]) [0, 1] rfl
  refine va_putF (D := (dC, dI)) (ci := 6) (v := .ref q78) (ty := .array .boolean) (C := RX6) (T := TX6) (N := 15) hx hb hg inG_X6 tyX6 tyX6_ok nmX6 hown hK hP hD hS 0 rfl rfl 10 (by decide) (hg (.fieldLink RX6 41 "AttributeDesk$Ways" "isReached" "[Z") gw_2_72) (fun _ h9 => h9) rfl hin rfl (by decide +kernel) rfl rfl (Nat.le_of_ble_eq_true rfl) dX6_init_80 (fun H locs hP hD hS => ?_)
  have hP : va_P (dC, dI) vwCl [(h0, .inr (6, [.ref q7, .ref q15, vI0, .ref q29, .ref q37, .ref q45, .ref q53, vN, .ref q62, .ref q70, .ref q78, vN, vN, vN, vN])), rz q7 cq7 12, rz q15 cq15 30, rz q29 cq7 6144, rz q37 cq7 12, rz q45 cq15 30, rz q53 cq15 30, rz q62 cq15 6144, rz q70 cq15 12, rz q78 cq15 12] H := hP
  have hD : va_D A [(h0, .inr (6, [.ref q7, .ref q15, vI0, .ref q29, .ref q37, .ref q45, .ref q53, vN, .ref q62, .ref q70, .ref q78, vN, vN, vN, vN])), rz q7 cq7 12, rz q15 cq15 30, rz q29 cq7 6144, rz q37 cq7 12, rz q45 cq15 30, rz q53 cq15 30, rz q62 cq15 6144, rz q70 cq15 12, rz q78 cq15 12] := hD
  refine lv_aload_n hx hb dX6_init_83 rfl (lv_at hl 0 rfl) ?_
  refine lv_bipush (v := 24) hx hb dX6_init_84 (by decide) ?_
  refine va_newa (atype := .int) (a0 := (24, .inl (fun _ => 0))) hx hb (hg (.arrayClass .int) gw_1_112) rfl hK hP hD hS hA (fun _ => rfl) (by decide) (N' := 24) rfl (Nat.le_of_ble_eq_true rfl) (Nat.le_of_ble_eq_true rfl) (Nat.le_of_ble_eq_true rfl) dX6_init_86 (fun q86 cq86 H hK hP hD hS => ?_)
  have hK : va_K (dC, dI) vwCl [(cq7, .int), (cq15, .boolean), (cq86, .int)] s := hK
  have hP : va_P (dC, dI) vwCl [(h0, .inr (6, [.ref q7, .ref q15, vI0, .ref q29, .ref q37, .ref q45, .ref q53, vN, .ref q62, .ref q70, .ref q78, vN, vN, vN, vN])), rz q7 cq7 12, rz q15 cq15 30, rz q29 cq7 6144, rz q37 cq7 12, rz q45 cq15 30, rz q53 cq15 30, rz q62 cq15 6144, rz q70 cq15 12, rz q78 cq15 12, rz q86 cq86 24] H := hP
  have hD : va_D A [(h0, .inr (6, [.ref q7, .ref q15, vI0, .ref q29, .ref q37, .ref q45, .ref q53, vN, .ref q62, .ref q70, .ref q78, vN, vN, vN, vN])), rz q7 cq7 12, rz q15 cq15 30, rz q29 cq7 6144, rz q37 cq7 12, rz q45 cq15 30, rz q53 cq15 30, rz q62 cq15 6144, rz q70 cq15 12, rz q78 cq15 12, rz q86 cq86 24] := hD
  refine W.widen (k := 10) (n := 12450) (Nat.le_of_ble_eq_true rfl) (Nat.le_of_ble_eq_true rfl) ?_
  obtain rfl : cq7 = cq86 := va_clsI hK (i := 0) (j := 2) rfl rfl
  have hK := hK.sub (tys' := [(cq7, .int), (cq15, .boolean)]) [0, 1] rfl
  refine va_putF (D := (dC, dI)) (ci := 6) (v := .ref q86) (ty := .array .int) (C := RX6) (T := TX6) (N := 15) hx hb hg inG_X6 tyX6 tyX6_ok nmX6 hown hK hP hD hS 0 rfl rfl 11 (by decide) (hg (.fieldLink RX6 44 "AttributeDesk$Ways" "rows" "[I") gw_2_73) (fun _ h9 => h9) rfl hin rfl (by decide +kernel) rfl rfl (Nat.le_of_ble_eq_true rfl) dX6_init_88 (fun H locs hP hD hS => ?_)
  have hP : va_P (dC, dI) vwCl [(h0, .inr (6, [.ref q7, .ref q15, vI0, .ref q29, .ref q37, .ref q45, .ref q53, vN, .ref q62, .ref q70, .ref q78, .ref q86, vN, vN, vN])), rz q7 cq7 12, rz q15 cq15 30, rz q29 cq7 6144, rz q37 cq7 12, rz q45 cq15 30, rz q53 cq15 30, rz q62 cq15 6144, rz q70 cq15 12, rz q78 cq15 12, rz q86 cq7 24] H := hP
  have hD : va_D A [(h0, .inr (6, [.ref q7, .ref q15, vI0, .ref q29, .ref q37, .ref q45, .ref q53, vN, .ref q62, .ref q70, .ref q78, .ref q86, vN, vN, vN])), rz q7 cq7 12, rz q15 cq15 30, rz q29 cq7 6144, rz q37 cq7 12, rz q45 cq15 30, rz q53 cq15 30, rz q62 cq15 6144, rz q70 cq15 12, rz q78 cq15 12, rz q86 cq7 24] := hD
  refine lv_aload_n hx hb dX6_init_91 rfl (lv_at hl 0 rfl) ?_
  refine lv_bipush (v := 90) hx hb dX6_init_92 (by decide) ?_
  refine va_newa (atype := .int) (a0 := (90, .inl (fun _ => 0))) hx hb (hg (.arrayClass .int) gw_1_112) rfl hK hP hD hS hA (fun _ => rfl) (by decide) (N' := 90) rfl (Nat.le_of_ble_eq_true rfl) (Nat.le_of_ble_eq_true rfl) (Nat.le_of_ble_eq_true rfl) dX6_init_94 (fun q94 cq94 H hK hP hD hS => ?_)
  have hK : va_K (dC, dI) vwCl [(cq7, .int), (cq15, .boolean), (cq94, .int)] s := hK
  have hP : va_P (dC, dI) vwCl [(h0, .inr (6, [.ref q7, .ref q15, vI0, .ref q29, .ref q37, .ref q45, .ref q53, vN, .ref q62, .ref q70, .ref q78, .ref q86, vN, vN, vN])), rz q7 cq7 12, rz q15 cq15 30, rz q29 cq7 6144, rz q37 cq7 12, rz q45 cq15 30, rz q53 cq15 30, rz q62 cq15 6144, rz q70 cq15 12, rz q78 cq15 12, rz q86 cq7 24, rz q94 cq94 90] H := hP
  have hD : va_D A [(h0, .inr (6, [.ref q7, .ref q15, vI0, .ref q29, .ref q37, .ref q45, .ref q53, vN, .ref q62, .ref q70, .ref q78, .ref q86, vN, vN, vN])), rz q7 cq7 12, rz q15 cq15 30, rz q29 cq7 6144, rz q37 cq7 12, rz q45 cq15 30, rz q53 cq15 30, rz q62 cq15 6144, rz q70 cq15 12, rz q78 cq15 12, rz q86 cq7 24, rz q94 cq94 90] := hD
  refine W.widen (k := 11) (n := 12540) (Nat.le_of_ble_eq_true rfl) (Nat.le_of_ble_eq_true rfl) ?_
  obtain rfl : cq7 = cq94 := va_clsI hK (i := 0) (j := 2) rfl rfl
  have hK := hK.sub (tys' := [(cq7, .int), (cq15, .boolean)]) [0, 1] rfl
  refine va_putF (D := (dC, dI)) (ci := 6) (v := .ref q94) (ty := .array .int) (C := RX6) (T := TX6) (N := 15) hx hb hg inG_X6 tyX6 tyX6_ok nmX6 hown hK hP hD hS 0 rfl rfl 12 (by decide) (hg (.fieldLink RX6 47 "AttributeDesk$Ways" "taken" "[I") gw_2_74) (fun _ h9 => h9) rfl hin rfl (by decide +kernel) rfl rfl (Nat.le_of_ble_eq_true rfl) dX6_init_96 (fun H locs hP hD hS => ?_)
  have hP : va_P (dC, dI) vwCl [(h0, .inr (6, [.ref q7, .ref q15, vI0, .ref q29, .ref q37, .ref q45, .ref q53, vN, .ref q62, .ref q70, .ref q78, .ref q86, .ref q94, vN, vN])), rz q7 cq7 12, rz q15 cq15 30, rz q29 cq7 6144, rz q37 cq7 12, rz q45 cq15 30, rz q53 cq15 30, rz q62 cq15 6144, rz q70 cq15 12, rz q78 cq15 12, rz q86 cq7 24, rz q94 cq7 90] H := hP
  have hD : va_D A [(h0, .inr (6, [.ref q7, .ref q15, vI0, .ref q29, .ref q37, .ref q45, .ref q53, vN, .ref q62, .ref q70, .ref q78, .ref q86, .ref q94, vN, vN])), rz q7 cq7 12, rz q15 cq15 30, rz q29 cq7 6144, rz q37 cq7 12, rz q45 cq15 30, rz q53 cq15 30, rz q62 cq15 6144, rz q70 cq15 12, rz q78 cq15 12, rz q86 cq7 24, rz q94 cq7 90] := hD
  refine lv_aload_n hx hb dX6_init_99 rfl (lv_at hl 0 rfl) ?_
  refine lv_iconst (v := 3) hx hb dX6_init_100 (by decide) ?_
  refine va_newa (atype := .int) (a0 := (3, .inl (fun _ => 0))) hx hb (hg (.arrayClass .int) gw_1_112) rfl hK hP hD hS hA (fun _ => rfl) (by decide) (N' := 3) rfl (Nat.le_of_ble_eq_true rfl) (Nat.le_of_ble_eq_true rfl) (Nat.le_of_ble_eq_true rfl) dX6_init_101 (fun q101 cq101 H hK hP hD hS => ?_)
  have hK : va_K (dC, dI) vwCl [(cq7, .int), (cq15, .boolean), (cq101, .int)] s := hK
  have hP : va_P (dC, dI) vwCl [(h0, .inr (6, [.ref q7, .ref q15, vI0, .ref q29, .ref q37, .ref q45, .ref q53, vN, .ref q62, .ref q70, .ref q78, .ref q86, .ref q94, vN, vN])), rz q7 cq7 12, rz q15 cq15 30, rz q29 cq7 6144, rz q37 cq7 12, rz q45 cq15 30, rz q53 cq15 30, rz q62 cq15 6144, rz q70 cq15 12, rz q78 cq15 12, rz q86 cq7 24, rz q94 cq7 90, rz q101 cq101 3] H := hP
  have hD : va_D A [(h0, .inr (6, [.ref q7, .ref q15, vI0, .ref q29, .ref q37, .ref q45, .ref q53, vN, .ref q62, .ref q70, .ref q78, .ref q86, .ref q94, vN, vN])), rz q7 cq7 12, rz q15 cq15 30, rz q29 cq7 6144, rz q37 cq7 12, rz q45 cq15 30, rz q53 cq15 30, rz q62 cq15 6144, rz q70 cq15 12, rz q78 cq15 12, rz q86 cq7 24, rz q94 cq7 90, rz q101 cq101 3] := hD
  refine W.widen (k := 12) (n := 12543) (Nat.le_of_ble_eq_true rfl) (Nat.le_of_ble_eq_true rfl) ?_
  obtain rfl : cq7 = cq101 := va_clsI hK (i := 0) (j := 2) rfl rfl
  have hK := hK.sub (tys' := [(cq7, .int), (cq15, .boolean)]) [0, 1] rfl
  refine va_putF (D := (dC, dI)) (ci := 6) (v := .ref q101) (ty := .array .int) (C := RX6) (T := TX6) (N := 15) hx hb hg inG_X6 tyX6 tyX6_ok nmX6 hown hK hP hD hS 0 rfl rfl 13 (by decide) (hg (.fieldLink RX6 50 "AttributeDesk$Ways" "firsts" "[I") gw_2_75) (fun _ h9 => h9) rfl hin rfl (by decide +kernel) rfl rfl (Nat.le_of_ble_eq_true rfl) dX6_init_103 (fun H locs hP hD hS => ?_)
  have hP : va_P (dC, dI) vwCl [(h0, .inr (6, [.ref q7, .ref q15, vI0, .ref q29, .ref q37, .ref q45, .ref q53, vN, .ref q62, .ref q70, .ref q78, .ref q86, .ref q94, .ref q101, vN])), rz q7 cq7 12, rz q15 cq15 30, rz q29 cq7 6144, rz q37 cq7 12, rz q45 cq15 30, rz q53 cq15 30, rz q62 cq15 6144, rz q70 cq15 12, rz q78 cq15 12, rz q86 cq7 24, rz q94 cq7 90, rz q101 cq7 3] H := hP
  have hD : va_D A [(h0, .inr (6, [.ref q7, .ref q15, vI0, .ref q29, .ref q37, .ref q45, .ref q53, vN, .ref q62, .ref q70, .ref q78, .ref q86, .ref q94, .ref q101, vN])), rz q7 cq7 12, rz q15 cq15 30, rz q29 cq7 6144, rz q37 cq7 12, rz q45 cq15 30, rz q53 cq15 30, rz q62 cq15 6144, rz q70 cq15 12, rz q78 cq15 12, rz q86 cq7 24, rz q94 cq7 90, rz q101 cq7 3] := hD
  refine lv_aload_n hx hb dX6_init_106 rfl (lv_at hl 0 rfl) ?_
  refine lv_iconst (v := 3) hx hb dX6_init_107 (by decide) ?_
  refine va_newa (atype := .int) (a0 := (3, .inl (fun _ => 0))) hx hb (hg (.arrayClass .int) gw_1_112) rfl hK hP hD hS hA (fun _ => rfl) (by decide) (N' := 3) rfl (Nat.le_of_ble_eq_true rfl) (Nat.le_of_ble_eq_true rfl) (Nat.le_of_ble_eq_true rfl) dX6_init_108 (fun q108 cq108 H hK hP hD hS => ?_)
  have hK : va_K (dC, dI) vwCl [(cq7, .int), (cq15, .boolean), (cq108, .int)] s := hK
  have hP : va_P (dC, dI) vwCl [(h0, .inr (6, [.ref q7, .ref q15, vI0, .ref q29, .ref q37, .ref q45, .ref q53, vN, .ref q62, .ref q70, .ref q78, .ref q86, .ref q94, .ref q101, vN])), rz q7 cq7 12, rz q15 cq15 30, rz q29 cq7 6144, rz q37 cq7 12, rz q45 cq15 30, rz q53 cq15 30, rz q62 cq15 6144, rz q70 cq15 12, rz q78 cq15 12, rz q86 cq7 24, rz q94 cq7 90, rz q101 cq7 3, rz q108 cq108 3] H := hP
  have hD : va_D A [(h0, .inr (6, [.ref q7, .ref q15, vI0, .ref q29, .ref q37, .ref q45, .ref q53, vN, .ref q62, .ref q70, .ref q78, .ref q86, .ref q94, .ref q101, vN])), rz q7 cq7 12, rz q15 cq15 30, rz q29 cq7 6144, rz q37 cq7 12, rz q45 cq15 30, rz q53 cq15 30, rz q62 cq15 6144, rz q70 cq15 12, rz q78 cq15 12, rz q86 cq7 24, rz q94 cq7 90, rz q101 cq7 3, rz q108 cq108 3] := hD
  refine W.widen (k := 13) (n := 12546) (Nat.le_of_ble_eq_true rfl) (Nat.le_of_ble_eq_true rfl) ?_
  obtain rfl : cq7 = cq108 := va_clsI hK (i := 0) (j := 2) rfl rfl
  have hK := hK.sub (tys' := [(cq7, .int), (cq15, .boolean)]) [0, 1] rfl
  refine va_putF (D := (dC, dI)) (ci := 6) (v := .ref q108) (ty := .array .int) (C := RX6) (T := TX6) (N := 15) hx hb hg inG_X6 tyX6 tyX6_ok nmX6 hown hK hP hD hS 0 rfl rfl 14 (by decide) (hg (.fieldLink RX6 53 "AttributeDesk$Ways" "spans" "[I") gw_2_76) (fun _ h9 => h9) rfl hin rfl (by decide +kernel) rfl rfl (Nat.le_of_ble_eq_true rfl) dX6_init_110 (fun H locs hP hD hS => ?_)
  have hP : va_P (dC, dI) vwCl [(h0, .inr (6, [.ref q7, .ref q15, vI0, .ref q29, .ref q37, .ref q45, .ref q53, vN, .ref q62, .ref q70, .ref q78, .ref q86, .ref q94, .ref q101, .ref q108])), rz q7 cq7 12, rz q15 cq15 30, rz q29 cq7 6144, rz q37 cq7 12, rz q45 cq15 30, rz q53 cq15 30, rz q62 cq15 6144, rz q70 cq15 12, rz q78 cq15 12, rz q86 cq7 24, rz q94 cq7 90, rz q101 cq7 3, rz q108 cq7 3] H := hP
  have hD : va_D A [(h0, .inr (6, [.ref q7, .ref q15, vI0, .ref q29, .ref q37, .ref q45, .ref q53, vN, .ref q62, .ref q70, .ref q78, .ref q86, .ref q94, .ref q101, .ref q108])), rz q7 cq7 12, rz q15 cq15 30, rz q29 cq7 6144, rz q37 cq7 12, rz q45 cq15 30, rz q53 cq15 30, rz q62 cq15 6144, rz q70 cq15 12, rz q78 cq15 12, rz q86 cq7 24, rz q94 cq7 90, rz q101 cq7 3, rz q108 cq7 3] := hD
  refine lv_aload_n hx hb dX6_init_113 rfl (lv_at hl 0 rfl) ?_
  refine lv_aload_n hx hb dX6_init_114 rfl (lv_at hl 1 rfl) ?_
  refine va_put (D := (dC, dI)) (ci := 6) (v := .ref a1) (ty := .object "AttributeDesk$Grammar") (C := RX6) (T := TX6) (N := 15) hx hb hg inG_X6 tyX6 tyX6_ok nmX6 hown hK hP hD hS 0 rfl rfl 7 (by decide) (hg (.fieldLink RX6 56 "AttributeDesk$Ways" "grammar" "LAttributeDesk$Grammar;") gw_2_69) (fun _ h9 => h9) rfl (by decide +kernel) rfl rfl (Nat.le_of_ble_eq_true rfl) dX6_init_115 (fun H locs hP hD hS => ?_)
  have hP : va_P (dC, dI) vwCl [(h0, .inr (6, [.ref q7, .ref q15, vI0, .ref q29, .ref q37, .ref q45, .ref q53, .ref a1, .ref q62, .ref q70, .ref q78, .ref q86, .ref q94, .ref q101, .ref q108])), rz q7 cq7 12, rz q15 cq15 30, rz q29 cq7 6144, rz q37 cq7 12, rz q45 cq15 30, rz q53 cq15 30, rz q62 cq15 6144, rz q70 cq15 12, rz q78 cq15 12, rz q86 cq7 24, rz q94 cq7 90, rz q101 cq7 3, rz q108 cq7 3] H := hP
  have hD : va_D A [(h0, .inr (6, [.ref q7, .ref q15, vI0, .ref q29, .ref q37, .ref q45, .ref q53, .ref a1, .ref q62, .ref q70, .ref q78, .ref q86, .ref q94, .ref q101, .ref q108])), rz q7 cq7 12, rz q15 cq15 30, rz q29 cq7 6144, rz q37 cq7 12, rz q45 cq15 30, rz q53 cq15 30, rz q62 cq15 6144, rz q70 cq15 12, rz q78 cq15 12, rz q86 cq7 24, rz q94 cq7 90, rz q101 cq7 3, rz q108 cq7 3] := hD
  have hP9 := hP.sub (ws' := [(h0, .inr (6, [.ref q7, .ref q15, vI0, .ref q29, .ref q37, .ref q45, .ref q53, .ref a1, .ref q62, .ref q70, .ref q78, .ref q86, .ref q94, .ref q101, .ref q108])), rz q7 cq7 12, rz q15 cq15 30, rz q29 cq7 6144, rz q37 cq7 12, rz q45 cq15 30, rz q53 cq15 30, rz q62 cq15 6144, rz q70 cq15 12, rz q78 cq15 12, rz q86 cq7 24, rz q94 cq7 90, rz q101 cq7 3, rz q108 cq7 3]) [0, 1, 2, 3, 4, 5, 6, 7, 8, 9, 10, 11, 12, 13] rfl
  have hD9 := hD.sub (ws' := [(h0, .inr (6, [.ref q7, .ref q15, vI0, .ref q29, .ref q37, .ref q45, .ref q53, .ref a1, .ref q62, .ref q70, .ref q78, .ref q86, .ref q94, .ref q101, .ref q108])), rz q7 cq7 12, rz q15 cq15 30, rz q29 cq7 6144, rz q37 cq7 12, rz q45 cq15 30, rz q53 cq15 30, rz q62 cq15 6144, rz q70 cq15 12, rz q78 cq15 12, rz q86 cq7 24, rz q94 cq7 90, rz q101 cq7 3, rz q108 cq7 3]) [0, 1, 2, 3, 4, 5, 6, 7, 8, 9, 10, 11, 12, 13] (by decide +kernel) rfl
  have hK9 := hK.sub (tys' := [(cq7, .int), (cq15, .boolean)]) [0, 1] rfl
  refine W.widen (k := 13) (n := 12546) (Nat.le_of_ble_eq_true rfl) (Nat.le_of_ble_eq_true rfl) ?_
  exact W.vret hx hb hr (fun t ht hW => ⟨⟨(), rfl, trivial, q7, q15, q29, q37, q45, q53, q62, q70, q78, q86, q94, q101, q108, cq7, cq15, by rw [ht]; exact hP9, va_K.moved hW.alike hK9, hD9⟩, hS.F ht⟩) hS.2.2 dX6_init_118

set_option maxHeartbeats 4000000 in
set_option maxRecDepth 100000 in
theorem c_X7_init (l : Launch) (dC : Nat → ClassId) (dI : Nat → Nat → Nat) (h0 a1 a2 : Nat) (sz : Nat) : Met l yX7_init wyX7_init ({ frames := 1, cells := 9, slots := 8480, locals := 12 }) (va_Pc [.ref h0, .ref a1, .ref a2] (fun U => U.heap.size = sz ∧ va_P (dC, dI) vwCl [(h0, .inr (7, [vN, vN, vI0, vN, vN, vN, vN, vN, vN, vN, vI0, vN, vN, vI0]))] U.heap ∧ va_K (dC, dI) vwCl [] U ∧ va_D (fun _ => True) [(h0, .inr (7, [vN, vN, vI0, vN, vN, vN, vN, vN, vN, vN, vI0, vN, vN, vI0]))])) (va_Qv (fun _ : Unit => True) (fun _ t => ∃ (e0 : Nat), ∃ (e1 : Nat), ∃ (e2 : Nat), ∃ (e3 : Nat), ∃ (e4 : Nat), ∃ (e5 : Nat), ∃ (e6 : Nat), ∃ (e7 : Nat), ∃ (e8 : Nat), ∃ (e9 : ClassId), ∃ (e10 : ClassId), va_P (dC, dI) vwCl [(h0, .inr (7, [.ref e0, .ref e1, vI0, .ref a1, .ref a2, .ref e2, .ref e3, .ref e4, .ref e5, .ref e6, vI0, .ref e7, .ref e8, vI0])), rz e0 e9 1200, rz e1 e9 1200, rz e2 e9 1200, rz e3 e9 1200, rz e4 e9 1200, rz e5 e9 1200, rz e6 e9 1200, rz e7 e9 40, rz e8 e10 40] t.heap ∧ va_K (dC, dI) vwCl [(e9, .int), (e10, .boolean)] t ∧ va_D (va_A [(h0, .inr (7, [vN, vN, vI0, vN, vN, vN, vN, vN, vN, vN, vI0, vN, vN, vI0]))] sz) [(h0, .inr (7, [.ref e0, .ref e1, vI0, .ref a1, .ref a2, .ref e2, .ref e3, .ref e4, .ref e5, .ref e6, vI0, .ref e7, .ref e8, vI0])), rz e0 e9 1200, rz e1 e9 1200, rz e2 e9 1200, rz e3 e9 1200, rz e4 e9 1200, rz e5 e9 1200, rz e6 e9 1200, rz e7 e9 40, rz e8 e10 40]) (va_A [(h0, .inr (7, [vN, vN, vI0, vN, vN, vN, vN, vN, vN, vN, vI0, vN, vN, vI0]))] sz)) 9 8480 (va_A [(h0, .inr (7, [vN, vN, vI0, vN, vN, vN, vN, vN, vN, vN, vI0, vN, vN, vI0]))] sz) := by
  refine Met.ofW (cc := cX7_init) (maxL := 3) (ret := none) (by decide) rfl ?_
  intro p e s m args below meth c s₁ B hml hv
  obtain ⟨rfl, hsz, hP, hK, hD0⟩ := hv
  have hx := B.exec
  have hb := B.bytes
  have hr := B.returns
  have hts := atoms_spec (ws := wyX7_init) B.pre
  have hg : ∀ w ∈ lw_G, w.before _ s = true := fun w h => hts w (List.mem_cons_of_mem _ h)
  have hown : s.vm.findClass RX7 = some m.cls := findClass_of_methodNamed B.named
  have hlocks := B.notSynchronized
  have hin : meth.name = "<init>" := (name_of_methodNamed B.named B.method).1
  subst hsz
  have hD := hD0.self (sz := s.heap.size)
  generalize hAe : va_A [(h0, .inr (7, [vN, vN, vI0, vN, vN, vN, vN, vN, vN, vN, vI0, vN, vN, vI0]))] s.heap.size = A at hD ⊢
  have hA : ∀ q : Nat, s.heap.size ≤ q → A q := fun q h => by rw [← hAe]; exact Or.inr h
  have hS : va_S A s.heap s.heap [] := va_S.rf
  have hP : va_P (dC, dI) vwCl [(h0, .inr (7, [vN, vN, vI0, vN, vN, vN, vN, vN, vN, vN, vI0, vN, vN, vI0]))] s.heap := hP
  have hl := lv_entry ([.ref h0, .ref a1, .ref a2]) (n := 3) (Nat.le_of_ble_eq_true rfl)
  rw [lg_entry_eq]
  generalize (lg_sl ([.ref h0, .ref a1, .ref a2]) ++ List.replicate (3 - (lg_sl ([.ref h0, .ref a1, .ref a2])).length) Slot.unset).toArray = ls at hl ⊢
  have hl : lv_has ls 3 [(0, .ref h0), (1, .ref a1), (2, .ref a2)] := hl
  refine lv_aload_n hx hb dX7_init_0 rfl (lv_at hl 0 rfl) ?_
  refine W.objInit hx hb hown (hg (.methodLink RX7 3 objectInit) gw_2_113) (hg (.instanceMethod objectInit) gw_1_18) (hg (.code objectInit ⟨#[0xb1]⟩ 1 none) gw_1_19) rfl (by rw [hml]; exact hl.1) rfl dX7_init_1 (Nat.le_of_ble_eq_true rfl) (Nat.le_of_ble_eq_true rfl) ?_
  refine W.eq (g2 := F0 m 4 ls []) rfl ?_
  refine lv_aload_n hx hb dX7_init_4 rfl (lv_at hl 0 rfl) ?_
  refine lv_sipush (v := 1200) hx hb dX7_init_5 (by decide) ?_
  refine va_newa (atype := .int) (a0 := (1200, .inl (fun _ => 0))) hx hb (hg (.arrayClass .int) gw_1_112) rfl hK hP hD hS hA (fun _ => rfl) (by decide) (N' := 1200) rfl (Nat.le_of_ble_eq_true rfl) (Nat.le_of_ble_eq_true rfl) (Nat.le_of_ble_eq_true rfl) dX7_init_8 (fun q8 cq8 H hK hP hD hS => ?_)
  have hK : va_K (dC, dI) vwCl [(cq8, .int)] s := hK
  have hP : va_P (dC, dI) vwCl [(h0, .inr (7, [vN, vN, vI0, vN, vN, vN, vN, vN, vN, vN, vI0, vN, vN, vI0])), rz q8 cq8 1200] H := hP
  have hD : va_D A [(h0, .inr (7, [vN, vN, vI0, vN, vN, vN, vN, vN, vN, vN, vI0, vN, vN, vI0])), rz q8 cq8 1200] := hD
  refine W.widen (k := 1) (n := 1200) (Nat.le_of_ble_eq_true rfl) (Nat.le_of_ble_eq_true rfl) ?_
  refine va_putF (D := (dC, dI)) (ci := 7) (v := .ref q8) (ty := .array .int) (C := RX7) (T := TX7) (N := 14) hx hb hg inG_X7 tyX7 tyX7_ok nmX7 hown hK hP hD hS 0 rfl rfl 0 (by decide) (hg (.fieldLink RX7 9 "AttributeDesk$Worker" "numbers" "[I") gw_2_114) (fun _ h9 => h9) rfl hin rfl (by decide +kernel) rfl rfl (Nat.le_of_ble_eq_true rfl) dX7_init_10 (fun H locs hP hD hS => ?_)
  have hP : va_P (dC, dI) vwCl [(h0, .inr (7, [.ref q8, vN, vI0, vN, vN, vN, vN, vN, vN, vN, vI0, vN, vN, vI0])), rz q8 cq8 1200] H := hP
  have hD : va_D A [(h0, .inr (7, [.ref q8, vN, vI0, vN, vN, vN, vN, vN, vN, vN, vI0, vN, vN, vI0])), rz q8 cq8 1200] := hD
  refine lv_aload_n hx hb dX7_init_13 rfl (lv_at hl 0 rfl) ?_
  refine lv_sipush (v := 1200) hx hb dX7_init_14 (by decide) ?_
  refine va_newa (atype := .int) (a0 := (1200, .inl (fun _ => 0))) hx hb (hg (.arrayClass .int) gw_1_112) rfl hK hP hD hS hA (fun _ => rfl) (by decide) (N' := 1200) rfl (Nat.le_of_ble_eq_true rfl) (Nat.le_of_ble_eq_true rfl) (Nat.le_of_ble_eq_true rfl) dX7_init_17 (fun q17 cq17 H hK hP hD hS => ?_)
  have hK : va_K (dC, dI) vwCl [(cq8, .int), (cq17, .int)] s := hK
  have hP : va_P (dC, dI) vwCl [(h0, .inr (7, [.ref q8, vN, vI0, vN, vN, vN, vN, vN, vN, vN, vI0, vN, vN, vI0])), rz q8 cq8 1200, rz q17 cq17 1200] H := hP
  have hD : va_D A [(h0, .inr (7, [.ref q8, vN, vI0, vN, vN, vN, vN, vN, vN, vN, vI0, vN, vN, vI0])), rz q8 cq8 1200, rz q17 cq17 1200] := hD
  refine W.widen (k := 2) (n := 2400) (Nat.le_of_ble_eq_true rfl) (Nat.le_of_ble_eq_true rfl) ?_
  obtain rfl : cq8 = cq17 := va_clsI hK (i := 0) (j := 1) rfl rfl
  have hK := hK.sub (tys' := [(cq8, .int)]) [0] rfl
  refine va_putF (D := (dC, dI)) (ci := 7) (v := .ref q17) (ty := .array .int) (C := RX7) (T := TX7) (N := 14) hx hb hg inG_X7 tyX7 tyX7_ok nmX7 hown hK hP hD hS 0 rfl rfl 1 (by decide) (hg (.fieldLink RX7 15 "AttributeDesk$Worker" "order" "[I") gw_2_116) (fun _ h9 => h9) rfl hin rfl (by decide +kernel) rfl rfl (Nat.le_of_ble_eq_true rfl) dX7_init_19 (fun H locs hP hD hS => ?_)
  have hP : va_P (dC, dI) vwCl [(h0, .inr (7, [.ref q8, .ref q17, vI0, vN, vN, vN, vN, vN, vN, vN, vI0, vN, vN, vI0])), rz q8 cq8 1200, rz q17 cq8 1200] H := hP
  have hD : va_D A [(h0, .inr (7, [.ref q8, .ref q17, vI0, vN, vN, vN, vN, vN, vN, vN, vI0, vN, vN, vI0])), rz q8 cq8 1200, rz q17 cq8 1200] := hD
  refine lv_aload_n hx hb dX7_init_22 rfl (lv_at hl 0 rfl) ?_
  refine lv_iconst (v := 0) hx hb dX7_init_23 (by decide) ?_
  refine va_put (D := (dC, dI)) (ci := 7) (v := .int 0) (ty := .int) (C := RX7) (T := TX7) (N := 14) hx hb hg inG_X7 tyX7 tyX7_ok nmX7 hown hK hP hD hS 0 rfl rfl 2 (by decide) (hg (.fieldLink RX7 18 "AttributeDesk$Worker" "orderSize" "I") gw_2_118) (fun _ h9 => h9) rfl (by decide +kernel) rfl rfl (Nat.le_of_ble_eq_true rfl) dX7_init_24 (fun H locs hP hD hS => ?_)
  have hP : va_P (dC, dI) vwCl [(h0, .inr (7, [.ref q8, .ref q17, vI0, vN, vN, vN, vN, vN, vN, vN, vI0, vN, vN, vI0])), rz q8 cq8 1200, rz q17 cq8 1200] H := hP
  have hD : va_D A [(h0, .inr (7, [.ref q8, .ref q17, vI0, vN, vN, vN, vN, vN, vN, vN, vI0, vN, vN, vI0])), rz q8 cq8 1200, rz q17 cq8 1200] := hD
  refine lv_aload_n hx hb dX7_init_27 rfl (lv_at hl 0 rfl) ?_
  refine lv_sipush (v := 1200) hx hb dX7_init_28 (by decide) ?_
  refine va_newa (atype := .int) (a0 := (1200, .inl (fun _ => 0))) hx hb (hg (.arrayClass .int) gw_1_112) rfl hK hP hD hS hA (fun _ => rfl) (by decide) (N' := 1200) rfl (Nat.le_of_ble_eq_true rfl) (Nat.le_of_ble_eq_true rfl) (Nat.le_of_ble_eq_true rfl) dX7_init_31 (fun q31 cq31 H hK hP hD hS => ?_)
  have hK : va_K (dC, dI) vwCl [(cq8, .int), (cq31, .int)] s := hK
  have hP : va_P (dC, dI) vwCl [(h0, .inr (7, [.ref q8, .ref q17, vI0, vN, vN, vN, vN, vN, vN, vN, vI0, vN, vN, vI0])), rz q8 cq8 1200, rz q17 cq8 1200, rz q31 cq31 1200] H := hP
  have hD : va_D A [(h0, .inr (7, [.ref q8, .ref q17, vI0, vN, vN, vN, vN, vN, vN, vN, vI0, vN, vN, vI0])), rz q8 cq8 1200, rz q17 cq8 1200, rz q31 cq31 1200] := hD
  refine W.widen (k := 3) (n := 3600) (Nat.le_of_ble_eq_true rfl) (Nat.le_of_ble_eq_true rfl) ?_
  obtain rfl : cq8 = cq31 := va_clsI hK (i := 0) (j := 1) rfl rfl
  have hK := hK.sub (tys' := [(cq8, .int)]) [0] rfl
  refine va_putF (D := (dC, dI)) (ci := 7) (v := .ref q31) (ty := .array .int) (C := RX7) (T := TX7) (N := 14) hx hb hg inG_X7 tyX7 tyX7_ok nmX7 hown hK hP hD hS 0 rfl rfl 5 (by decide) (hg (.fieldLink RX7 22 "AttributeDesk$Worker" "states" "[I") gw_2_122) (fun _ h9 => h9) rfl hin rfl (by decide +kernel) rfl rfl (Nat.le_of_ble_eq_true rfl) dX7_init_33 (fun H locs hP hD hS => ?_)
  have hP : va_P (dC, dI) vwCl [(h0, .inr (7, [.ref q8, .ref q17, vI0, vN, vN, .ref q31, vN, vN, vN, vN, vI0, vN, vN, vI0])), rz q8 cq8 1200, rz q17 cq8 1200, rz q31 cq8 1200] H := hP
  have hD : va_D A [(h0, .inr (7, [.ref q8, .ref q17, vI0, vN, vN, .ref q31, vN, vN, vN, vN, vI0, vN, vN, vI0])), rz q8 cq8 1200, rz q17 cq8 1200, rz q31 cq8 1200] := hD
  refine lv_aload_n hx hb dX7_init_36 rfl (lv_at hl 0 rfl) ?_
  refine lv_sipush (v := 1200) hx hb dX7_init_37 (by decide) ?_
  refine va_newa (atype := .int) (a0 := (1200, .inl (fun _ => 0))) hx hb (hg (.arrayClass .int) gw_1_112) rfl hK hP hD hS hA (fun _ => rfl) (by decide) (N' := 1200) rfl (Nat.le_of_ble_eq_true rfl) (Nat.le_of_ble_eq_true rfl) (Nat.le_of_ble_eq_true rfl) dX7_init_40 (fun q40 cq40 H hK hP hD hS => ?_)
  have hK : va_K (dC, dI) vwCl [(cq8, .int), (cq40, .int)] s := hK
  have hP : va_P (dC, dI) vwCl [(h0, .inr (7, [.ref q8, .ref q17, vI0, vN, vN, .ref q31, vN, vN, vN, vN, vI0, vN, vN, vI0])), rz q8 cq8 1200, rz q17 cq8 1200, rz q31 cq8 1200, rz q40 cq40 1200] H := hP
  have hD : va_D A [(h0, .inr (7, [.ref q8, .ref q17, vI0, vN, vN, .ref q31, vN, vN, vN, vN, vI0, vN, vN, vI0])), rz q8 cq8 1200, rz q17 cq8 1200, rz q31 cq8 1200, rz q40 cq40 1200] := hD
  refine W.widen (k := 4) (n := 4800) (Nat.le_of_ble_eq_true rfl) (Nat.le_of_ble_eq_true rfl) ?_
  obtain rfl : cq8 = cq40 := va_clsI hK (i := 0) (j := 1) rfl rfl
  have hK := hK.sub (tys' := [(cq8, .int)]) [0] rfl
  refine va_putF (D := (dC, dI)) (ci := 7) (v := .ref q40) (ty := .array .int) (C := RX7) (T := TX7) (N := 14) hx hb hg inG_X7 tyX7 tyX7_ok nmX7 hown hK hP hD hS 0 rfl rfl 6 (by decide) (hg (.fieldLink RX7 25 "AttributeDesk$Worker" "way" "[I") gw_2_123) (fun _ h9 => h9) rfl hin rfl (by decide +kernel) rfl rfl (Nat.le_of_ble_eq_true rfl) dX7_init_42 (fun H locs hP hD hS => ?_)
  have hP : va_P (dC, dI) vwCl [(h0, .inr (7, [.ref q8, .ref q17, vI0, vN, vN, .ref q31, .ref q40, vN, vN, vN, vI0, vN, vN, vI0])), rz q8 cq8 1200, rz q17 cq8 1200, rz q31 cq8 1200, rz q40 cq8 1200] H := hP
  have hD : va_D A [(h0, .inr (7, [.ref q8, .ref q17, vI0, vN, vN, .ref q31, .ref q40, vN, vN, vN, vI0, vN, vN, vI0])), rz q8 cq8 1200, rz q17 cq8 1200, rz q31 cq8 1200, rz q40 cq8 1200] := hD
  refine lv_aload_n hx hb dX7_init_45 rfl (lv_at hl 0 rfl) ?_
  refine lv_sipush (v := 1200) hx hb dX7_init_46 (by decide) ?_
  refine va_newa (atype := .int) (a0 := (1200, .inl (fun _ => 0))) hx hb (hg (.arrayClass .int) gw_1_112) rfl hK hP hD hS hA (fun _ => rfl) (by decide) (N' := 1200) rfl (Nat.le_of_ble_eq_true rfl) (Nat.le_of_ble_eq_true rfl) (Nat.le_of_ble_eq_true rfl) dX7_init_49 (fun q49 cq49 H hK hP hD hS => ?_)
  have hK : va_K (dC, dI) vwCl [(cq8, .int), (cq49, .int)] s := hK
  have hP : va_P (dC, dI) vwCl [(h0, .inr (7, [.ref q8, .ref q17, vI0, vN, vN, .ref q31, .ref q40, vN, vN, vN, vI0, vN, vN, vI0])), rz q8 cq8 1200, rz q17 cq8 1200, rz q31 cq8 1200, rz q40 cq8 1200, rz q49 cq49 1200] H := hP
  have hD : va_D A [(h0, .inr (7, [.ref q8, .ref q17, vI0, vN, vN, .ref q31, .ref q40, vN, vN, vN, vI0, vN, vN, vI0])), rz q8 cq8 1200, rz q17 cq8 1200, rz q31 cq8 1200, rz q40 cq8 1200, rz q49 cq49 1200] := hD
  refine W.widen (k := 5) (n := 6000) (Nat.le_of_ble_eq_true rfl) (Nat.le_of_ble_eq_true rfl) ?_
  obtain rfl : cq8 = cq49 := va_clsI hK (i := 0) (j := 1) rfl rfl
  have hK := hK.sub (tys' := [(cq8, .int)]) [0] rfl
  refine va_putF (D := (dC, dI)) (ci := 7) (v := .ref q49) (ty := .array .int) (C := RX7) (T := TX7) (N := 14) hx hb hg inG_X7 tyX7 tyX7_ok nmX7 hown hK hP hD hS 0 rfl rfl 7 (by decide) (hg (.fieldLink RX7 28 "AttributeDesk$Worker" "bases" "[I") gw_2_124) (fun _ h9 => h9) rfl hin rfl (by decide +kernel) rfl rfl (Nat.le_of_ble_eq_true rfl) dX7_init_51 (fun H locs hP hD hS => ?_)
  have hP : va_P (dC, dI) vwCl [(h0, .inr (7, [.ref q8, .ref q17, vI0, vN, vN, .ref q31, .ref q40, .ref q49, vN, vN, vI0, vN, vN, vI0])), rz q8 cq8 1200, rz q17 cq8 1200, rz q31 cq8 1200, rz q40 cq8 1200, rz q49 cq8 1200] H := hP
  have hD : va_D A [(h0, .inr (7, [.ref q8, .ref q17, vI0, vN, vN, .ref q31, .ref q40, .ref q49, vN, vN, vI0, vN, vN, vI0])), rz q8 cq8 1200, rz q17 cq8 1200, rz q31 cq8 1200, rz q40 cq8 1200, rz q49 cq8 1200] := hD
  refine lv_aload_n hx hb dX7_init_54 rfl (lv_at hl 0 rfl) ?_
  refine lv_sipush (v := 1200) hx hb dX7_init_55 (by decide) ?_
  refine va_newa (atype := .int) (a0 := (1200, .inl (fun _ => 0))) hx hb (hg (.arrayClass .int) gw_1_112) rfl hK hP hD hS hA (fun _ => rfl) (by decide) (N' := 1200) rfl (Nat.le_of_ble_eq_true rfl) (Nat.le_of_ble_eq_true rfl) (Nat.le_of_ble_eq_true rfl) dX7_init_58 (fun q58 cq58 H hK hP hD hS => ?_)
  have hK : va_K (dC, dI) vwCl [(cq8, .int), (cq58, .int)] s := hK
  have hP : va_P (dC, dI) vwCl [(h0, .inr (7, [.ref q8, .ref q17, vI0, vN, vN, .ref q31, .ref q40, .ref q49, vN, vN, vI0, vN, vN, vI0])), rz q8 cq8 1200, rz q17 cq8 1200, rz q31 cq8 1200, rz q40 cq8 1200, rz q49 cq8 1200, rz q58 cq58 1200] H := hP
  have hD : va_D A [(h0, .inr (7, [.ref q8, .ref q17, vI0, vN, vN, .ref q31, .ref q40, .ref q49, vN, vN, vI0, vN, vN, vI0])), rz q8 cq8 1200, rz q17 cq8 1200, rz q31 cq8 1200, rz q40 cq8 1200, rz q49 cq8 1200, rz q58 cq58 1200] := hD
  refine W.widen (k := 6) (n := 7200) (Nat.le_of_ble_eq_true rfl) (Nat.le_of_ble_eq_true rfl) ?_
  obtain rfl : cq8 = cq58 := va_clsI hK (i := 0) (j := 1) rfl rfl
  have hK := hK.sub (tys' := [(cq8, .int)]) [0] rfl
  refine va_putF (D := (dC, dI)) (ci := 7) (v := .ref q58) (ty := .array .int) (C := RX7) (T := TX7) (N := 14) hx hb hg inG_X7 tyX7 tyX7_ok nmX7 hown hK hP hD hS 0 rfl rfl 8 (by decide) (hg (.fieldLink RX7 31 "AttributeDesk$Worker" "equations" "[I") gw_2_125) (fun _ h9 => h9) rfl hin rfl (by decide +kernel) rfl rfl (Nat.le_of_ble_eq_true rfl) dX7_init_60 (fun H locs hP hD hS => ?_)
  have hP : va_P (dC, dI) vwCl [(h0, .inr (7, [.ref q8, .ref q17, vI0, vN, vN, .ref q31, .ref q40, .ref q49, .ref q58, vN, vI0, vN, vN, vI0])), rz q8 cq8 1200, rz q17 cq8 1200, rz q31 cq8 1200, rz q40 cq8 1200, rz q49 cq8 1200, rz q58 cq8 1200] H := hP
  have hD : va_D A [(h0, .inr (7, [.ref q8, .ref q17, vI0, vN, vN, .ref q31, .ref q40, .ref q49, .ref q58, vN, vI0, vN, vN, vI0])), rz q8 cq8 1200, rz q17 cq8 1200, rz q31 cq8 1200, rz q40 cq8 1200, rz q49 cq8 1200, rz q58 cq8 1200] := hD
  refine lv_aload_n hx hb dX7_init_63 rfl (lv_at hl 0 rfl) ?_
  refine lv_sipush (v := 1200) hx hb dX7_init_64 (by decide) ?_
  refine va_newa (atype := .int) (a0 := (1200, .inl (fun _ => 0))) hx hb (hg (.arrayClass .int) gw_1_112) rfl hK hP hD hS hA (fun _ => rfl) (by decide) (N' := 1200) rfl (Nat.le_of_ble_eq_true rfl) (Nat.le_of_ble_eq_true rfl) (Nat.le_of_ble_eq_true rfl) dX7_init_67 (fun q67 cq67 H hK hP hD hS => ?_)
  have hK : va_K (dC, dI) vwCl [(cq8, .int), (cq67, .int)] s := hK
  have hP : va_P (dC, dI) vwCl [(h0, .inr (7, [.ref q8, .ref q17, vI0, vN, vN, .ref q31, .ref q40, .ref q49, .ref q58, vN, vI0, vN, vN, vI0])), rz q8 cq8 1200, rz q17 cq8 1200, rz q31 cq8 1200, rz q40 cq8 1200, rz q49 cq8 1200, rz q58 cq8 1200, rz q67 cq67 1200] H := hP
  have hD : va_D A [(h0, .inr (7, [.ref q8, .ref q17, vI0, vN, vN, .ref q31, .ref q40, .ref q49, .ref q58, vN, vI0, vN, vN, vI0])), rz q8 cq8 1200, rz q17 cq8 1200, rz q31 cq8 1200, rz q40 cq8 1200, rz q49 cq8 1200, rz q58 cq8 1200, rz q67 cq67 1200] := hD
  refine W.widen (k := 7) (n := 8400) (Nat.le_of_ble_eq_true rfl) (Nat.le_of_ble_eq_true rfl) ?_
  obtain rfl : cq8 = cq67 := va_clsI hK (i := 0) (j := 1) rfl rfl
  have hK := hK.sub (tys' := [(cq8, .int)]) [0] rfl
  refine va_putF (D := (dC, dI)) (ci := 7) (v := .ref q67) (ty := .array .int) (C := RX7) (T := TX7) (N := 14) hx hb hg inG_X7 tyX7 tyX7_ok nmX7 hown hK hP hD hS 0 rfl rfl 9 (by decide) (hg (.fieldLink RX7 34 "AttributeDesk$Worker" "codeAt" "[I") gw_2_126) (fun _ h9 => h9) rfl hin rfl (by decide +kernel) rfl rfl (Nat.le_of_ble_eq_true rfl) dX7_init_69 (fun H locs hP hD hS => ?_)
  have hP : va_P (dC, dI) vwCl [(h0, .inr (7, [.ref q8, .ref q17, vI0, vN, vN, .ref q31, .ref q40, .ref q49, .ref q58, .ref q67, vI0, vN, vN, vI0])), rz q8 cq8 1200, rz q17 cq8 1200, rz q31 cq8 1200, rz q40 cq8 1200, rz q49 cq8 1200, rz q58 cq8 1200, rz q67 cq8 1200] H := hP
  have hD : va_D A [(h0, .inr (7, [.ref q8, .ref q17, vI0, vN, vN, .ref q31, .ref q40, .ref q49, .ref q58, .ref q67, vI0, vN, vN, vI0])), rz q8 cq8 1200, rz q17 cq8 1200, rz q31 cq8 1200, rz q40 cq8 1200, rz q49 cq8 1200, rz q58 cq8 1200, rz q67 cq8 1200] := hD
  refine lv_aload_n hx hb dX7_init_72 rfl (lv_at hl 0 rfl) ?_
  refine lv_iconst (v := 0) hx hb dX7_init_73 (by decide) ?_
  refine va_put (D := (dC, dI)) (ci := 7) (v := .int 0) (ty := .int) (C := RX7) (T := TX7) (N := 14) hx hb hg inG_X7 tyX7 tyX7_ok nmX7 hown hK hP hD hS 0 rfl rfl 10 (by decide) (hg (.fieldLink RX7 37 "AttributeDesk$Worker" "wayLength" "I") gw_2_127) (fun _ h9 => h9) rfl (by decide +kernel) rfl rfl (Nat.le_of_ble_eq_true rfl) dX7_init_74 (fun H locs hP hD hS => ?_)
  have hP : va_P (dC, dI) vwCl [(h0, .inr (7, [.ref q8, .ref q17, vI0, vN, vN, .ref q31, .ref q40, .ref q49, .ref q58, .ref q67, vI0, vN, vN, vI0])), rz q8 cq8 1200, rz q17 cq8 1200, rz q31 cq8 1200, rz q40 cq8 1200, rz q49 cq8 1200, rz q58 cq8 1200, rz q67 cq8 1200] H := hP
  have hD : va_D A [(h0, .inr (7, [.ref q8, .ref q17, vI0, vN, vN, .ref q31, .ref q40, .ref q49, .ref q58, .ref q67, vI0, vN, vN, vI0])), rz q8 cq8 1200, rz q17 cq8 1200, rz q31 cq8 1200, rz q40 cq8 1200, rz q49 cq8 1200, rz q58 cq8 1200, rz q67 cq8 1200] := hD
  refine lv_aload_n hx hb dX7_init_77 rfl (lv_at hl 0 rfl) ?_
  refine lv_bipush (v := 40) hx hb dX7_init_78 (by decide) ?_
  refine va_newa (atype := .int) (a0 := (40, .inl (fun _ => 0))) hx hb (hg (.arrayClass .int) gw_1_112) rfl hK hP hD hS hA (fun _ => rfl) (by decide) (N' := 40) rfl (Nat.le_of_ble_eq_true rfl) (Nat.le_of_ble_eq_true rfl) (Nat.le_of_ble_eq_true rfl) dX7_init_80 (fun q80 cq80 H hK hP hD hS => ?_)
  have hK : va_K (dC, dI) vwCl [(cq8, .int), (cq80, .int)] s := hK
  have hP : va_P (dC, dI) vwCl [(h0, .inr (7, [.ref q8, .ref q17, vI0, vN, vN, .ref q31, .ref q40, .ref q49, .ref q58, .ref q67, vI0, vN, vN, vI0])), rz q8 cq8 1200, rz q17 cq8 1200, rz q31 cq8 1200, rz q40 cq8 1200, rz q49 cq8 1200, rz q58 cq8 1200, rz q67 cq8 1200, rz q80 cq80 40] H := hP
  have hD : va_D A [(h0, .inr (7, [.ref q8, .ref q17, vI0, vN, vN, .ref q31, .ref q40, .ref q49, .ref q58, .ref q67, vI0, vN, vN, vI0])), rz q8 cq8 1200, rz q17 cq8 1200, rz q31 cq8 1200, rz q40 cq8 1200, rz q49 cq8 1200, rz q58 cq8 1200, rz q67 cq8 1200, rz q80 cq80 40] := hD
  refine W.widen (k := 8) (n := 8440) (Nat.le_of_ble_eq_true rfl) (Nat.le_of_ble_eq_true rfl) ?_
  obtain rfl : cq8 = cq80 := va_clsI hK (i := 0) (j := 1) rfl rfl
  have hK := hK.sub (tys' := [(cq8, .int)]) [0] rfl
  refine va_putF (D := (dC, dI)) (ci := 7) (v := .ref q80) (ty := .array .int) (C := RX7) (T := TX7) (N := 14) hx hb hg inG_X7 tyX7 tyX7_ok nmX7 hown hK hP hD hS 0 rfl rfl 11 (by decide) (hg (.fieldLink RX7 40 "AttributeDesk$Worker" "values" "[I") gw_2_128) (fun _ h9 => h9) rfl hin rfl (by decide +kernel) rfl rfl (Nat.le_of_ble_eq_true rfl) dX7_init_82 (fun H locs hP hD hS => ?_)
  have hP : va_P (dC, dI) vwCl [(h0, .inr (7, [.ref q8, .ref q17, vI0, vN, vN, .ref q31, .ref q40, .ref q49, .ref q58, .ref q67, vI0, .ref q80, vN, vI0])), rz q8 cq8 1200, rz q17 cq8 1200, rz q31 cq8 1200, rz q40 cq8 1200, rz q49 cq8 1200, rz q58 cq8 1200, rz q67 cq8 1200, rz q80 cq8 40] H := hP
  have hD : va_D A [(h0, .inr (7, [.ref q8, .ref q17, vI0, vN, vN, .ref q31, .ref q40, .ref q49, .ref q58, .ref q67, vI0, .ref q80, vN, vI0])), rz q8 cq8 1200, rz q17 cq8 1200, rz q31 cq8 1200, rz q40 cq8 1200, rz q49 cq8 1200, rz q58 cq8 1200, rz q67 cq8 1200, rz q80 cq8 40] := hD
  refine lv_aload_n hx hb dX7_init_85 rfl (lv_at hl 0 rfl) ?_
  refine lv_bipush (v := 40) hx hb dX7_init_86 (by decide) ?_
  refine va_newa (atype := .boolean) (a0 := (40, .inl (fun _ => 0))) hx hb (hg (.arrayClass .boolean) gw_1_113) rfl hK hP hD hS hA (fun _ => rfl) (by decide) (N' := 40) rfl (Nat.le_of_ble_eq_true rfl) (Nat.le_of_ble_eq_true rfl) (Nat.le_of_ble_eq_true rfl) dX7_init_88 (fun q88 cq88 H hK hP hD hS => ?_)
  have hK : va_K (dC, dI) vwCl [(cq8, .int), (cq88, .boolean)] s := hK
  have hP : va_P (dC, dI) vwCl [(h0, .inr (7, [.ref q8, .ref q17, vI0, vN, vN, .ref q31, .ref q40, .ref q49, .ref q58, .ref q67, vI0, .ref q80, vN, vI0])), rz q8 cq8 1200, rz q17 cq8 1200, rz q31 cq8 1200, rz q40 cq8 1200, rz q49 cq8 1200, rz q58 cq8 1200, rz q67 cq8 1200, rz q80 cq8 40, rz q88 cq88 40] H := hP
  have hD : va_D A [(h0, .inr (7, [.ref q8, .ref q17, vI0, vN, vN, .ref q31, .ref q40, .ref q49, .ref q58, .ref q67, vI0, .ref q80, vN, vI0])), rz q8 cq8 1200, rz q17 cq8 1200, rz q31 cq8 1200, rz q40 cq8 1200, rz q49 cq8 1200, rz q58 cq8 1200, rz q67 cq8 1200, rz q80 cq8 40, rz q88 cq88 40] := hD
  refine W.widen (k := 9) (n := 8480) (Nat.le_of_ble_eq_true rfl) (Nat.le_of_ble_eq_true rfl) ?_
  refine va_putF (D := (dC, dI)) (ci := 7) (v := .ref q88) (ty := .array .boolean) (C := RX7) (T := TX7) (N := 14) hx hb hg inG_X7 tyX7 tyX7_ok nmX7 hown hK hP hD hS 0 rfl rfl 12 (by decide) (hg (.fieldLink RX7 43 "AttributeDesk$Worker" "bads" "[Z") gw_2_129) (fun _ h9 => h9) rfl hin rfl (by decide +kernel) rfl rfl (Nat.le_of_ble_eq_true rfl) dX7_init_90 (fun H locs hP hD hS => ?_)
  have hP : va_P (dC, dI) vwCl [(h0, .inr (7, [.ref q8, .ref q17, vI0, vN, vN, .ref q31, .ref q40, .ref q49, .ref q58, .ref q67, vI0, .ref q80, .ref q88, vI0])), rz q8 cq8 1200, rz q17 cq8 1200, rz q31 cq8 1200, rz q40 cq8 1200, rz q49 cq8 1200, rz q58 cq8 1200, rz q67 cq8 1200, rz q80 cq8 40, rz q88 cq88 40] H := hP
  have hD : va_D A [(h0, .inr (7, [.ref q8, .ref q17, vI0, vN, vN, .ref q31, .ref q40, .ref q49, .ref q58, .ref q67, vI0, .ref q80, .ref q88, vI0])), rz q8 cq8 1200, rz q17 cq8 1200, rz q31 cq8 1200, rz q40 cq8 1200, rz q49 cq8 1200, rz q58 cq8 1200, rz q67 cq8 1200, rz q80 cq8 40, rz q88 cq88 40] := hD
  refine lv_aload_n hx hb dX7_init_93 rfl (lv_at hl 0 rfl) ?_
  refine lv_iconst (v := 0) hx hb dX7_init_94 (by decide) ?_
  refine va_put (D := (dC, dI)) (ci := 7) (v := .int 0) (ty := .int) (C := RX7) (T := TX7) (N := 14) hx hb hg inG_X7 tyX7 tyX7_ok nmX7 hown hK hP hD hS 0 rfl rfl 13 (by decide) (hg (.fieldLink RX7 47 "AttributeDesk$Worker" "valueCount" "I") gw_2_130) (fun _ h9 => h9) rfl (by decide +kernel) rfl rfl (Nat.le_of_ble_eq_true rfl) dX7_init_95 (fun H locs hP hD hS => ?_)
  have hP : va_P (dC, dI) vwCl [(h0, .inr (7, [.ref q8, .ref q17, vI0, vN, vN, .ref q31, .ref q40, .ref q49, .ref q58, .ref q67, vI0, .ref q80, .ref q88, vI0])), rz q8 cq8 1200, rz q17 cq8 1200, rz q31 cq8 1200, rz q40 cq8 1200, rz q49 cq8 1200, rz q58 cq8 1200, rz q67 cq8 1200, rz q80 cq8 40, rz q88 cq88 40] H := hP
  have hD : va_D A [(h0, .inr (7, [.ref q8, .ref q17, vI0, vN, vN, .ref q31, .ref q40, .ref q49, .ref q58, .ref q67, vI0, .ref q80, .ref q88, vI0])), rz q8 cq8 1200, rz q17 cq8 1200, rz q31 cq8 1200, rz q40 cq8 1200, rz q49 cq8 1200, rz q58 cq8 1200, rz q67 cq8 1200, rz q80 cq8 40, rz q88 cq88 40] := hD
  refine lv_aload_n hx hb dX7_init_98 rfl (lv_at hl 0 rfl) ?_
  refine lv_aload_n hx hb dX7_init_99 rfl (lv_at hl 1 rfl) ?_
  refine va_put (D := (dC, dI)) (ci := 7) (v := .ref a1) (ty := .object "AttributeDesk$Grammar") (C := RX7) (T := TX7) (N := 14) hx hb hg inG_X7 tyX7 tyX7_ok nmX7 hown hK hP hD hS 0 rfl rfl 3 (by decide) (hg (.fieldLink RX7 50 "AttributeDesk$Worker" "grammar" "LAttributeDesk$Grammar;") gw_2_120) (fun _ h9 => h9) rfl (by decide +kernel) rfl rfl (Nat.le_of_ble_eq_true rfl) dX7_init_100 (fun H locs hP hD hS => ?_)
  have hP : va_P (dC, dI) vwCl [(h0, .inr (7, [.ref q8, .ref q17, vI0, .ref a1, vN, .ref q31, .ref q40, .ref q49, .ref q58, .ref q67, vI0, .ref q80, .ref q88, vI0])), rz q8 cq8 1200, rz q17 cq8 1200, rz q31 cq8 1200, rz q40 cq8 1200, rz q49 cq8 1200, rz q58 cq8 1200, rz q67 cq8 1200, rz q80 cq8 40, rz q88 cq88 40] H := hP
  have hD : va_D A [(h0, .inr (7, [.ref q8, .ref q17, vI0, .ref a1, vN, .ref q31, .ref q40, .ref q49, .ref q58, .ref q67, vI0, .ref q80, .ref q88, vI0])), rz q8 cq8 1200, rz q17 cq8 1200, rz q31 cq8 1200, rz q40 cq8 1200, rz q49 cq8 1200, rz q58 cq8 1200, rz q67 cq8 1200, rz q80 cq8 40, rz q88 cq88 40] := hD
  refine lv_aload_n hx hb dX7_init_103 rfl (lv_at hl 0 rfl) ?_
  refine lv_aload_n hx hb dX7_init_104 rfl (lv_at hl 2 rfl) ?_
  refine va_put (D := (dC, dI)) (ci := 7) (v := .ref a2) (ty := .object "AttributeDesk$Tree") (C := RX7) (T := TX7) (N := 14) hx hb hg inG_X7 tyX7 tyX7_ok nmX7 hown hK hP hD hS 0 rfl rfl 4 (by decide) (hg (.fieldLink RX7 54 "AttributeDesk$Worker" "tree" "LAttributeDesk$Tree;") gw_2_121) (fun _ h9 => h9) rfl (by decide +kernel) rfl rfl (Nat.le_of_ble_eq_true rfl) dX7_init_105 (fun H locs hP hD hS => ?_)
  have hP : va_P (dC, dI) vwCl [(h0, .inr (7, [.ref q8, .ref q17, vI0, .ref a1, .ref a2, .ref q31, .ref q40, .ref q49, .ref q58, .ref q67, vI0, .ref q80, .ref q88, vI0])), rz q8 cq8 1200, rz q17 cq8 1200, rz q31 cq8 1200, rz q40 cq8 1200, rz q49 cq8 1200, rz q58 cq8 1200, rz q67 cq8 1200, rz q80 cq8 40, rz q88 cq88 40] H := hP
  have hD : va_D A [(h0, .inr (7, [.ref q8, .ref q17, vI0, .ref a1, .ref a2, .ref q31, .ref q40, .ref q49, .ref q58, .ref q67, vI0, .ref q80, .ref q88, vI0])), rz q8 cq8 1200, rz q17 cq8 1200, rz q31 cq8 1200, rz q40 cq8 1200, rz q49 cq8 1200, rz q58 cq8 1200, rz q67 cq8 1200, rz q80 cq8 40, rz q88 cq88 40] := hD
  have hP9 := hP.sub (ws' := [(h0, .inr (7, [.ref q8, .ref q17, vI0, .ref a1, .ref a2, .ref q31, .ref q40, .ref q49, .ref q58, .ref q67, vI0, .ref q80, .ref q88, vI0])), rz q8 cq8 1200, rz q17 cq8 1200, rz q31 cq8 1200, rz q40 cq8 1200, rz q49 cq8 1200, rz q58 cq8 1200, rz q67 cq8 1200, rz q80 cq8 40, rz q88 cq88 40]) [0, 1, 2, 3, 4, 5, 6, 7, 8, 9] rfl
  have hD9 := hD.sub (ws' := [(h0, .inr (7, [.ref q8, .ref q17, vI0, .ref a1, .ref a2, .ref q31, .ref q40, .ref q49, .ref q58, .ref q67, vI0, .ref q80, .ref q88, vI0])), rz q8 cq8 1200, rz q17 cq8 1200, rz q31 cq8 1200, rz q40 cq8 1200, rz q49 cq8 1200, rz q58 cq8 1200, rz q67 cq8 1200, rz q80 cq8 40, rz q88 cq88 40]) [0, 1, 2, 3, 4, 5, 6, 7, 8, 9] (by decide +kernel) rfl
  have hK9 := hK.sub (tys' := [(cq8, .int), (cq88, .boolean)]) [0, 1] rfl
  refine W.widen (k := 9) (n := 8480) (Nat.le_of_ble_eq_true rfl) (Nat.le_of_ble_eq_true rfl) ?_
  exact W.vret hx hb hr (fun t ht hW => ⟨⟨(), rfl, trivial, q8, q17, q31, q40, q49, q58, q67, q80, q88, cq8, cq88, by rw [ht]; exact hP9, va_K.moved hW.alike hK9, hD9⟩, hS.F ht⟩) hS.2.2 dX7_init_108
