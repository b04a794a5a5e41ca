set_option maxHeartbeats 4000000 in
set_option maxRecDepth 100000 in
theorem c_X0_bindingOf (l : Launch) (dC : Nat → ClassId) (dI : Nat → Nat → Nat) (sz : Nat) (c_ : Int) (h0 : -2147483648 ≤ c_ ∧ c_ < 2147483648) : Met l yX0_bindingOf wyX0_bindingOf ({ frames := 0, cells := 0, slots := 0, locals := 0 }) (va_Pc [.int (zI c_)] (fun U => U.heap.size = sz ∧ va_P (dC, dI) vwCl [] U.heap ∧ va_K (dC, dI) vwCl [] U ∧ va_D (fun _ => True) [])) (va_Qi (fun (rr : Int32) (_ : Unit) => rr = zI ((kBn c_))) (fun _ t => va_P (dC, dI) vwCl [] t.heap ∧ va_K (dC, dI) vwCl [] t ∧ va_D (va_A [] sz) []) (va_A [] sz)) 0 0 (va_A [] sz) := by
  refine Met.ofW (cc := cX0_bindingOf) (maxL := 1) (ret := (some .int)) (by decide) rfl ?_
  intro p e s m args below meth c s₁ B hml hv
  obtain ⟨rfl, hsz, hP, hK, hD0⟩ := hv
  have hx := B.exec
  have hb := B.bytes
  have hr := B.returns
  have hts := atoms_spec (ws := wyX0_bindingOf) B.pre
  have hg : ∀ w ∈ lw_G, w.before _ s = true := fun w h => hts w (List.mem_cons_of_mem _ h)
  have hown : s.vm.findClass RX0 = some m.cls := findClass_of_methodNamed B.named
  have hlocks := B.notSynchronized
  subst hsz
  have hD := hD0.self (sz := s.heap.size)
  generalize hAe : va_A [] s.heap.size = A at hD ⊢
  have hA : ∀ q : Nat, s.heap.size ≤ q → A q := fun q h => by rw [← hAe]; exact Or.inr h
  have hS : va_S A s.heap s.heap [] := va_S.rf
  have hP : va_P (dC, dI) vwCl [] s.heap := hP
  have hl := lv_entry ([.int (zI c_)]) (n := 1) (Nat.le_of_ble_eq_true rfl)
  rw [lg_entry_eq]
  generalize (lg_sl ([.int (zI c_)]) ++ List.replicate (1 - (lg_sl ([.int (zI c_)])).length) Slot.unset).toArray = ls at hl ⊢
  have hl : lv_has ls 1 [(0, .int (zI c_))] := hl
  refine lv_iload_n hx hb dX0_bindingOf_0 rfl (lv_at hl 0 rfl) ?_
  by_cases s1 : c_ = 11
  · refine zv_lookup (off := 91) (tgt := 92) hx hb dX0_bindingOf_1 (by decide) (by omega) (by rw [s1]; decide) (by decide) ?_
    refine lv_iconst (v := zI 1) hx hb dX0_bindingOf_92 rfl ?_
    have hP9 := hP.sub (ws' := []) [] rfl
    have hD9 := hD.sub (ws' := []) [] (by decide) rfl
    have hK9 := hK.sub (tys' := []) [] rfl
    exact W.iret (v := zI 1) hx hb hr (fun t ht hW => ⟨⟨zI 1, (), rfl, congrArg zI (by rw [s1]; decide), by rw [ht]; exact hP9, va_K.moved hW.alike hK9, hD9⟩, hS.F ht⟩) hS.2.2 dX0_bindingOf_93
  by_cases s2 : c_ = 37
  · refine zv_lookup (off := 85) (tgt := 86) hx hb dX0_bindingOf_1 (by decide) (by omega) (by rw [s2]; decide) (by decide) ?_
    refine lv_iconst (v := zI 4) hx hb dX0_bindingOf_86 rfl ?_
    have hP9 := hP.sub (ws' := []) [] rfl
    have hD9 := hD.sub (ws' := []) [] (by decide) rfl
    have hK9 := hK.sub (tys' := []) [] rfl
    exact W.iret (v := zI 4) hx hb hr (fun t ht hW => ⟨⟨zI 4, (), rfl, congrArg zI (by rw [s2]; decide), by rw [ht]; exact hP9, va_K.moved hW.alike hK9, hD9⟩, hS.F ht⟩) hS.2.2 dX0_bindingOf_87
  by_cases s3 : c_ = 42
  · refine zv_lookup (off := 85) (tgt := 86) hx hb dX0_bindingOf_1 (by decide) (by omega) (by rw [s3]; decide) (by decide) ?_
    refine lv_iconst (v := zI 4) hx hb dX0_bindingOf_86 rfl ?_
    have hP9 := hP.sub (ws' := []) [] rfl
    have hD9 := hD.sub (ws' := []) [] (by decide) rfl
    have hK9 := hK.sub (tys' := []) [] rfl
    exact W.iret (v := zI 4) hx hb hr (fun t ht hW => ⟨⟨zI 4, (), rfl, congrArg zI (by rw [s3]; decide), by rw [ht]; exact hP9, va_K.moved hW.alike hK9, hD9⟩, hS.F ht⟩) hS.2.2 dX0_bindingOf_87
  by_cases s4 : c_ = 43
  · refine zv_lookup (off := 87) (tgt := 88) hx hb dX0_bindingOf_1 (by decide) (by omega) (by rw [s4]; decide) (by decide) ?_
    refine lv_iconst (v := zI 3) hx hb dX0_bindingOf_88 rfl ?_
    have hP9 := hP.sub (ws' := []) [] rfl
    have hD9 := hD.sub (ws' := []) [] (by decide) rfl
    have hK9 := hK.sub (tys' := []) [] rfl
    exact W.iret (v := zI 3) hx hb hr (fun t ht hW => ⟨⟨zI 3, (), rfl, congrArg zI (by rw [s4]; decide), by rw [ht]; exact hP9, va_K.moved hW.alike hK9, hD9⟩, hS.F ht⟩) hS.2.2 dX0_bindingOf_89
  by_cases s5 : c_ = 45
  · refine zv_lookup (off := 87) (tgt := 88) hx hb dX0_bindingOf_1 (by decide) (by omega) (by rw [s5]; decide) (by decide) ?_
    refine lv_iconst (v := zI 3) hx hb dX0_bindingOf_88 rfl ?_
    have hP9 := hP.sub (ws' := []) [] rfl
    have hD9 := hD.sub (ws' := []) [] (by decide) rfl
    have hK9 := hK.sub (tys' := []) [] rfl
    exact W.iret (v := zI 3) hx hb hr (fun t ht hW => ⟨⟨zI 3, (), rfl, congrArg zI (by rw [s5]; decide), by rw [ht]; exact hP9, va_K.moved hW.alike hK9, hD9⟩, hS.F ht⟩) hS.2.2 dX0_bindingOf_89
  by_cases s6 : c_ = 47
  · refine zv_lookup (off := 85) (tgt := 86) hx hb dX0_bindingOf_1 (by decide) (by omega) (by rw [s6]; decide) (by decide) ?_
    refine lv_iconst (v := zI 4) hx hb dX0_bindingOf_86 rfl ?_
    have hP9 := hP.sub (ws' := []) [] rfl
    have hD9 := hD.sub (ws' := []) [] (by decide) rfl
    have hK9 := hK.sub (tys' := []) [] rfl
    exact W.iret (v := zI 4) hx hb hr (fun t ht hW => ⟨⟨zI 4, (), rfl, congrArg zI (by rw [s6]; decide), by rw [ht]; exact hP9, va_K.moved hW.alike hK9, hD9⟩, hS.F ht⟩) hS.2.2 dX0_bindingOf_87
  by_cases s7 : c_ = 60
  · refine zv_lookup (off := 89) (tgt := 90) hx hb dX0_bindingOf_1 (by decide) (by omega) (by rw [s7]; decide) (by decide) ?_
    refine lv_iconst (v := zI 2) hx hb dX0_bindingOf_90 rfl ?_
    have hP9 := hP.sub (ws' := []) [] rfl
    have hD9 := hD.sub (ws' := []) [] (by decide) rfl
    have hK9 := hK.sub (tys' := []) [] rfl
    exact W.iret (v := zI 2) hx hb hr (fun t ht hW => ⟨⟨zI 2, (), rfl, congrArg zI (by rw [s7]; decide), by rw [ht]; exact hP9, va_K.moved hW.alike hK9, hD9⟩, hS.F ht⟩) hS.2.2 dX0_bindingOf_91
  by_cases s8 : c_ = 61
  · refine zv_lookup (off := 89) (tgt := 90) hx hb dX0_bindingOf_1 (by decide) (by omega) (by rw [s8]; decide) (by decide) ?_
    refine lv_iconst (v := zI 2) hx hb dX0_bindingOf_90 rfl ?_
    have hP9 := hP.sub (ws' := []) [] rfl
    have hD9 := hD.sub (ws' := []) [] (by decide) rfl
    have hK9 := hK.sub (tys' := []) [] rfl
    exact W.iret (v := zI 2) hx hb hr (fun t ht hW => ⟨⟨zI 2, (), rfl, congrArg zI (by rw [s8]; decide), by rw [ht]; exact hP9, va_K.moved hW.alike hK9, hD9⟩, hS.F ht⟩) hS.2.2 dX0_bindingOf_91
  by_cases s9 : c_ = 126
  · refine zv_lookup (off := 83) (tgt := 84) hx hb dX0_bindingOf_1 (by decide) (by omega) (by rw [s9]; decide) (by decide) ?_
    refine lv_iconst (v := zI 5) hx hb dX0_bindingOf_84 rfl ?_
    have hP9 := hP.sub (ws' := []) [] rfl
    have hD9 := hD.sub (ws' := []) [] (by decide) rfl
    have hK9 := hK.sub (tys' := []) [] rfl
    exact W.iret (v := zI 5) hx hb hr (fun t ht hW => ⟨⟨zI 5, (), rfl, congrArg zI (by rw [s9]; decide), by rw [ht]; exact hP9, va_K.moved hW.alike hK9, hD9⟩, hS.F ht⟩) hS.2.2 dX0_bindingOf_85
  refine zv_lookup (off := 93) (tgt := 94) hx hb dX0_bindingOf_1 (by decide) (by omega) (by simp [Op.lookupswitch.offset, List.find?, *]; try omega) (by decide) ?_
  refine lv_iconst (v := zI 0) hx hb dX0_bindingOf_94 rfl ?_
  have hP9 := hP.sub (ws' := []) [] rfl
  have hD9 := hD.sub (ws' := []) [] (by decide) rfl
  have hK9 := hK.sub (tys' := []) [] rfl
  exact W.iret (v := zI 0) hx hb hr (fun t ht hW => ⟨⟨zI 0, (), rfl, congrArg zI (by unfold kBn; repeat rw [if_neg (by omega)]), by rw [ht]; exact hP9, va_K.moved hW.alike hK9, hD9⟩, hS.F ht⟩) hS.2.2 dX0_bindingOf_95

set_option maxHeartbeats 4000000 in
set_option maxRecDepth 100000 in
theorem c_X0_isOneTooMany (l : Launch) (dC : Nat → ClassId) (dI : Nat → Nat → Nat) (xr tk gr gwt : Nat) (sz : Nat) (xru_ : Int) (xta_ : Int) (xst_ : Int) (xtc_ : Int) (xop_ : Int) (xwc_ : Int) (xoc_ : Int) (xic_ : Int) (htc : 0 ≤ xtc_ ∧ xtc_ ≤ 100000) : Met l yX0_isOneTooMany wyX0_isOneTooMany ({ frames := 0, cells := 0, slots := 0, locals := 0 }) (va_Pc [.ref xr] (fun U => U.heap.size = sz ∧ va_P (dC, dI) vwCl [(xr, .inr (0, [.ref tk, .ref gr, .int (zI xru_), .int (zI xta_), .int (zI xst_), .int (zI xtc_), .int (zI xop_), .ref gwt, .int (zI xwc_), .int (zI xoc_), .int (zI xic_)]))] U.heap ∧ va_K (dC, dI) vwCl [] U ∧ va_D (fun _ => True) [(xr, .inr (0, [.ref tk, .ref gr, .int (zI xru_), .int (zI xta_), .int (zI xst_), .int (zI xtc_), .int (zI xop_), .ref gwt, .int (zI xwc_), .int (zI xoc_), .int (zI xic_)]))])) (va_Qi (fun (rr : Int32) (r : Int) => rr = zI r) (fun r t => ((r = 1 ∧ 40 < xtc_ + 1) ∨ (r = 0 ∧ ¬ 40 < xtc_ + 1)) ∧ va_P (dC, dI) vwCl [(xr, .inr (0, [.ref tk, .ref gr, .int (zI xru_), .int (zI xta_), .int (zI xst_), .int (zI (xtc_ + 1)), .int (zI xop_), .ref gwt, .int (zI xwc_), .int (zI xoc_), .int (zI xic_)]))] t.heap ∧ va_K (dC, dI) vwCl [] t ∧ va_D (va_A [(xr, .inr (0, [.ref tk, .ref gr, .int (zI xru_), .int (zI xta_), .int (zI xst_), .int (zI xtc_), .int (zI xop_), .ref gwt, .int (zI xwc_), .int (zI xoc_), .int (zI xic_)]))] sz) [(xr, .inr (0, [.ref tk, .ref gr, .int (zI xru_), .int (zI xta_), .int (zI xst_), .int (zI (xtc_ + 1)), .int (zI xop_), .ref gwt, .int (zI xwc_), .int (zI xoc_), .int (zI xic_)]))]) (va_A [(xr, .inr (0, [.ref tk, .ref gr, .int (zI xru_), .int (zI xta_), .int (zI xst_), .int (zI xtc_), .int (zI xop_), .ref gwt, .int (zI xwc_), .int (zI xoc_), .int (zI xic_)]))] sz)) 0 0 (va_A [(xr, .inr (0, [.ref tk, .ref gr, .int (zI xru_), .int (zI xta_), .int (zI xst_), .int (zI xtc_), .int (zI xop_), .ref gwt, .int (zI xwc_), .int (zI xoc_), .int (zI xic_)]))] sz) := by
  refine Met.ofW (cc := cX0_isOneTooMany) (maxL := 1) (ret := (some .boolean)) (by decide) rfl ?_
  intro p e s m args below meth c s₁ B hml hv
  obtain ⟨rfl, hsz, hP, hK, hD0⟩ := hv
  have hx := B.exec
  have hb := B.bytes
  have hr := B.returns
  have hts := atoms_spec (ws := wyX0_isOneTooMany) B.pre
  have hg : ∀ w ∈ lw_G, w.before _ s = true := fun w h => hts w (List.mem_cons_of_mem _ h)
  have hown : s.vm.findClass RX0 = some m.cls := findClass_of_methodNamed B.named
  have hlocks := B.notSynchronized
  subst hsz
  have hD := hD0.self (sz := s.heap.size)
  generalize hAe : va_A [(xr, .inr (0, [.ref tk, .ref gr, .int (zI xru_), .int (zI xta_), .int (zI xst_), .int (zI xtc_), .int (zI xop_), .ref gwt, .int (zI xwc_), .int (zI xoc_), .int (zI xic_)]))] s.heap.size = A at hD ⊢
  have hA : ∀ q : Nat, s.heap.size ≤ q → A q := fun q h => by rw [← hAe]; exact Or.inr h
  have hS : va_S A s.heap s.heap [] := va_S.rf
  have hP : va_P (dC, dI) vwCl [(xr, .inr (0, [.ref tk, .ref gr, .int (zI xru_), .int (zI xta_), .int (zI xst_), .int (zI xtc_), .int (zI xop_), .ref gwt, .int (zI xwc_), .int (zI xoc_), .int (zI xic_)]))] s.heap := hP
  have hl := lv_entry ([.ref xr]) (n := 1) (Nat.le_of_ble_eq_true rfl)
  rw [lg_entry_eq]
  generalize (lg_sl ([.ref xr]) ++ List.replicate (1 - (lg_sl ([.ref xr])).length) Slot.unset).toArray = ls at hl ⊢
  have hl : lv_has ls 1 [(0, .ref xr)] := hl
  refine lv_aload_n hx hb dX0_isOneTooMany_0 rfl (lv_at hl 0 rfl) ?_
  refine lv_dup hx hb dX0_isOneTooMany_1 rfl ?_
  refine va_get (D := (dC, dI)) (ci := 0) (v := .int (zI xtc_)) (C := RX0) (T := TX0) (N := 11) hx hb hg inG_X0 hown hK hP 0 rfl rfl 5 (by decide) (hg (.fieldLink RX0 21 "AttributeDesk$ExpressionReader" "tokenCount" "I") gw_1_209) (fun _ h9 => h9) rfl dX0_isOneTooMany_2 ?_
  refine lv_iconst (v := zI 1) hx hb dX0_isOneTooMany_5 rfl ?_
  refine zv_iadd (r := xtc_ + 1) hx hb dX0_isOneTooMany_6 (by omega) ?_
  refine va_put (D := (dC, dI)) (ci := 0) (v := .int (zI (xtc_ + 1))) (ty := .int) (C := RX0) (T := TX0) (N := 11) hx hb hg inG_X0 tyX0 tyX0_ok nmX0 hown hK hP hD hS 0 rfl rfl 5 (by decide) (hg (.fieldLink RX0 21 "AttributeDesk$ExpressionReader" "tokenCount" "I") gw_1_209) (fun _ h9 => h9) rfl (by decide +kernel) rfl rfl (Nat.le_of_ble_eq_true rfl) dX0_isOneTooMany_7 (fun H locs hP hD hS => ?_)
  have hP : va_P (dC, dI) vwCl [(xr, .inr (0, [.ref tk, .ref gr, .int (zI xru_), .int (zI xta_), .int (zI xst_), .int (zI (xtc_ + 1)), .int (zI xop_), .ref gwt, .int (zI xwc_), .int (zI xoc_), .int (zI xic_)]))] H := hP
  have hD : va_D A [(xr, .inr (0, [.ref tk, .ref gr, .int (zI xru_), .int (zI xta_), .int (zI xst_), .int (zI (xtc_ + 1)), .int (zI xop_), .ref gwt, .int (zI xwc_), .int (zI xoc_), .int (zI xic_)]))] := hD
  refine lv_aload_n hx hb dX0_isOneTooMany_10 rfl (lv_at hl 0 rfl) ?_
  refine va_get (D := (dC, dI)) (ci := 0) (v := .int (zI (xtc_ + 1))) (C := RX0) (T := TX0) (N := 11) hx hb hg inG_X0 hown hK hP 0 rfl rfl 5 (by decide) (hg (.fieldLink RX0 21 "AttributeDesk$ExpressionReader" "tokenCount" "I") gw_1_209) (fun _ h9 => h9) rfl dX0_isOneTooMany_11 ?_
  refine lv_bipush (v := zI 40) hx hb dX0_isOneTooMany_14 (by decide) ?_
  refine zv_icmp_le (tgt := 23) hx hb dX0_isOneTooMany_16 (by decide) (by omega) (by decide) (fun c1 => ?_) (fun c1 => ?_)
  · refine lv_iconst (v := zI 0) hx hb dX0_isOneTooMany_23 rfl ?_
    have hP9 := hP.sub (ws' := [(xr, .inr (0, [.ref tk, .ref gr, .int (zI xru_), .int (zI xta_), .int (zI xst_), .int (zI (xtc_ + 1)), .int (zI xop_), .ref gwt, .int (zI xwc_), .int (zI xoc_), .int (zI xic_)]))]) [0] rfl
    have hD9 := hD.sub (ws' := [(xr, .inr (0, [.ref tk, .ref gr, .int (zI xru_), .int (zI xta_), .int (zI xst_), .int (zI (xtc_ + 1)), .int (zI xop_), .ref gwt, .int (zI xwc_), .int (zI xoc_), .int (zI xic_)]))]) [0] (by decide) rfl
    have hK9 := hK.sub (tys' := []) [] rfl
    exact W.zret (v := zI 0) hx hb hr (by decide) (fun t ht hW => ⟨⟨zI 0, 0, rfl, rfl, (by omega), by rw [ht]; exact hP9, va_K.moved hW.alike hK9, hD9⟩, hS.F ht⟩) hS.2.2 dX0_isOneTooMany_24
  · refine lv_iconst (v := zI 1) hx hb dX0_isOneTooMany_19 rfl ?_
    refine lv_goto (tgt := 24) hx hb dX0_isOneTooMany_20 (by decide) ?_
    have hP9 := hP.sub (ws' := [(xr, .inr (0, [.ref tk, .ref gr, .int (zI xru_), .int (zI xta_), .int (zI xst_), .int (zI (xtc_ + 1)), .int (zI xop_), .ref gwt, .int (zI xwc_), .int (zI xoc_), .int (zI xic_)]))]) [0] rfl
    have hD9 := hD.sub (ws' := [(xr, .inr (0, [.ref tk, .ref gr, .int (zI xru_), .int (zI xta_), .int (zI xst_), .int (zI (xtc_ + 1)), .int (zI xop_), .ref gwt, .int (zI xwc_), .int (zI xoc_), .int (zI xic_)]))]) [0] (by decide) rfl
    have hK9 := hK.sub (tys' := []) [] rfl
    exact W.zret (v := zI 1) hx hb hr (by decide) (fun t ht hW => ⟨⟨zI 1, 1, rfl, rfl, (by omega), by rw [ht]; exact hP9, va_K.moved hW.alike hK9, hD9⟩, hS.F ht⟩) hS.2.2 dX0_isOneTooMany_24

set_option maxHeartbeats 4000000 in
set_option maxRecDepth 100000 in
theorem c_X0_top (l : Launch) (dC : Nat → ClassId) (dI : Nat → Nat → Nat) (xr gwt tk gr : Nat) (cI : ClassId) (sz : Nat) (xru_ : Int) (xta_ : Int) (xst_ : Int) (xtc_ : Int) (xop_ : Int) (xwc_ : Int) (xoc_ : Int) (xic_ : Int) (wt_ : Int → Int) (hwc : 0 ≤ xwc_ ∧ xwc_ ≤ 40) (hwt : ∀ j : Int, 0 ≤ j ∧ j < 40 → -128 ≤ wt_ j ∧ wt_ j < 128) : Met l yX0_top wyX0_top ({ frames := 0, cells := 0, slots := 0, locals := 0 }) (va_Pc [.ref xr] (fun U => U.heap.size = sz ∧ va_P (dC, dI) vwCl [(xr, .inr (0, [.ref tk, .ref gr, .int (zI xru_), .int (zI xta_), .int (zI xst_), .int (zI xtc_), .int (zI xop_), .ref gwt, .int (zI xwc_), .int (zI xoc_), .int (zI xic_)])), (gwt, .inl (cI, 40, .inl (zF wt_)))] U.heap ∧ va_K (dC, dI) vwCl [(cI, .int)] U ∧ va_D (fun _ => True) [(xr, .inr (0, [.ref tk, .ref gr, .int (zI xru_), .int (zI xta_), .int (zI xst_), .int (zI xtc_), .int (zI xop_), .ref gwt, .int (zI xwc_), .int (zI xoc_), .int (zI xic_)])), (gwt, .inl (cI, 40, .inl (zF wt_)))])) (va_Qi (fun (rr : Int32) (_ : Unit) => rr = zI ((kTop wt_ xwc_))) (fun _ t => va_P (dC, dI) vwCl [(xr, .inr (0, [.ref tk, .ref gr, .int (zI xru_), .int (zI xta_), .int (zI xst_), .int (zI xtc_), .int (zI xop_), .ref gwt, .int (zI xwc_), .int (zI xoc_), .int (zI xic_)])), (gwt, .inl (cI, 40, .inl (zF wt_)))] t.heap ∧ va_K (dC, dI) vwCl [(cI, .int)] t ∧ va_D (va_A [(xr, .inr (0, [.ref tk, .ref gr, .int (zI xru_), .int (zI xta_), .int (zI xst_), .int (zI xtc_), .int (zI xop_), .ref gwt, .int (zI xwc_), .int (zI xoc_), .int (zI xic_)])), (gwt, .inl (cI, 40, .inl (zF wt_)))] sz) [(xr, .inr (0, [.ref tk, .ref gr, .int (zI xru_), .int (zI xta_), .int (zI xst_), .int (zI xtc_), .int (zI xop_), .ref gwt, .int (zI xwc_), .int (zI xoc_), .int (zI xic_)])), (gwt, .inl (cI, 40, .inl (zF wt_)))]) (va_A [(xr, .inr (0, [.ref tk, .ref gr, .int (zI xru_), .int (zI xta_), .int (zI xst_), .int (zI xtc_), .int (zI xop_), .ref gwt, .int (zI xwc_), .int (zI xoc_), .int (zI xic_)])), (gwt, .inl (cI, 40, .inl (zF wt_)))] sz)) 0 0 (va_A [(xr, .inr (0, [.ref tk, .ref gr, .int (zI xru_), .int (zI xta_), .int (zI xst_), .int (zI xtc_), .int (zI xop_), .ref gwt, .int (zI xwc_), .int (zI xoc_), .int (zI xic_)])), (gwt, .inl (cI, 40, .inl (zF wt_)))] sz) := by
  refine Met.ofW (cc := cX0_top) (maxL := 1) (ret := (some .int)) (by decide) rfl ?_
  intro p e s m args below meth c s₁ B hml hv
  obtain ⟨rfl, hsz, hP, hK, hD0⟩ := hv
  have hx := B.exec
  have hb := B.bytes
  have hr := B.returns
  have hts := atoms_spec (ws := wyX0_top) B.pre
  have hg : ∀ w ∈ lw_G, w.before _ s = true := fun w h => hts w (List.mem_cons_of_mem _ h)
  have hown : s.vm.findClass RX0 = some m.cls := findClass_of_methodNamed B.named
  have hlocks := B.notSynchronized
  subst hsz
  have hD := hD0.self (sz := s.heap.size)
  generalize hAe : va_A [(xr, .inr (0, [.ref tk, .ref gr, .int (zI xru_), .int (zI xta_), .int (zI xst_), .int (zI xtc_), .int (zI xop_), .ref gwt, .int (zI xwc_), .int (zI xoc_), .int (zI xic_)])), (gwt, .inl (cI, 40, .inl (zF wt_)))] s.heap.size = A at hD ⊢
  have hA : ∀ q : Nat, s.heap.size ≤ q → A q := fun q h => by rw [← hAe]; exact Or.inr h
  have hS : va_S A s.heap s.heap [] := va_S.rf
  have hP : va_P (dC, dI) vwCl [(xr, .inr (0, [.ref tk, .ref gr, .int (zI xru_), .int (zI xta_), .int (zI xst_), .int (zI xtc_), .int (zI xop_), .ref gwt, .int (zI xwc_), .int (zI xoc_), .int (zI xic_)])), (gwt, .inl (cI, 40, .inl (zF wt_)))] s.heap := hP
  have hl := lv_entry ([.ref xr]) (n := 1) (Nat.le_of_ble_eq_true rfl)
  rw [lg_entry_eq]
  generalize (lg_sl ([.ref xr]) ++ List.replicate (1 - (lg_sl ([.ref xr])).length) Slot.unset).toArray = ls at hl ⊢
  have hl : lv_has ls 1 [(0, .ref xr)] := hl
  refine lv_aload_n hx hb dX0_top_0 rfl (lv_at hl 0 rfl) ?_
  refine va_get (D := (dC, dI)) (ci := 0) (v := .int (zI xwc_)) (C := RX0) (T := TX0) (N := 11) hx hb hg inG_X0 hown hK hP 0 rfl rfl 8 (by decide) (hg (.fieldLink RX0 31 "AttributeDesk$ExpressionReader" "waitingCount" "I") gw_1_212) (fun _ h9 => h9) rfl dX0_top_1 ?_
  refine zv_if_le (tgt := 21) hx hb dX0_top_4 (by decide) (by omega) (fun c1 => ?_) (fun c1 => ?_)
  · refine lv_iconst (v := zI (-1)) hx hb dX0_top_21 rfl ?_
    have hP9 := hP.sub (ws' := [(xr, .inr (0, [.ref tk, .ref gr, .int (zI xru_), .int (zI xta_), .int (zI xst_), .int (zI xtc_), .int (zI xop_), .ref gwt, .int (zI xwc_), .int (zI xoc_), .int (zI xic_)])), (gwt, .inl (cI, 40, .inl (zF wt_)))]) [0, 1] rfl
    have hD9 := hD.sub (ws' := [(xr, .inr (0, [.ref tk, .ref gr, .int (zI xru_), .int (zI xta_), .int (zI xst_), .int (zI xtc_), .int (zI xop_), .ref gwt, .int (zI xwc_), .int (zI xoc_), .int (zI xic_)])), (gwt, .inl (cI, 40, .inl (zF wt_)))]) [0, 1] (by decide) rfl
    have hK9 := hK.sub (tys' := [(cI, .int)]) [0] rfl
    exact W.iret (v := zI (-1)) hx hb hr (fun t ht hW => ⟨⟨zI (-1), (), rfl, congrArg zI (by unfold kTop; rw [if_neg (by omega)]), by rw [ht]; exact hP9, va_K.moved hW.alike hK9, hD9⟩, hS.F ht⟩) hS.2.2 dX0_top_22
  · refine lv_aload_n hx hb dX0_top_7 rfl (lv_at hl 0 rfl) ?_
    refine va_get (D := (dC, dI)) (ci := 0) (v := .ref gwt) (C := RX0) (T := TX0) (N := 11) hx hb hg inG_X0 hown hK hP 0 rfl rfl 7 (by decide) (hg (.fieldLink RX0 27 "AttributeDesk$ExpressionReader" "waiting" "[I") gw_1_211) (fun _ h9 => h9) rfl dX0_top_8 ?_
    refine lv_aload_n hx hb dX0_top_11 rfl (lv_at hl 0 rfl) ?_
    refine va_get (D := (dC, dI)) (ci := 0) (v := .int (zI xwc_)) (C := RX0) (T := TX0) (N := 11) hx hb hg inG_X0 hown hK hP 0 rfl rfl 8 (by decide) (hg (.fieldLink RX0 31 "AttributeDesk$ExpressionReader" "waitingCount" "I") gw_1_212) (fun _ h9 => h9) rfl dX0_top_12 ?_
    refine lv_iconst (v := zI 1) hx hb dX0_top_15 rfl ?_
    refine zv_isub (r := xwc_ - 1) hx hb dX0_top_16 (by omega) ?_
    refine zv_iald (D := (dC, dI)) hx hb hK hP 1 0 rfl rfl (by omega) (Nat.le_of_ble_eq_true rfl) dX0_top_17 ?_
    have hv2 := hwt (xwc_ - 1) (by omega)
    refine lv_goto (tgt := 22) hx hb dX0_top_18 (by decide) ?_
    have hP9 := hP.sub (ws' := [(xr, .inr (0, [.ref tk, .ref gr, .int (zI xru_), .int (zI xta_), .int (zI xst_), .int (zI xtc_), .int (zI xop_), .ref gwt, .int (zI xwc_), .int (zI xoc_), .int (zI xic_)])), (gwt, .inl (cI, 40, .inl (zF wt_)))]) [0, 1] rfl
    have hD9 := hD.sub (ws' := [(xr, .inr (0, [.ref tk, .ref gr, .int (zI xru_), .int (zI xta_), .int (zI xst_), .int (zI xtc_), .int (zI xop_), .ref gwt, .int (zI xwc_), .int (zI xoc_), .int (zI xic_)])), (gwt, .inl (cI, 40, .inl (zF wt_)))]) [0, 1] (by decide) rfl
    have hK9 := hK.sub (tys' := [(cI, .int)]) [0] rfl
    exact W.iret (v := zI ((wt_ (xwc_ - 1)))) hx hb hr (fun t ht hW => ⟨⟨zI ((wt_ (xwc_ - 1))), (), rfl, congrArg zI (by unfold kTop; rw [if_pos (by omega)]), by rw [ht]; exact hP9, va_K.moved hW.alike hK9, hD9⟩, hS.F ht⟩) hS.2.2 dX0_top_22

set_option maxHeartbeats 4000000 in
set_option maxRecDepth 100000 in
theorem c_X0_topBinds (l : Launch) (dC : Nat → ClassId) (dI : Nat → Nat → Nat) (xr gwt tk gr : Nat) (cI : ClassId) (sz : Nat) (xru_ : Int) (xta_ : Int) (xst_ : Int) (xtc_ : Int) (xop_ : Int) (xwc_ : Int) (xoc_ : Int) (xic_ : Int) (wt_ : Int → Int) (hwc : 0 ≤ xwc_ ∧ xwc_ ≤ 40) (hwt : ∀ j : Int, 0 ≤ j ∧ j < 40 → -128 ≤ wt_ j ∧ wt_ j < 128) : Met l yX0_topBinds wyX0_topBinds ({ frames := 1, cells := 0, slots := 0, locals := 20 }) (va_Pc [.ref xr] (fun U => U.heap.size = sz ∧ va_P (dC, dI) vwCl [(xr, .inr (0, [.ref tk, .ref gr, .int (zI xru_), .int (zI xta_), .int (zI xst_), .int (zI xtc_), .int (zI xop_), .ref gwt, .int (zI xwc_), .int (zI xoc_), .int (zI xic_)])), (gwt, .inl (cI, 40, .inl (zF wt_)))] U.heap ∧ va_K (dC, dI) vwCl [(cI, .int)] U ∧ va_D (fun _ => True) [(xr, .inr (0, [.ref tk, .ref gr, .int (zI xru_), .int (zI xta_), .int (zI xst_), .int (zI xtc_), .int (zI xop_), .ref gwt, .int (zI xwc_), .int (zI xoc_), .int (zI xic_)])), (gwt, .inl (cI, 40, .inl (zF wt_)))])) (va_Qi (fun (rr : Int32) (_ : Unit) => rr = zI ((kBn (kTop wt_ xwc_)))) (fun _ t => va_P (dC, dI) vwCl [(xr, .inr (0, [.ref tk, .ref gr, .int (zI xru_), .int (zI xta_), .int (zI xst_), .int (zI xtc_), .int (zI xop_), .ref gwt, .int (zI xwc_), .int (zI xoc_), .int (zI xic_)])), (gwt, .inl (cI, 40, .inl (zF wt_)))] t.heap ∧ va_K (dC, dI) vwCl [(cI, .int)] t ∧ va_D (va_A [(xr, .inr (0, [.ref tk, .ref gr, .int (zI xru_), .int (zI xta_), .int (zI xst_), .int (zI xtc_), .int (zI xop_), .ref gwt, .int (zI xwc_), .int (zI xoc_), .int (zI xic_)])), (gwt, .inl (cI, 40, .inl (zF wt_)))] sz) [(xr, .inr (0, [.ref tk, .ref gr, .int (zI xru_), .int (zI xta_), .int (zI xst_), .int (zI xtc_), .int (zI xop_), .ref gwt, .int (zI xwc_), .int (zI xoc_), .int (zI xic_)])), (gwt, .inl (cI, 40, .inl (zF wt_)))]) (va_A [(xr, .inr (0, [.ref tk, .ref gr, .int (zI xru_), .int (zI xta_), .int (zI xst_), .int (zI xtc_), .int (zI xop_), .ref gwt, .int (zI xwc_), .int (zI xoc_), .int (zI xic_)])), (gwt, .inl (cI, 40, .inl (zF wt_)))] sz)) 0 0 (va_A [(xr, .inr (0, [.ref tk, .ref gr, .int (zI xru_), .int (zI xta_), .int (zI xst_), .int (zI xtc_), .int (zI xop_), .ref gwt, .int (zI xwc_), .int (zI xoc_), .int (zI xic_)])), (gwt, .inl (cI, 40, .inl (zF wt_)))] sz) := by
  refine Met.ofW (cc := cX0_topBinds) (maxL := 1) (ret := (some .int)) (by decide) rfl ?_
  intro p e s m args below meth c s₁ B hml hv
  obtain ⟨rfl, hsz, hP, hK, hD0⟩ := hv
  have hx := B.exec
  have hb := B.bytes
  have hr := B.returns
  have hts := atoms_spec (ws := wyX0_topBinds) B.pre
  have hg : ∀ w ∈ lw_G, w.before _ s = true := fun w h => hts w (List.mem_cons_of_mem _ h)
  have hown : s.vm.findClass RX0 = some m.cls := findClass_of_methodNamed B.named
  have hlocks := B.notSynchronized
  subst hsz
  have hD := hD0.self (sz := s.heap.size)
  generalize hAe : va_A [(xr, .inr (0, [.ref tk, .ref gr, .int (zI xru_), .int (zI xta_), .int (zI xst_), .int (zI xtc_), .int (zI xop_), .ref gwt, .int (zI xwc_), .int (zI xoc_), .int (zI xic_)])), (gwt, .inl (cI, 40, .inl (zF wt_)))] s.heap.size = A at hD ⊢
  have hA : ∀ q : Nat, s.heap.size ≤ q → A q := fun q h => by rw [← hAe]; exact Or.inr h
  have hS : va_S A s.heap s.heap [] := va_S.rf
  have hP : va_P (dC, dI) vwCl [(xr, .inr (0, [.ref tk, .ref gr, .int (zI xru_), .int (zI xta_), .int (zI xst_), .int (zI xtc_), .int (zI xop_), .ref gwt, .int (zI xwc_), .int (zI xoc_), .int (zI xic_)])), (gwt, .inl (cI, 40, .inl (zF wt_)))] s.heap := hP
  have hl := lv_entry ([.ref xr]) (n := 1) (Nat.le_of_ble_eq_true rfl)
  rw [lg_entry_eq]
  generalize (lg_sl ([.ref xr]) ++ List.replicate (1 - (lg_sl ([.ref xr])).length) Slot.unset).toArray = ls at hl ⊢
  have hl : lv_has ls 1 [(0, .ref xr)] := hl
  refine lv_aload_n hx hb dX0_topBinds_0 rfl (lv_at hl 0 rfl) ?_
  have hPc := hP.sub (ws' := [(xr, .inr (0, [.ref tk, .ref gr, .int (zI xru_), .int (zI xta_), .int (zI xst_), .int (zI xtc_), .int (zI xop_), .ref gwt, .int (zI xwc_), .int (zI xoc_), .int (zI xic_)])), (gwt, .inl (cI, 40, .inl (zF wt_)))]) [0, 1] rfl
  have hDc := hD.sub (ws' := [(xr, .inr (0, [.ref tk, .ref gr, .int (zI xru_), .int (zI xta_), .int (zI xst_), .int (zI xtc_), .int (zI xop_), .ref gwt, .int (zI xwc_), .int (zI xoc_), .int (zI xic_)])), (gwt, .inl (cI, 40, .inl (zF wt_)))]) [0, 1] (by decide) rfl
  have hKc := hK.sub (tys' := [(cI, .int)]) [0] rfl
  have hFc := va_free (wc := [(xr, .inr (0, [.ref tk, .ref gr, .int (zI xru_), .int (zI xta_), .int (zI xst_), .int (zI xtc_), .int (zI xop_), .ref gwt, .int (zI xwc_), .int (zI xoc_), .int (zI xic_)])), (gwt, .inl (cI, 40, .inl (zF wt_)))]) hD hS hA [0, 1] rfl
  refine va_calli (va_runV (As := []) (rest := []) ⟨hx, hb, hml, hown, hg⟩ (c_X0_top l dC dI xr gwt tk gr cI s.heap.size xru_ xta_ xst_ xtc_ xop_ xwc_ xoc_ xic_ wt_ (by omega) hwt) (cwV 0 hg gc_X0_144 rfl rfl rfl (by decide +kernel) ⟨Nat.le_of_ble_eq_true rfl, Nat.le_of_ble_eq_true rfl⟩) ⟨fun a U g mk q => by obtain ⟨q0, q1, qP, qK, qD⟩ := q; exact ⟨q0, q1, qP, va_K.moved (u := U) (U := U.calling g mk a) (Vm.Alike.refl U.vm) qK, qD⟩, va_recv hKc hPc (ci := 0) (q0 := 0) rfl rfl, fun U hU hW => ⟨rfl, by rw [hU], by rw [hU]; exact hPc, va_K.moved hW.alike hKc, hDc.weaken (fun _ _ _ _ => trivial)⟩⟩ rfl rfl hl.1 rfl (lv_room (Nat.le_of_ble_eq_true rfl)) dX0_topBinds_1 ⟨Nat.le_of_ble_eq_true rfl, Nat.le_of_ble_eq_true rfl⟩) hS (fun q _ h => hFc q h) hFc (fun r1 u1 t H1 locs ht hvm hw1 hB hz1 hk1 hS => ?_)
  obtain ⟨hP1, hK1, hD1⟩ := hB
  rw [ht] at hP1
  have hK1 := va_K.moved hvm.symm hK1
  obtain ⟨hP, hD⟩ := va_join (wr := []) (w1 := [(xr, .inr (0, [.ref tk, .ref gr, .int (zI xru_), .int (zI xta_), .int (zI xst_), .int (zI xtc_), .int (zI xop_), .ref gwt, .int (zI xwc_), .int (zI xoc_), .int (zI xic_)])), (gwt, .inl (cI, 40, .inl (zF wt_)))]) hP hD [0, 1] [] rfl rfl (by decide) (by decide) hk1 hFc hP1 hD1
  have hK := (hK.sub (tys' := []) [] rfl).app hK1
  generalize H1 = H at hP hS ⊢
  have hP : va_P (dC, dI) vwCl [(xr, .inr (0, [.ref tk, .ref gr, .int (zI xru_), .int (zI xta_), .int (zI xst_), .int (zI xtc_), .int (zI xop_), .ref gwt, .int (zI xwc_), .int (zI xoc_), .int (zI xic_)])), (gwt, .inl (cI, 40, .inl (zF wt_)))] H := hP
  have hD : va_D A [(xr, .inr (0, [.ref tk, .ref gr, .int (zI xru_), .int (zI xta_), .int (zI xst_), .int (zI xtc_), .int (zI xop_), .ref gwt, .int (zI xwc_), .int (zI xoc_), .int (zI xic_)])), (gwt, .inl (cI, 40, .inl (zF wt_)))] := hD
  have hK : va_K (dC, dI) vwCl [(cI, .int)] s := hK
  obtain rfl : r1 = zI ((kTop wt_ xwc_)) := hw1
  have hkt := kTop_rng (wt := wt_) (k := xwc_) hwt (by omega)
  have hPc := hP.sub (ws' := []) [] rfl
  have hDc := hD.sub (ws' := []) [] (by decide) rfl
  have hKc := hK.sub (tys' := []) [] rfl
  have hFc := va_free (wc := []) hD hS hA [] rfl
  refine va_calli (va_runS (As := [.int (zI ((kTop wt_ xwc_)))]) (rest := []) ⟨hx, hb, hml, hown, hg⟩ (c_X0_bindingOf l dC dI H.size ((kTop wt_ xwc_)) (by omega)) (va_cwS 1 hg gc_X0_153 rfl rfl rfl (by decide +kernel) ⟨Nat.le_of_ble_eq_true rfl, Nat.le_of_ble_eq_true rfl⟩) ⟨fun a U g mk q => by obtain ⟨q0, q1, qP, qK, qD⟩ := q; exact ⟨q0, q1, qP, va_K.moved (u := U) (U := U.calling g mk a) (Vm.Alike.refl U.vm) qK, qD⟩, fun U hU hW => ⟨rfl, by rw [hU], by rw [hU]; exact hPc, va_K.moved hW.alike hKc, hDc.weaken (fun _ _ _ _ => trivial)⟩⟩ rfl rfl hl.1 rfl (lv_room (Nat.le_of_ble_eq_true rfl)) dX0_topBinds_4 ⟨Nat.le_of_ble_eq_true rfl, Nat.le_of_ble_eq_true rfl⟩) hS (fun q _ h => hFc q h) hFc (fun r2 u2 t H1 locs ht hvm hw2 hB hz1 hk1 hS => ?_)
  obtain ⟨hP1, hK1, hD1⟩ := hB
  rw [ht] at hP1
  have hK1 := va_K.moved hvm.symm hK1
  obtain ⟨hP, hD⟩ := va_join (wr := [(xr, .inr (0, [.ref tk, .ref gr, .int (zI xru_), .int (zI xta_), .int (zI xst_), .int (zI xtc_), .int (zI xop_), .ref gwt, .int (zI xwc_), .int (zI xoc_), .int (zI xic_)])), (gwt, .inl (cI, 40, .inl (zF wt_)))]) (w1 := []) hP hD [] [0, 1] rfl rfl (by decide) (by decide) hk1 hFc hP1 hD1
  have hK := (hK.sub (tys' := [(cI, .int)]) [0] rfl).app hK1
  generalize H1 = H at hP hS ⊢
  have hP : va_P (dC, dI) vwCl [(xr, .inr (0, [.ref tk, .ref gr, .int (zI xru_), .int (zI xta_), .int (zI xst_), .int (zI xtc_), .int (zI xop_), .ref gwt, .int (zI xwc_), .int (zI xoc_), .int (zI xic_)])), (gwt, .inl (cI, 40, .inl (zF wt_)))] H := hP
  have hD : va_D A [(xr, .inr (0, [.ref tk, .ref gr, .int (zI xru_), .int (zI xta_), .int (zI xst_), .int (zI xtc_), .int (zI xop_), .ref gwt, .int (zI xwc_), .int (zI xoc_), .int (zI xic_)])), (gwt, .inl (cI, 40, .inl (zF wt_)))] := hD
  have hK : va_K (dC, dI) vwCl [(cI, .int)] s := hK
  obtain rfl : r2 = zI ((kBn ((kTop wt_ xwc_)))) := hw2
  have hP9 := hP.sub (ws' := [(xr, .inr (0, [.ref tk, .ref gr, .int (zI xru_), .int (zI xta_), .int (zI xst_), .int (zI xtc_), .int (zI xop_), .ref gwt, .int (zI xwc_), .int (zI xoc_), .int (zI xic_)])), (gwt, .inl (cI, 40, .inl (zF wt_)))]) [0, 1] rfl
  have hD9 := hD.sub (ws' := [(xr, .inr (0, [.ref tk, .ref gr, .int (zI xru_), .int (zI xta_), .int (zI xst_), .int (zI xtc_), .int (zI xop_), .ref gwt, .int (zI xwc_), .int (zI xoc_), .int (zI xic_)])), (gwt, .inl (cI, 40, .inl (zF wt_)))]) [0, 1] (by decide) rfl
  have hK9 := hK.sub (tys' := [(cI, .int)]) [0] rfl
  exact W.iret (v := zI ((kBn ((kTop wt_ xwc_))))) hx hb hr (fun t ht hW => ⟨⟨zI ((kBn ((kTop wt_ xwc_)))), (), rfl, congrArg zI (by omega), by rw [ht]; exact hP9, va_K.moved hW.alike hK9, hD9⟩, hS.F ht⟩) hS.2.2 dX0_topBinds_7

set_option maxHeartbeats 4000000 in
set_option maxRecDepth 100000 in
theorem c_X0_await (l : Launch) (dC : Nat → ClassId) (dI : Nat → Nat → Nat) (xr gwt tk gr : Nat) (cI : ClassId) (sz : Nat) (xru_ : Int) (xta_ : Int) (xst_ : Int) (xtc_ : Int) (xop_ : Int) (xwc_ : Int) (xoc_ : Int) (xic_ : Int) (wt_ : Int → Int) (wh_ : Int) (hwc : 0 ≤ xwc_ ∧ xwc_ ≤ 40) : Met l yX0_await wyX0_await ({ frames := 0, cells := 0, slots := 0, locals := 0 }) (va_Pc [.ref xr, .int (zI wh_)] (fun U => U.heap.size = sz ∧ va_P (dC, dI) vwCl [(xr, .inr (0, [.ref tk, .ref gr, .int (zI xru_), .int (zI xta_), .int (zI xst_), .int (zI xtc_), .int (zI xop_), .ref gwt, .int (zI xwc_), .int (zI xoc_), .int (zI xic_)])), (gwt, .inl (cI, 40, .inl (zF wt_)))] U.heap ∧ va_K (dC, dI) vwCl [(cI, .int)] U ∧ va_D (fun _ => True) [(xr, .inr (0, [.ref tk, .ref gr, .int (zI xru_), .int (zI xta_), .int (zI xst_), .int (zI xtc_), .int (zI xop_), .ref gwt, .int (zI xwc_), .int (zI xoc_), .int (zI xic_)])), (gwt, .inl (cI, 40, .inl (zF wt_)))])) (va_Qi (fun (rr : Int32) (r : Int) => rr = zI r) (fun r t => ∃ (wt2_ : Int → Int), ∃ (wc2_ : Int), ∃ (st2_ : Int), ((r = 4 ∧ 40 ≤ xwc_ ∧ wt2_ = wt_ ∧ wc2_ = xwc_ ∧ st2_ = xst_) ∨ (r = 0 ∧ xwc_ < 40 ∧ wt2_ = zU wt_ xwc_ wh_ ∧ wc2_ = xwc_ + 1 ∧ st2_ = 0)) ∧ va_P (dC, dI) vwCl [(xr, .inr (0, [.ref tk, .ref gr, .int (zI xru_), .int (zI xta_), .int (zI st2_), .int (zI xtc_), .int (zI xop_), .ref gwt, .int (zI wc2_), .int (zI xoc_), .int (zI xic_)])), (gwt, .inl (cI, 40, .inl (zF wt2_)))] t.heap ∧ va_K (dC, dI) vwCl [(cI, .int)] t ∧ va_D (va_A [(xr, .inr (0, [.ref tk, .ref gr, .int (zI xru_), .int (zI xta_), .int (zI xst_), .int (zI xtc_), .int (zI xop_), .ref gwt, .int (zI xwc_), .int (zI xoc_), .int (zI xic_)])), (gwt, .inl (cI, 40, .inl (zF wt_)))] sz) [(xr, .inr (0, [.ref tk, .ref gr, .int (zI xru_), .int (zI xta_), .int (zI st2_), .int (zI xtc_), .int (zI xop_), .ref gwt, .int (zI wc2_), .int (zI xoc_), .int (zI xic_)])), (gwt, .inl (cI, 40, .inl (zF wt2_)))]) (va_A [(xr, .inr (0, [.ref tk, .ref gr, .int (zI xru_), .int (zI xta_), .int (zI xst_), .int (zI xtc_), .int (zI xop_), .ref gwt, .int (zI xwc_), .int (zI xoc_), .int (zI xic_)])), (gwt, .inl (cI, 40, .inl (zF wt_)))] sz)) 0 0 (va_A [(xr, .inr (0, [.ref tk, .ref gr, .int (zI xru_), .int (zI xta_), .int (zI xst_), .int (zI xtc_), .int (zI xop_), .ref gwt, .int (zI xwc_), .int (zI xoc_), .int (zI xic_)])), (gwt, .inl (cI, 40, .inl (zF wt_)))] sz) := by
  refine Met.ofW (cc := cX0_await) (maxL := 2) (ret := (some .int)) (by decide) rfl ?_
  intro p e s m args below meth c s₁ B hml hv
  obtain ⟨rfl, hsz, hP, hK, hD0⟩ := hv
  have hx := B.exec
  have hb := B.bytes
  have hr := B.returns
  have hts := atoms_spec (ws := wyX0_await) B.pre
  have hg : ∀ w ∈ lw_G, w.before _ s = true := fun w h => hts w (List.mem_cons_of_mem _ h)
  have hown : s.vm.findClass RX0 = some m.cls := findClass_of_methodNamed B.named
  have hlocks := B.notSynchronized
  subst hsz
  have hD := hD0.self (sz := s.heap.size)
  generalize hAe : va_A [(xr, .inr (0, [.ref tk, .ref gr, .int (zI xru_), .int (zI xta_), .int (zI xst_), .int (zI xtc_), .int (zI xop_), .ref gwt, .int (zI xwc_), .int (zI xoc_), .int (zI xic_)])), (gwt, .inl (cI, 40, .inl (zF wt_)))] s.heap.size = A at hD ⊢
  have hA : ∀ q : Nat, s.heap.size ≤ q → A q := fun q h => by rw [← hAe]; exact Or.inr h
  have hS : va_S A s.heap s.heap [] := va_S.rf
  have hP : va_P (dC, dI) vwCl [(xr, .inr (0, [.ref tk, .ref gr, .int (zI xru_), .int (zI xta_), .int (zI xst_), .int (zI xtc_), .int (zI xop_), .ref gwt, .int (zI xwc_), .int (zI xoc_), .int (zI xic_)])), (gwt, .inl (cI, 40, .inl (zF wt_)))] s.heap := hP
  have hl := lv_entry ([.ref xr, .int (zI wh_)]) (n := 2) (Nat.le_of_ble_eq_true rfl)
  rw [lg_entry_eq]
  generalize (lg_sl ([.ref xr, .int (zI wh_)]) ++ List.replicate (2 - (lg_sl ([.ref xr, .int (zI wh_)])).length) Slot.unset).toArray = ls at hl ⊢
  have hl : lv_has ls 2 [(0, .ref xr), (1, .int (zI wh_))] := hl
  refine lv_aload_n hx hb dX0_await_0 rfl (lv_at hl 0 rfl) ?_
  refine va_get (D := (dC, dI)) (ci := 0) (v := .int (zI xwc_)) (C := RX0) (T := TX0) (N := 11) hx hb hg inG_X0 hown hK hP 0 rfl rfl 8 (by decide) (hg (.fieldLink RX0 31 "AttributeDesk$ExpressionReader" "waitingCount" "I") gw_1_212) (fun _ h9 => h9) rfl dX0_await_1 ?_
  refine lv_bipush (v := zI 40) hx hb dX0_await_4 (by decide) ?_
  refine zv_icmp_lt (tgt := 11) hx hb dX0_await_6 (by decide) (by omega) (by decide) (fun c1 => ?_) (fun c1 => ?_)
  · refine lv_aload_n hx hb dX0_await_11 rfl (lv_at hl 0 rfl) ?_
    refine va_get (D := (dC, dI)) (ci := 0) (v := .ref gwt) (C := RX0) (T := TX0) (N := 11) hx hb hg inG_X0 hown hK hP 0 rfl rfl 7 (by decide) (hg (.fieldLink RX0 27 "AttributeDesk$ExpressionReader" "waiting" "[I") gw_1_211) (fun _ h9 => h9) rfl dX0_await_12 ?_
    refine lv_aload_n hx hb dX0_await_15 rfl (lv_at hl 0 rfl) ?_
    refine va_get (D := (dC, dI)) (ci := 0) (v := .int (zI xwc_)) (C := RX0) (T := TX0) (N := 11) hx hb hg inG_X0 hown hK hP 0 rfl rfl 8 (by decide) (hg (.fieldLink RX0 31 "AttributeDesk$ExpressionReader" "waitingCount" "I") gw_1_212) (fun _ h9 => h9) rfl dX0_await_16 ?_
    refine lv_iload_n hx hb dX0_await_19 rfl (lv_at hl 1 rfl) ?_
    refine zv_iast (D := (dC, dI)) hx hb hK hP hD hS 1 0 rfl rfl (by omega) (Nat.le_of_ble_eq_true rfl) dX0_await_20 (fun H locs hP hD hS => ?_)
    have hP : va_P (dC, dI) vwCl [(xr, .inr (0, [.ref tk, .ref gr, .int (zI xru_), .int (zI xta_), .int (zI xst_), .int (zI xtc_), .int (zI xop_), .ref gwt, .int (zI xwc_), .int (zI xoc_), .int (zI xic_)])), (gwt, .inl (cI, 40, .inl (zF (zU wt_ xwc_ wh_))))] H := hP
    have hD : va_D A [(xr, .inr (0, [.ref tk, .ref gr, .int (zI xru_), .int (zI xta_), .int (zI xst_), .int (zI xtc_), .int (zI xop_), .ref gwt, .int (zI xwc_), .int (zI xoc_), .int (zI xic_)])), (gwt, .inl (cI, 40, .inl (zF (zU wt_ xwc_ wh_))))] := hD
    refine lv_aload_n hx hb dX0_await_21 rfl (lv_at hl 0 rfl) ?_
    refine lv_dup hx hb dX0_await_22 rfl ?_
    refine va_get (D := (dC, dI)) (ci := 0) (v := .int (zI xwc_)) (C := RX0) (T := TX0) (N := 11) hx hb hg inG_X0 hown hK hP 0 rfl rfl 8 (by decide) (hg (.fieldLink RX0 31 "AttributeDesk$ExpressionReader" "waitingCount" "I") gw_1_212) (fun _ h9 => h9) rfl dX0_await_23 ?_
    refine lv_iconst (v := zI 1) hx hb dX0_await_26 rfl ?_
    refine zv_iadd (r := xwc_ + 1) hx hb dX0_await_27 (by omega) ?_
    refine va_put (D := (dC, dI)) (ci := 0) (v := .int (zI (xwc_ + 1))) (ty := .int) (C := RX0) (T := TX0) (N := 11) hx hb hg inG_X0 tyX0 tyX0_ok nmX0 hown hK hP hD hS 0 rfl rfl 8 (by decide) (hg (.fieldLink RX0 31 "AttributeDesk$ExpressionReader" "waitingCount" "I") gw_1_212) (fun _ h9 => h9) rfl (by decide +kernel) rfl rfl (Nat.le_of_ble_eq_true rfl) dX0_await_28 (fun H locs hP hD hS => ?_)
    have hP : va_P (dC, dI) vwCl [(xr, .inr (0, [.ref tk, .ref gr, .int (zI xru_), .int (zI xta_), .int (zI xst_), .int (zI xtc_), .int (zI xop_), .ref gwt, .int (zI (xwc_ + 1)), .int (zI xoc_), .int (zI xic_)])), (gwt, .inl (cI, 40, .inl (zF (zU wt_ xwc_ wh_))))] H := hP
    have hD : va_D A [(xr, .inr (0, [.ref tk, .ref gr, .int (zI xru_), .int (zI xta_), .int (zI xst_), .int (zI xtc_), .int (zI xop_), .ref gwt, .int (zI (xwc_ + 1)), .int (zI xoc_), .int (zI xic_)])), (gwt, .inl (cI, 40, .inl (zF (zU wt_ xwc_ wh_))))] := hD
    refine lv_aload_n hx hb dX0_await_31 rfl (lv_at hl 0 rfl) ?_
    refine lv_iconst (v := zI 0) hx hb dX0_await_32 rfl ?_
    refine va_put (D := (dC, dI)) (ci := 0) (v := .int (zI 0)) (ty := .int) (C := RX0) (T := TX0) (N := 11) hx hb hg inG_X0 tyX0 tyX0_ok nmX0 hown hK hP hD hS 0 rfl rfl 4 (by decide) (hg (.fieldLink RX0 18 "AttributeDesk$ExpressionReader" "state" "I") gw_1_208) (fun _ h9 => h9) rfl (by decide +kernel) rfl rfl (Nat.le_of_ble_eq_true rfl) dX0_await_33 (fun H locs hP hD hS => ?_)
    have hP : va_P (dC, dI) vwCl [(xr, .inr (0, [.ref tk, .ref gr, .int (zI xru_), .int (zI xta_), .int (zI 0), .int (zI xtc_), .int (zI xop_), .ref gwt, .int (zI (xwc_ + 1)), .int (zI xoc_), .int (zI xic_)])), (gwt, .inl (cI, 40, .inl (zF (zU wt_ xwc_ wh_))))] H := hP
    have hD : va_D A [(xr, .inr (0, [.ref tk, .ref gr, .int (zI xru_), .int (zI xta_), .int (zI 0), .int (zI xtc_), .int (zI xop_), .ref gwt, .int (zI (xwc_ + 1)), .int (zI xoc_), .int (zI xic_)])), (gwt, .inl (cI, 40, .inl (zF (zU wt_ xwc_ wh_))))] := hD
    refine lv_iconst (v := zI 0) hx hb dX0_await_36 rfl ?_
    have hP9 := hP.sub (ws' := [(xr, .inr (0, [.ref tk, .ref gr, .int (zI xru_), .int (zI xta_), .int (zI 0), .int (zI xtc_), .int (zI xop_), .ref gwt, .int (zI (xwc_ + 1)), .int (zI xoc_), .int (zI xic_)])), (gwt, .inl (cI, 40, .inl (zF (zU wt_ xwc_ wh_))))]) [0, 1] rfl
    have hD9 := hD.sub (ws' := [(xr, .inr (0, [.ref tk, .ref gr, .int (zI xru_), .int (zI xta_), .int (zI 0), .int (zI xtc_), .int (zI xop_), .ref gwt, .int (zI (xwc_ + 1)), .int (zI xoc_), .int (zI xic_)])), (gwt, .inl (cI, 40, .inl (zF (zU wt_ xwc_ wh_))))]) [0, 1] (by decide) rfl
    have hK9 := hK.sub (tys' := [(cI, .int)]) [0] rfl
    exact W.iret (v := zI 0) hx hb hr (fun t ht hW => ⟨⟨zI 0, 0, rfl, rfl, (zU wt_ xwc_ wh_), (xwc_ + 1), 0, (Or.inr ⟨rfl, by omega, rfl, rfl, rfl⟩), by rw [ht]; exact hP9, va_K.moved hW.alike hK9, hD9⟩, hS.F ht⟩) hS.2.2 dX0_await_37
  · refine lv_iconst (v := zI 4) hx hb dX0_await_9 rfl ?_
    have hP9 := hP.sub (ws' := [(xr, .inr (0, [.ref tk, .ref gr, .int (zI xru_), .int (zI xta_), .int (zI xst_), .int (zI xtc_), .int (zI xop_), .ref gwt, .int (zI xwc_), .int (zI xoc_), .int (zI xic_)])), (gwt, .inl (cI, 40, .inl (zF wt_)))]) [0, 1] rfl
    have hD9 := hD.sub (ws' := [(xr, .inr (0, [.ref tk, .ref gr, .int (zI xru_), .int (zI xta_), .int (zI xst_), .int (zI xtc_), .int (zI xop_), .ref gwt, .int (zI xwc_), .int (zI xoc_), .int (zI xic_)])), (gwt, .inl (cI, 40, .inl (zF wt_)))]) [0, 1] (by decide) rfl
    have hK9 := hK.sub (tys' := [(cI, .int)]) [0] rfl
    exact W.iret (v := zI 4) hx hb hr (fun t ht hW => ⟨⟨zI 4, 4, rfl, rfl, wt_, xwc_, xst_, (Or.inl ⟨rfl, by omega, rfl, rfl, rfl⟩), by rw [ht]; exact hP9, va_K.moved hW.alike hK9, hD9⟩, hS.F ht⟩) hS.2.2 dX0_await_10

set_option maxHeartbeats 4000000 in
set_option maxRecDepth 100000 in
theorem c_X0_settle (l : Launch) (dC : Nat → ClassId) (dI : Nat → Nat → Nat) (xr gwt gr gop god tk gsn gac gic gan gih grk grn grs gcc gec gcs gce ghg : Nat) (cI : ClassId) (sz : Nat) (xru_ : Int) (xta_ : Int) (xst_ : Int) (xtc_ : Int) (xop_ : Int) (xwc_ : Int) (xoc_ : Int) (xic_ : Int) (wt_ : Int → Int) (sc_ : Int) (rc_ : Int) (cz_ : Int) (op_ : Int → Int) (od_ : Int → Int) (b_ : Int) (hwc : 0 ≤ xwc_ ∧ xwc_ ≤ 40) (hwt : ∀ j : Int, 0 ≤ j ∧ j < 40 → -128 ≤ wt_ j ∧ wt_ j < 128) (hoc : xoc_ = kOc wt_ xwc_) (hcz : 0 ≤ cz_ ∧ cz_ ≤ 3000) (hb1 : 1 ≤ b_ ∧ b_ ≤ 5) : Met l yX0_settle wyX0_settle ({ frames := 1, cells := 0, slots := 0, locals := 22 }) (va_Pc [.ref xr, .int (zI b_)] (fun U => U.heap.size = sz ∧ va_P (dC, dI) vwCl [(xr, .inr (0, [.ref tk, .ref gr, .int (zI xru_), .int (zI xta_), .int (zI xst_), .int (zI xtc_), .int (zI xop_), .ref gwt, .int (zI xwc_), .int (zI xoc_), .int (zI xic_)])), (gwt, .inl (cI, 40, .inl (zF wt_))), (gr, .inr (1, [.int (zI sc_), .ref gsn, .ref gac, .ref gic, .ref gan, .ref gih, .ref grk, .int (zI rc_), .ref grn, .ref grs, .ref gcc, .ref gec, .ref gcs, .ref gce, .ref ghg, .ref gop, .ref god, .int (zI cz_)])), (gop, .inl (cI, 3000, .inl (zF op_))), (god, .inl (cI, 3000, .inl (zF od_)))] U.heap ∧ va_K (dC, dI) vwCl [(cI, .int)] U ∧ va_D (fun _ => True) [(xr, .inr (0, [.ref tk, .ref gr, .int (zI xru_), .int (zI xta_), .int (zI xst_), .int (zI xtc_), .int (zI xop_), .ref gwt, .int (zI xwc_), .int (zI xoc_), .int (zI xic_)])), (gwt, .inl (cI, 40, .inl (zF wt_))), (gr, .inr (1, [.int (zI sc_), .ref gsn, .ref gac, .ref gic, .ref gan, .ref gih, .ref grk, .int (zI rc_), .ref grn, .ref grs, .ref gcc, .ref gec, .ref gcs, .ref gce, .ref ghg, .ref gop, .ref god, .int (zI cz_)])), (gop, .inl (cI, 3000, .inl (zF op_))), (god, .inl (cI, 3000, .inl (zF od_)))])) (va_Qv (fun _ : Unit => True) (fun _ t => ∃ (wc2_ : Int), ∃ (op2_ : Int → Int), ∃ (od2_ : Int → Int), ∃ (cz2_ : Int), ∃ (oc2_ : Int), ((wc2_, op2_, od2_, cz2_) = kSet wt_ b_ xwc_ op_ od_ cz_) ∧ (0 ≤ wc2_ ∧ wc2_ ≤ xwc_) ∧ (oc2_ = kOc wt_ wc2_) ∧ (0 ≤ cz2_ ∧ cz2_ ≤ 3000) ∧ (kBn (kTop wt_ wc2_) < b_) ∧ va_P (dC, dI) vwCl [(xr, .inr (0, [.ref tk, .ref gr, .int (zI xru_), .int (zI xta_), .int (zI xst_), .int (zI xtc_), .int (zI xop_), .ref gwt, .int (zI wc2_), .int (zI oc2_), .int (zI xic_)])), (gwt, .inl (cI, 40, .inl (zF wt_))), (gr, .inr (1, [.int (zI sc_), .ref gsn, .ref gac, .ref gic, .ref gan, .ref gih, .ref grk, .int (zI rc_), .ref grn, .ref grs, .ref gcc, .ref gec, .ref gcs, .ref gce, .ref ghg, .ref gop, .ref god, .int (zI cz2_)])), (gop, .inl (cI, 3000, .inl (zF op2_))), (god, .inl (cI, 3000, .inl (zF od2_)))] t.heap ∧ va_K (dC, dI) vwCl [(cI, .int)] t ∧ va_D (va_A [(xr, .inr (0, [.ref tk, .ref gr, .int (zI xru_), .int (zI xta_), .int (zI xst_), .int (zI xtc_), .int (zI xop_), .ref gwt, .int (zI xwc_), .int (zI xoc_), .int (zI xic_)])), (gwt, .inl (cI, 40, .inl (zF wt_))), (gr, .inr (1, [.int (zI sc_), .ref gsn, .ref gac, .ref gic, .ref gan, .ref gih, .ref grk, .int (zI rc_), .ref grn, .ref grs, .ref gcc, .ref gec, .ref gcs, .ref gce, .ref ghg, .ref gop, .ref god, .int (zI cz_)])), (gop, .inl (cI, 3000, .inl (zF op_))), (god, .inl (cI, 3000, .inl (zF od_)))] sz) [(xr, .inr (0, [.ref tk, .ref gr, .int (zI xru_), .int (zI xta_), .int (zI xst_), .int (zI xtc_), .int (zI xop_), .ref gwt, .int (zI wc2_), .int (zI oc2_), .int (zI xic_)])), (gwt, .inl (cI, 40, .inl (zF wt_))), (gr, .inr (1, [.int (zI sc_), .ref gsn, .ref gac, .ref gic, .ref gan, .ref gih, .ref grk, .int (zI rc_), .ref grn, .ref grs, .ref gcc, .ref gec, .ref gcs, .ref gce, .ref ghg, .ref gop, .ref god, .int (zI cz2_)])), (gop, .inl (cI, 3000, .inl (zF op2_))), (god, .inl (cI, 3000, .inl (zF od2_)))]) (va_A [(xr, .inr (0, [.ref tk, .ref gr, .int (zI xru_), .int (zI xta_), .int (zI xst_), .int (zI xtc_), .int (zI xop_), .ref gwt, .int (zI xwc_), .int (zI xoc_), .int (zI xic_)])), (gwt, .inl (cI, 40, .inl (zF wt_))), (gr, .inr (1, [.int (zI sc_), .ref gsn, .ref gac, .ref gic, .ref gan, .ref gih, .ref grk, .int (zI rc_), .ref grn, .ref grs, .ref gcc, .ref gec, .ref gcs, .ref gce, .ref ghg, .ref gop, .ref god, .int (zI cz_)])), (gop, .inl (cI, 3000, .inl (zF op_))), (god, .inl (cI, 3000, .inl (zF od_)))] sz)) 0 0 (va_A [(xr, .inr (0, [.ref tk, .ref gr, .int (zI xru_), .int (zI xta_), .int (zI xst_), .int (zI xtc_), .int (zI xop_), .ref gwt, .int (zI xwc_), .int (zI xoc_), .int (zI xic_)])), (gwt, .inl (cI, 40, .inl (zF wt_))), (gr, .inr (1, [.int (zI sc_), .ref gsn, .ref gac, .ref gic, .ref gan, .ref gih, .ref grk, .int (zI rc_), .ref grn, .ref grs, .ref gcc, .ref gec, .ref gcs, .ref gce, .ref ghg, .ref gop, .ref god, .int (zI cz_)])), (gop, .inl (cI, 3000, .inl (zF op_))), (god, .inl (cI, 3000, .inl (zF od_)))] sz) := by
  refine Met.ofW (cc := cX0_settle) (maxL := 4) (ret := none) (by decide) rfl ?_
  intro p e s m args below meth c s₁ B hml hv
  obtain ⟨rfl, hsz, hP, hK, hD0⟩ := hv
  have hx := B.exec
  have hb := B.bytes
  have hr := B.returns
  have hts := atoms_spec (ws := wyX0_settle) B.pre
  have hg : ∀ w ∈ lw_G, w.before _ s = true := fun w h => hts w (List.mem_cons_of_mem _ h)
  have hown : s.vm.findClass RX0 = some m.cls := findClass_of_methodNamed B.named
  have hlocks := B.notSynchronized
  subst hsz
  have hD := hD0.self (sz := s.heap.size)
  generalize hAe : va_A [(xr, .inr (0, [.ref tk, .ref gr, .int (zI xru_), .int (zI xta_), .int (zI xst_), .int (zI xtc_), .int (zI xop_), .ref gwt, .int (zI xwc_), .int (zI xoc_), .int (zI xic_)])), (gwt, .inl (cI, 40, .inl (zF wt_))), (gr, .inr (1, [.int (zI sc_), .ref gsn, .ref gac, .ref gic, .ref gan, .ref gih, .ref grk, .int (zI rc_), .ref grn, .ref grs, .ref gcc, .ref gec, .ref gcs, .ref gce, .ref ghg, .ref gop, .ref god, .int (zI cz_)])), (gop, .inl (cI, 3000, .inl (zF op_))), (god, .inl (cI, 3000, .inl (zF od_)))] s.heap.size = A at hD ⊢
  have hA : ∀ q : Nat, s.heap.size ≤ q → A q := fun q h => by rw [← hAe]; exact Or.inr h
  have hS : va_S A s.heap s.heap [] := va_S.rf
  have hP : va_P (dC, dI) vwCl [(xr, .inr (0, [.ref tk, .ref gr, .int (zI xru_), .int (zI xta_), .int (zI xst_), .int (zI xtc_), .int (zI xop_), .ref gwt, .int (zI xwc_), .int (zI xoc_), .int (zI xic_)])), (gwt, .inl (cI, 40, .inl (zF wt_))), (gr, .inr (1, [.int (zI sc_), .ref gsn, .ref gac, .ref gic, .ref gan, .ref gih, .ref grk, .int (zI rc_), .ref grn, .ref grs, .ref gcc, .ref gec, .ref gcs, .ref gce, .ref ghg, .ref gop, .ref god, .int (zI cz_)])), (gop, .inl (cI, 3000, .inl (zF op_))), (god, .inl (cI, 3000, .inl (zF od_)))] s.heap := hP
  have hl := lv_entry ([.ref xr, .int (zI b_)]) (n := 4) (Nat.le_of_ble_eq_true rfl)
  rw [lg_entry_eq]
  generalize (lg_sl ([.ref xr, .int (zI b_)]) ++ List.replicate (4 - (lg_sl ([.ref xr, .int (zI b_)])).length) Slot.unset).toArray = ls at hl ⊢
  have hl : lv_has ls 4 [(0, .ref xr), (1, .int (zI b_))] := hl
  refine zv_q (fun Q hQ => ?_)
  refine lv_aload_n hx hb dX0_settle_0 rfl (lv_at hl 0 rfl) ?_
  refine va_get (D := (dC, dI)) (ci := 0) (v := .int (zI xwc_)) (C := RX0) (T := TX0) (N := 11) hx hb hg inG_X0 hown hK hP 0 rfl rfl 8 (by decide) (hg (.fieldLink RX0 31 "AttributeDesk$ExpressionReader" "waitingCount" "I") gw_1_212) (fun _ h9 => h9) rfl dX0_settle_1 ?_
  refine lv_istore_n (lv' := [(2, .int (zI xwc_)), (0, .ref xr), (1, .int (zI b_))]) hx hb dX0_settle_4 rfl hl (by decide) rfl (fun ls hl => ?_)
  have lp5 : ∀ (n : Nat) (i : Int) (oc_ : Int) (op1_ : Int → Int) (od1_ : Int → Int) (cz1_ : Int), (0 ≤ i ∧ i ≤ xwc_) → (oc_ = kOc wt_ i) → (0 ≤ cz1_ ∧ cz1_ ≤ 3000) → (kSet wt_ b_ xwc_ op_ od_ cz_ = kSet wt_ b_ i op1_ od1_ cz1_) → i < (n : Int) → ∀ (H : Heap) (locs : List Loc), va_P (dC, dI) vwCl [(xr, .inr (0, [.ref tk, .ref gr, .int (zI xru_), .int (zI xta_), .int (zI xst_), .int (zI xtc_), .int (zI xop_), .ref gwt, .int (zI i), .int (zI oc_), .int (zI xic_)])), (gwt, .inl (cI, 40, .inl (zF wt_))), (gr, .inr (1, [.int (zI sc_), .ref gsn, .ref gac, .ref gic, .ref gan, .ref gih, .ref grk, .int (zI rc_), .ref grn, .ref grs, .ref gcc, .ref gec, .ref gcs, .ref gce, .ref ghg, .ref gop, .ref god, .int (zI cz1_)])), (gop, .inl (cI, 3000, .inl (zF op1_))), (god, .inl (cI, 3000, .inl (zF od1_)))] H → va_D A [(xr, .inr (0, [.ref tk, .ref gr, .int (zI xru_), .int (zI xta_), .int (zI xst_), .int (zI xtc_), .int (zI xop_), .ref gwt, .int (zI i), .int (zI oc_), .int (zI xic_)])), (gwt, .inl (cI, 40, .inl (zF wt_))), (gr, .inr (1, [.int (zI sc_), .ref gsn, .ref gac, .ref gic, .ref gan, .ref gih, .ref grk, .int (zI rc_), .ref grn, .ref grs, .ref gcc, .ref gec, .ref gcs, .ref gce, .ref ghg, .ref gop, .ref god, .int (zI cz1_)])), (gop, .inl (cI, 3000, .inl (zF op1_))), (god, .inl (cI, 3000, .inl (zF od1_)))] → va_S A s.heap H locs → ∀ (ls : Array Slot), lv_has ls 4 [(2, .int (zI i)), (0, .ref xr), (1, .int (zI b_))] → W p l e ({ frames := 1, cells := 0, slots := 0, locals := 22 } : Room) s m ([.ref xr, .int (zI b_)] : List Value).toArray below meth c H locs 0 0 Q (F0 m 5 ls []) := by
    intro n
    induction n with
    | zero => intro i oc_ op1_ od1_ cz1_ hi ho_ hz_ hs_ hM; exact absurd hM (by omega)
    | succ n ih5 =>
      intro i oc_ op1_ od1_ cz1_ hi ho_ hz_ hs_ hM5 H locs hP hD hS ls hl
      refine lv_iload_n hx hb dX0_settle_5 rfl (lv_at hl 0 rfl) ?_
      refine zv_if_le (tgt := 77) hx hb dX0_settle_6 (by decide) (by omega) (fun c1 => ?_) (fun c1 => ?_)
      · have hP9 := hP.sub (ws' := [(xr, .inr (0, [.ref tk, .ref gr, .int (zI xru_), .int (zI xta_), .int (zI xst_), .int (zI xtc_), .int (zI xop_), .ref gwt, .int (zI i), .int (zI oc_), .int (zI xic_)])), (gwt, .inl (cI, 40, .inl (zF wt_))), (gr, .inr (1, [.int (zI sc_), .ref gsn, .ref gac, .ref gic, .ref gan, .ref gih, .ref grk, .int (zI rc_), .ref grn, .ref grs, .ref gcc, .ref gec, .ref gcs, .ref gce, .ref ghg, .ref gop, .ref god, .int (zI cz1_)])), (gop, .inl (cI, 3000, .inl (zF op1_))), (god, .inl (cI, 3000, .inl (zF od1_)))]) [0, 1, 2, 3, 4] rfl
        have hD9 := hD.sub (ws' := [(xr, .inr (0, [.ref tk, .ref gr, .int (zI xru_), .int (zI xta_), .int (zI xst_), .int (zI xtc_), .int (zI xop_), .ref gwt, .int (zI i), .int (zI oc_), .int (zI xic_)])), (gwt, .inl (cI, 40, .inl (zF wt_))), (gr, .inr (1, [.int (zI sc_), .ref gsn, .ref gac, .ref gic, .ref gan, .ref gih, .ref grk, .int (zI rc_), .ref grn, .ref grs, .ref gcc, .ref gec, .ref gcs, .ref gce, .ref ghg, .ref gop, .ref god, .int (zI cz1_)])), (gop, .inl (cI, 3000, .inl (zF op1_))), (god, .inl (cI, 3000, .inl (zF od1_)))]) [0, 1, 2, 3, 4] (by decide) rfl
        have hK9 := hK.sub (tys' := [(cI, .int)]) [0] rfl
        subst hQ
        exact W.vret hx hb hr (fun t ht hW => ⟨⟨(), rfl, trivial, i, op1_, od1_, cz1_, oc_, (hs_.trans (kSet_0 (by omega))).symm, (by omega), ho_, (by omega), (by unfold kTop; rw [if_neg (by omega)]; have z : kBn (-1) = 0 := (by decide); omega), by rw [ht]; exact hP9, va_K.moved hW.alike hK9, hD9⟩, hS.F ht⟩) hS.2.2 dX0_settle_77
      · have hbn := kBn_rng (wt_ (i - 1))
        refine lv_aload_n hx hb dX0_settle_9 rfl (lv_at hl 1 rfl) ?_
        refine va_get (D := (dC, dI)) (ci := 0) (v := .ref gwt) (C := RX0) (T := TX0) (N := 11) hx hb hg inG_X0 hown hK hP 0 rfl rfl 7 (by decide) (hg (.fieldLink RX0 27 "AttributeDesk$ExpressionReader" "waiting" "[I") gw_1_211) (fun _ h9 => h9) rfl dX0_settle_10 ?_
        refine lv_iload_n hx hb dX0_settle_13 rfl (lv_at hl 0 rfl) ?_
        refine lv_iconst (v := zI 1) hx hb dX0_settle_14 rfl ?_
        refine zv_isub (r := i - 1) hx hb dX0_settle_15 (by omega) ?_
        refine zv_iald (D := (dC, dI)) hx hb hK hP 1 0 rfl rfl (by omega) (Nat.le_of_ble_eq_true rfl) dX0_settle_16 ?_
        have hv2 := hwt (i - 1) (by omega)
        have hPc := hP.sub (ws' := []) [] rfl
        have hDc := hD.sub (ws' := []) [] (by decide) rfl
        have hKc := hK.sub (tys' := []) [] rfl
        have hFc := va_free (wc := []) hD hS hA [] rfl
        refine va_calli (va_runS (As := [.int (zI ((wt_ (i - 1))))]) (rest := []) ⟨hx, hb, hml, hown, hg⟩ (c_X0_bindingOf l dC dI H.size ((wt_ (i - 1))) (by omega)) (va_cwS 1 hg gc_X0_153 rfl rfl rfl (by decide +kernel) ⟨Nat.le_of_ble_eq_true rfl, Nat.le_of_ble_eq_true rfl⟩) ⟨fun a U g mk q => by obtain ⟨q0, q1, qP, qK, qD⟩ := q; exact ⟨q0, q1, qP, va_K.moved (u := U) (U := U.calling g mk a) (Vm.Alike.refl U.vm) qK, qD⟩, fun U hU hW => ⟨rfl, by rw [hU], by rw [hU]; exact hPc, va_K.moved hW.alike hKc, hDc.weaken (fun _ _ _ _ => trivial)⟩⟩ rfl rfl hl.1 rfl (lv_room (Nat.le_of_ble_eq_true rfl)) dX0_settle_17 ⟨Nat.le_of_ble_eq_true rfl, Nat.le_of_ble_eq_true rfl⟩) hS (fun q _ h => hFc q h) hFc (fun r3 u3 t H1 locs ht hvm hw3 hB hz1 hk1 hS => ?_)
        obtain ⟨hP1, hK1, hD1⟩ := hB
        rw [ht] at hP1
        have hK1 := va_K.moved hvm.symm hK1
        obtain ⟨hP, hD⟩ := va_join (wr := [(xr, .inr (0, [.ref tk, .ref gr, .int (zI xru_), .int (zI xta_), .int (zI xst_), .int (zI xtc_), .int (zI xop_), .ref gwt, .int (zI i), .int (zI oc_), .int (zI xic_)])), (gwt, .inl (cI, 40, .inl (zF wt_))), (gr, .inr (1, [.int (zI sc_), .ref gsn, .ref gac, .ref gic, .ref gan, .ref gih, .ref grk, .int (zI rc_), .ref grn, .ref grs, .ref gcc, .ref gec, .ref gcs, .ref gce, .ref ghg, .ref gop, .ref god, .int (zI cz1_)])), (gop, .inl (cI, 3000, .inl (zF op1_))), (god, .inl (cI, 3000, .inl (zF od1_)))]) (w1 := []) hP hD [] [0, 1, 2, 3, 4] rfl rfl (by decide) (by decide) hk1 hFc hP1 hD1
        have hK := (hK.sub (tys' := [(cI, .int)]) [0] rfl).app hK1
        generalize H1 = H at hP hS ⊢
        have hP : va_P (dC, dI) vwCl [(xr, .inr (0, [.ref tk, .ref gr, .int (zI xru_), .int (zI xta_), .int (zI xst_), .int (zI xtc_), .int (zI xop_), .ref gwt, .int (zI i), .int (zI oc_), .int (zI xic_)])), (gwt, .inl (cI, 40, .inl (zF wt_))), (gr, .inr (1, [.int (zI sc_), .ref gsn, .ref gac, .ref gic, .ref gan, .ref gih, .ref grk, .int (zI rc_), .ref grn, .ref grs, .ref gcc, .ref gec, .ref gcs, .ref gce, .ref ghg, .ref gop, .ref god, .int (zI cz1_)])), (gop, .inl (cI, 3000, .inl (zF op1_))), (god, .inl (cI, 3000, .inl (zF od1_)))] H := hP
        have hD : va_D A [(xr, .inr (0, [.ref tk, .ref gr, .int (zI xru_), .int (zI xta_), .int (zI xst_), .int (zI xtc_), .int (zI xop_), .ref gwt, .int (zI i), .int (zI oc_), .int (zI xic_)])), (gwt, .inl (cI, 40, .inl (zF wt_))), (gr, .inr (1, [.int (zI sc_), .ref gsn, .ref gac, .ref gic, .ref gan, .ref gih, .ref grk, .int (zI rc_), .ref grn, .ref grs, .ref gcc, .ref gec, .ref gcs, .ref gce, .ref ghg, .ref gop, .ref god, .int (zI cz1_)])), (gop, .inl (cI, 3000, .inl (zF op1_))), (god, .inl (cI, 3000, .inl (zF od1_)))] := hD
        have hK : va_K (dC, dI) vwCl [(cI, .int)] s := hK
        obtain rfl : r3 = zI ((kBn ((wt_ (i - 1))))) := hw3
        refine lv_iload_n hx hb dX0_settle_20 rfl (lv_at hl 2 rfl) ?_
        refine zv_icmp_lt (tgt := 77) hx hb dX0_settle_21 (by decide) (by omega) (by omega) (fun c4 => ?_) (fun c4 => ?_)
        · have hP9 := hP.sub (ws' := [(xr, .inr (0, [.ref tk, .ref gr, .int (zI xru_), .int (zI xta_), .int (zI xst_), .int (zI xtc_), .int (zI xop_), .ref gwt, .int (zI i), .int (zI oc_), .int (zI xic_)])), (gwt, .inl (cI, 40, .inl (zF wt_))), (gr, .inr (1, [.int (zI sc_), .ref gsn, .ref gac, .ref gic, .ref gan, .ref gih, .ref grk, .int (zI rc_), .ref grn, .ref grs, .ref gcc, .ref gec, .ref gcs, .ref gce, .ref ghg, .ref gop, .ref god, .int (zI cz1_)])), (gop, .inl (cI, 3000, .inl (zF op1_))), (god, .inl (cI, 3000, .inl (zF od1_)))]) [0, 1, 2, 3, 4] rfl
          have hD9 := hD.sub (ws' := [(xr, .inr (0, [.ref tk, .ref gr, .int (zI xru_), .int (zI xta_), .int (zI xst_), .int (zI xtc_), .int (zI xop_), .ref gwt, .int (zI i), .int (zI oc_), .int (zI xic_)])), (gwt, .inl (cI, 40, .inl (zF wt_))), (gr, .inr (1, [.int (zI sc_), .ref gsn, .ref gac, .ref gic, .ref gan, .ref gih, .ref grk, .int (zI rc_), .ref grn, .ref grs, .ref gcc, .ref gec, .ref gcs, .ref gce, .ref ghg, .ref gop, .ref god, .int (zI cz1_)])), (gop, .inl (cI, 3000, .inl (zF op1_))), (god, .inl (cI, 3000, .inl (zF od1_)))]) [0, 1, 2, 3, 4] (by decide) rfl
          have hK9 := hK.sub (tys' := [(cI, .int)]) [0] rfl
          subst hQ
          exact W.vret hx hb hr (fun t ht hW => ⟨⟨(), rfl, trivial, i, op1_, od1_, cz1_, oc_, (hs_.trans (kSet_f (by omega) (by omega))).symm, (by omega), ho_, (by omega), (by unfold kTop; rw [if_pos (by omega)]; omega), by rw [ht]; exact hP9, va_K.moved hW.alike hK9, hD9⟩, hS.F ht⟩) hS.2.2 dX0_settle_77
        · refine lv_aload_n hx hb dX0_settle_24 rfl (lv_at hl 1 rfl) ?_
          refine va_get (D := (dC, dI)) (ci := 0) (v := .ref gwt) (C := RX0) (T := TX0) (N := 11) hx hb hg inG_X0 hown hK hP 0 rfl rfl 7 (by decide) (hg (.fieldLink RX0 27 "AttributeDesk$ExpressionReader" "waiting" "[I") gw_1_211) (fun _ h9 => h9) rfl dX0_settle_25 ?_
          refine lv_iload_n hx hb dX0_settle_28 rfl (lv_at hl 0 rfl) ?_
          refine lv_iconst (v := zI 1) hx hb dX0_settle_29 rfl ?_
          refine zv_isub (r := i - 1) hx hb dX0_settle_30 (by omega) ?_
          refine zv_iald (D := (dC, dI)) hx hb hK hP 1 0 rfl rfl (by omega) (Nat.le_of_ble_eq_true rfl) dX0_settle_31 ?_
          have hv5 := hwt (i - 1) (by omega)
          refine lv_istore_n (lv' := [(3, .int (zI ((wt_ (i - 1))))), (2, .int (zI i)), (0, .ref xr), (1, .int (zI b_))]) hx hb dX0_settle_32 rfl hl (by decide) rfl (fun ls hl => ?_)
          have hko := kOc_rng wt_ (k := i) (by omega)
          refine lv_aload_n hx hb dX0_settle_33 rfl (lv_at hl 2 rfl) ?_
          refine va_get (D := (dC, dI)) (ci := 0) (v := .ref gr) (C := RX0) (T := TX0) (N := 11) hx hb hg inG_X0 hown hK hP 0 rfl rfl 1 (by decide) (hg (.fieldLink RX0 45 "AttributeDesk$ExpressionReader" "grammar" "LAttributeDesk$Grammar;") gw_1_205) (fun _ h9 => h9) rfl dX0_settle_34 ?_
          refine lv_iload_n hx hb dX0_settle_37 rfl (lv_at hl 0 rfl) ?_
          refine lv_iconst (v := zI 0) hx hb dX0_settle_38 rfl ?_
          have hPc := hP.sub (ws' := [(gr, .inr (1, [.int (zI sc_), .ref gsn, .ref gac, .ref gic, .ref gan, .ref gih, .ref grk, .int (zI rc_), .ref grn, .ref grs, .ref gcc, .ref gec, .ref gcs, .ref gce, .ref ghg, .ref gop, .ref god, .int (zI cz1_)])), (gop, .inl (cI, 3000, .inl (zF op1_))), (god, .inl (cI, 3000, .inl (zF od1_)))]) [2, 3, 4] rfl
          have hDc := hD.sub (ws' := [(gr, .inr (1, [.int (zI sc_), .ref gsn, .ref gac, .ref gic, .ref gan, .ref gih, .ref grk, .int (zI rc_), .ref grn, .ref grs, .ref gcc, .ref gec, .ref gcs, .ref gce, .ref ghg, .ref gop, .ref god, .int (zI cz1_)])), (gop, .inl (cI, 3000, .inl (zF op1_))), (god, .inl (cI, 3000, .inl (zF od1_)))]) [2, 3, 4] (by decide) rfl
          have hKc := hK.sub (tys' := [(cI, .int)]) [0] rfl
          have hFc := va_free (wc := [(gr, .inr (1, [.int (zI sc_), .ref gsn, .ref gac, .ref gic, .ref gan, .ref gih, .ref grk, .int (zI rc_), .ref grn, .ref grs, .ref gcc, .ref gec, .ref gcs, .ref gce, .ref ghg, .ref gop, .ref god, .int (zI cz1_)])), (gop, .inl (cI, 3000, .inl (zF op1_))), (god, .inl (cI, 3000, .inl (zF od1_)))]) hD hS hA [2, 3, 4] rfl
          refine va_callv (va_runV (As := [.int (zI ((wt_ (i - 1)))), .int (zI 0)]) (rest := []) ⟨hx, hb, hml, hown, hg⟩ (c_X1_addCode l dC dI gr gop god gsn gac gic gan gih grk grn grs gcc gec gcs gce ghg cI H.size sc_ rc_ cz1_ op1_ od1_ ((wt_ (i - 1))) 0 (by omega)) (cwV 2 hg gc_X0_118 rfl rfl rfl (by decide +kernel) ⟨Nat.le_of_ble_eq_true rfl, Nat.le_of_ble_eq_true rfl⟩) ⟨fun a U g mk q => by obtain ⟨q0, q1, qP, qK, qD⟩ := q; exact ⟨q0, q1, qP, va_K.moved (u := U) (U := U.calling g mk a) (Vm.Alike.refl U.vm) qK, qD⟩, va_recv hKc hPc (ci := 1) (q0 := 0) rfl rfl, fun U hU hW => ⟨rfl, by rw [hU], by rw [hU]; exact hPc, va_K.moved hW.alike hKc, hDc.weaken (fun _ _ _ _ => trivial)⟩⟩ rfl rfl hl.1 rfl (lv_room (Nat.le_of_ble_eq_true rfl)) dX0_settle_39 ⟨Nat.le_of_ble_eq_true rfl, Nat.le_of_ble_eq_true rfl⟩) hS (fun q _ h => hFc q h) hFc (fun u6 t H1 locs ht hvm hw6 hB hz1 hk1 hS => ?_)
          obtain ⟨op2__7, od2__8, cz2__9, p0_10, p1_11, p2_12, hP1, hK1, hD1⟩ := hB
          rw [ht] at hP1
          have hK1 := va_K.moved hvm.symm hK1
          obtain ⟨hP, hD⟩ := va_join (wr := [(xr, .inr (0, [.ref tk, .ref gr, .int (zI xru_), .int (zI xta_), .int (zI xst_), .int (zI xtc_), .int (zI xop_), .ref gwt, .int (zI i), .int (zI oc_), .int (zI xic_)])), (gwt, .inl (cI, 40, .inl (zF wt_)))]) (w1 := [(gr, .inr (1, [.int (zI sc_), .ref gsn, .ref gac, .ref gic, .ref gan, .ref gih, .ref grk, .int (zI rc_), .ref grn, .ref grs, .ref gcc, .ref gec, .ref gcs, .ref gce, .ref ghg, .ref gop, .ref god, .int (zI cz2__9)])), (gop, .inl (cI, 3000, .inl (zF op2__7))), (god, .inl (cI, 3000, .inl (zF od2__8)))]) hP hD [2, 3, 4] [0, 1] rfl rfl (by decide) (by decide) hk1 hFc hP1 hD1
          have hK := (hK.sub (tys' := []) [] rfl).app hK1
          generalize H1 = H at hP hS ⊢
          have hP : va_P (dC, dI) vwCl [(xr, .inr (0, [.ref tk, .ref gr, .int (zI xru_), .int (zI xta_), .int (zI xst_), .int (zI xtc_), .int (zI xop_), .ref gwt, .int (zI i), .int (zI oc_), .int (zI xic_)])), (gwt, .inl (cI, 40, .inl (zF wt_))), (gr, .inr (1, [.int (zI sc_), .ref gsn, .ref gac, .ref gic, .ref gan, .ref gih, .ref grk, .int (zI rc_), .ref grn, .ref grs, .ref gcc, .ref gec, .ref gcs, .ref gce, .ref ghg, .ref gop, .ref god, .int (zI cz2__9)])), (gop, .inl (cI, 3000, .inl (zF op2__7))), (god, .inl (cI, 3000, .inl (zF od2__8)))] H := hP
          have hD : va_D A [(xr, .inr (0, [.ref tk, .ref gr, .int (zI xru_), .int (zI xta_), .int (zI xst_), .int (zI xtc_), .int (zI xop_), .ref gwt, .int (zI i), .int (zI oc_), .int (zI xic_)])), (gwt, .inl (cI, 40, .inl (zF wt_))), (gr, .inr (1, [.int (zI sc_), .ref gsn, .ref gac, .ref gic, .ref gan, .ref gih, .ref grk, .int (zI rc_), .ref grn, .ref grs, .ref gcc, .ref gec, .ref gcs, .ref gce, .ref ghg, .ref gop, .ref god, .int (zI cz2__9)])), (gop, .inl (cI, 3000, .inl (zF op2__7))), (god, .inl (cI, 3000, .inl (zF od2__8)))] := hD
          have hK : va_K (dC, dI) vwCl [(cI, .int)] s := hK
          refine lv_aload_n hx hb dX0_settle_42 rfl (lv_at hl 2 rfl) ?_
          refine lv_iload_n hx hb dX0_settle_43 rfl (lv_at hl 1 rfl) ?_
          refine lv_iconst (v := zI 1) hx hb dX0_settle_44 rfl ?_
          refine zv_isub (r := i - 1) hx hb dX0_settle_45 (by omega) ?_
          refine va_put (D := (dC, dI)) (ci := 0) (v := .int (zI (i - 1))) (ty := .int) (C := RX0) (T := TX0) (N := 11) hx hb hg inG_X0 tyX0 tyX0_ok nmX0 hown hK hP hD hS 0 rfl rfl 8 (by decide) (hg (.fieldLink RX0 31 "AttributeDesk$ExpressionReader" "waitingCount" "I") gw_1_212) (fun _ h9 => h9) rfl (by decide +kernel) rfl rfl (Nat.le_of_ble_eq_true rfl) dX0_settle_46 (fun H locs hP hD hS => ?_)
          have hP : va_P (dC, dI) vwCl [(xr, .inr (0, [.ref tk, .ref gr, .int (zI xru_), .int (zI xta_), .int (zI xst_), .int (zI xtc_), .int (zI xop_), .ref gwt, .int (zI (i - 1)), .int (zI oc_), .int (zI xic_)])), (gwt, .inl (cI, 40, .inl (zF wt_))), (gr, .inr (1, [.int (zI sc_), .ref gsn, .ref gac, .ref gic, .ref gan, .ref gih, .ref grk, .int (zI rc_), .ref grn, .ref grs, .ref gcc, .ref gec, .ref gcs, .ref gce, .ref ghg, .ref gop, .ref god, .int (zI cz2__9)])), (gop, .inl (cI, 3000, .inl (zF op2__7))), (god, .inl (cI, 3000, .inl (zF od2__8)))] H := hP
          have hD : va_D A [(xr, .inr (0, [.ref tk, .ref gr, .int (zI xru_), .int (zI xta_), .int (zI xst_), .int (zI xtc_), .int (zI xop_), .ref gwt, .int (zI (i - 1)), .int (zI oc_), .int (zI xic_)])), (gwt, .inl (cI, 40, .inl (zF wt_))), (gr, .inr (1, [.int (zI sc_), .ref gsn, .ref gac, .ref gic, .ref gan, .ref gih, .ref grk, .int (zI rc_), .ref grn, .ref grs, .ref gcc, .ref gec, .ref gcs, .ref gce, .ref ghg, .ref gop, .ref god, .int (zI cz2__9)])), (gop, .inl (cI, 3000, .inl (zF op2__7))), (god, .inl (cI, 3000, .inl (zF od2__8)))] := hD
          refine lv_iload_n hx hb dX0_settle_49 rfl (lv_at hl 0 rfl) ?_
          refine lv_bipush (v := zI 126) hx hb dX0_settle_50 (by decide) ?_
          refine zv_icmp_eq (tgt := 61) hx hb dX0_settle_52 (by decide) (by omega) (by decide) (fun c13 => ?_) (fun c13 => ?_)
          · refine lv_aload_n hx hb dX0_settle_61 rfl (lv_at hl 2 rfl) ?_
            refine lv_dup hx hb dX0_settle_62 rfl ?_
            refine va_get (D := (dC, dI)) (ci := 0) (v := .int (zI oc_)) (C := RX0) (T := TX0) (N := 11) hx hb hg inG_X0 hown hK hP 0 rfl rfl 9 (by decide) (hg (.fieldLink RX0 34 "AttributeDesk$ExpressionReader" "openCount" "I") gw_1_213) (fun _ h9 => h9) rfl dX0_settle_63 ?_
            refine lv_iconst (v := zI 1) hx hb dX0_settle_66 rfl ?_
            refine zv_isub (r := oc_ - 1) hx hb dX0_settle_67 (by omega) ?_
            refine va_put (D := (dC, dI)) (ci := 0) (v := .int (zI (oc_ - 1))) (ty := .int) (C := RX0) (T := TX0) (N := 11) hx hb hg inG_X0 tyX0 tyX0_ok nmX0 hown hK hP hD hS 0 rfl rfl 9 (by decide) (hg (.fieldLink RX0 34 "AttributeDesk$ExpressionReader" "openCount" "I") gw_1_213) (fun _ h9 => h9) rfl (by decide +kernel) rfl rfl (Nat.le_of_ble_eq_true rfl) dX0_settle_68 (fun H locs hP hD hS => ?_)
            have hP : va_P (dC, dI) vwCl [(xr, .inr (0, [.ref tk, .ref gr, .int (zI xru_), .int (zI xta_), .int (zI xst_), .int (zI xtc_), .int (zI xop_), .ref gwt, .int (zI (i - 1)), .int (zI (oc_ - 1)), .int (zI xic_)])), (gwt, .inl (cI, 40, .inl (zF wt_))), (gr, .inr (1, [.int (zI sc_), .ref gsn, .ref gac, .ref gic, .ref gan, .ref gih, .ref grk, .int (zI rc_), .ref grn, .ref grs, .ref gcc, .ref gec, .ref gcs, .ref gce, .ref ghg, .ref gop, .ref god, .int (zI cz2__9)])), (gop, .inl (cI, 3000, .inl (zF op2__7))), (god, .inl (cI, 3000, .inl (zF od2__8)))] H := hP
            have hD : va_D A [(xr, .inr (0, [.ref tk, .ref gr, .int (zI xru_), .int (zI xta_), .int (zI xst_), .int (zI xtc_), .int (zI xop_), .ref gwt, .int (zI (i - 1)), .int (zI (oc_ - 1)), .int (zI xic_)])), (gwt, .inl (cI, 40, .inl (zF wt_))), (gr, .inr (1, [.int (zI sc_), .ref gsn, .ref gac, .ref gic, .ref gan, .ref gih, .ref grk, .int (zI rc_), .ref grn, .ref grs, .ref gcc, .ref gec, .ref gcs, .ref gce, .ref ghg, .ref gop, .ref god, .int (zI cz2__9)])), (gop, .inl (cI, 3000, .inl (zF op2__7))), (god, .inl (cI, 3000, .inl (zF od2__8)))] := hD
            refine lv_iinc (v := zI (i - 1)) (lv' := [(2, .int (zI (i - 1))), (3, .int (zI ((wt_ (i - 1))))), (0, .ref xr), (1, .int (zI b_))]) hx hb dX0_settle_71 hl (k := 1) rfl (zI_inc (-1) (by omega)) (by decide) rfl (fun ls hl => ?_)
            refine lv_goto (tgt := 5) hx hb dX0_settle_74 (by decide) ?_
            exact ih5 (i - 1) (oc_ - 1) op2__7 od2__8 cz2__9 (by omega) (by have z := kOc_s (wt := wt_) (k := i - 1) (by omega); rw [show i - 1 + 1 = i by omega] at z; have z2 := kOpn_bn (x := wt_ (i - 1)) (b := b_) (by omega) (by omega); rw [if_pos (by omega)] at z2; omega) (by have z := aCz_rng hz_; rw [p2_12]; omega) (by rw [p0_10, p1_11, p2_12]; exact hs_.trans (kSet_t (by omega) (by omega))) (by omega) _ _ hP hD hS _ (lv_sub hl [0, 2, 3] rfl)
          · refine lv_iload_n hx hb dX0_settle_55 rfl (lv_at hl 0 rfl) ?_
            refine lv_bipush (v := zI 11) hx hb dX0_settle_56 (by decide) ?_
            refine zv_icmp_ne (tgt := 71) hx hb dX0_settle_58 (by decide) (by omega) (by decide) (fun c14 => ?_) (fun c14 => ?_)
            · refine lv_iinc (v := zI (i - 1)) (lv' := [(2, .int (zI (i - 1))), (3, .int (zI ((wt_ (i - 1))))), (0, .ref xr), (1, .int (zI b_))]) hx hb dX0_settle_71 hl (k := 1) rfl (zI_inc (-1) (by omega)) (by decide) rfl (fun ls hl => ?_)
              refine lv_goto (tgt := 5) hx hb dX0_settle_74 (by decide) ?_
              exact ih5 (i - 1) oc_ op2__7 od2__8 cz2__9 (by omega) (by have z := kOc_s (wt := wt_) (k := i - 1) (by omega); rw [show i - 1 + 1 = i by omega] at z; have z2 := kOpn_bn (x := wt_ (i - 1)) (b := b_) (by omega) (by omega); rw [if_neg (by omega)] at z2; omega) (by have z := aCz_rng hz_; rw [p2_12]; omega) (by rw [p0_10, p1_11, p2_12]; exact hs_.trans (kSet_t (by omega) (by omega))) (by omega) _ _ hP hD hS _ (lv_sub hl [0, 2, 3] rfl)
            · refine lv_aload_n hx hb dX0_settle_61 rfl (lv_at hl 2 rfl) ?_
              refine lv_dup hx hb dX0_settle_62 rfl ?_
              refine va_get (D := (dC, dI)) (ci := 0) (v := .int (zI oc_)) (C := RX0) (T := TX0) (N := 11) hx hb hg inG_X0 hown hK hP 0 rfl rfl 9 (by decide) (hg (.fieldLink RX0 34 "AttributeDesk$ExpressionReader" "openCount" "I") gw_1_213) (fun _ h9 => h9) rfl dX0_settle_63 ?_
              refine lv_iconst (v := zI 1) hx hb dX0_settle_66 rfl ?_
              refine zv_isub (r := oc_ - 1) hx hb dX0_settle_67 (by omega) ?_
              refine va_put (D := (dC, dI)) (ci := 0) (v := .int (zI (oc_ - 1))) (ty := .int) (C := RX0) (T := TX0) (N := 11) hx hb hg inG_X0 tyX0 tyX0_ok nmX0 hown hK hP hD hS 0 rfl rfl 9 (by decide) (hg (.fieldLink RX0 34 "AttributeDesk$ExpressionReader" "openCount" "I") gw_1_213) (fun _ h9 => h9) rfl (by decide +kernel) rfl rfl (Nat.le_of_ble_eq_true rfl) dX0_settle_68 (fun H locs hP hD hS => ?_)
              have hP : va_P (dC, dI) vwCl [(xr, .inr (0, [.ref tk, .ref gr, .int (zI xru_), .int (zI xta_), .int (zI xst_), .int (zI xtc_), .int (zI xop_), .ref gwt, .int (zI (i - 1)), .int (zI (oc_ - 1)), .int (zI xic_)])), (gwt, .inl (cI, 40, .inl (zF wt_))), (gr, .inr (1, [.int (zI sc_), .ref gsn, .ref gac, .ref gic, .ref gan, .ref gih, .ref grk, .int (zI rc_), .ref grn, .ref grs, .ref gcc, .ref gec, .ref gcs, .ref gce, .ref ghg, .ref gop, .ref god, .int (zI cz2__9)])), (gop, .inl (cI, 3000, .inl (zF op2__7))), (god, .inl (cI, 3000, .inl (zF od2__8)))] H := hP
              have hD : va_D A [(xr, .inr (0, [.ref tk, .ref gr, .int (zI xru_), .int (zI xta_), .int (zI xst_), .int (zI xtc_), .int (zI xop_), .ref gwt, .int (zI (i - 1)), .int (zI (oc_ - 1)), .int (zI xic_)])), (gwt, .inl (cI, 40, .inl (zF wt_))), (gr, .inr (1, [.int (zI sc_), .ref gsn, .ref gac, .ref gic, .ref gan, .ref gih, .ref grk, .int (zI rc_), .ref grn, .ref grs, .ref gcc, .ref gec, .ref gcs, .ref gce, .ref ghg, .ref gop, .ref god, .int (zI cz2__9)])), (gop, .inl (cI, 3000, .inl (zF op2__7))), (god, .inl (cI, 3000, .inl (zF od2__8)))] := hD
              refine lv_iinc (v := zI (i - 1)) (lv' := [(2, .int (zI (i - 1))), (3, .int (zI ((wt_ (i - 1))))), (0, .ref xr), (1, .int (zI b_))]) hx hb dX0_settle_71 hl (k := 1) rfl (zI_inc (-1) (by omega)) (by decide) rfl (fun ls hl => ?_)
              refine lv_goto (tgt := 5) hx hb dX0_settle_74 (by decide) ?_
              exact ih5 (i - 1) (oc_ - 1) op2__7 od2__8 cz2__9 (by omega) (by have z := kOc_s (wt := wt_) (k := i - 1) (by omega); rw [show i - 1 + 1 = i by omega] at z; have z2 := kOpn_bn (x := wt_ (i - 1)) (b := b_) (by omega) (by omega); rw [if_pos (by omega)] at z2; omega) (by have z := aCz_rng hz_; rw [p2_12]; omega) (by rw [p0_10, p1_11, p2_12]; exact hs_.trans (kSet_t (by omega) (by omega))) (by omega) _ _ hP hD hS _ (lv_sub hl [0, 2, 3] rfl)
  exact lp5 ((xwc_).toNat + 1) xwc_ xoc_ op_ od_ cz_ (by omega) hoc (by omega) rfl (by omega) _ _ hP hD hS _ (lv_sub hl [0, 1, 2] rfl)

set_option maxHeartbeats 4000000 in
set_option maxRecDepth 100000 in
theorem c_X0_open (l : Launch) (dC : Nat → ClassId) (dI : Nat → Nat → Nat) (xr gwt tk gr : Nat) (cI : ClassId) (sz : Nat) (xru_ : Int) (xta_ : Int) (xst_ : Int) (xtc_ : Int) (xop_ : Int) (xwc_ : Int) (xoc_ : Int) (xic_ : Int) (wt_ : Int → Int) (wh_ : Int) (hwc : 0 ≤ xwc_ ∧ xwc_ ≤ 40) (ht4 : 0 ≤ xtc_ ∧ xtc_ ≤ 40) (hct : xwc_ ≤ xtc_) (hoc : xoc_ = kOc wt_ xwc_) (hwh : kOpn wh_ = 1) : Met l yX0_open wyX0_open ({ frames := 1, cells := 0, slots := 0, locals := 21 }) (va_Pc [.ref xr, .int (zI wh_)] (fun U => U.heap.size = sz ∧ va_P (dC, dI) vwCl [(xr, .inr (0, [.ref tk, .ref gr, .int (zI xru_), .int (zI xta_), .int (zI xst_), .int (zI xtc_), .int (zI xop_), .ref gwt, .int (zI xwc_), .int (zI xoc_), .int (zI xic_)])), (gwt, .inl (cI, 40, .inl (zF wt_)))] U.heap ∧ va_K (dC, dI) vwCl [(cI, .int)] U ∧ va_D (fun _ => True) [(xr, .inr (0, [.ref tk, .ref gr, .int (zI xru_), .int (zI xta_), .int (zI xst_), .int (zI xtc_), .int (zI xop_), .ref gwt, .int (zI xwc_), .int (zI xoc_), .int (zI xic_)])), (gwt, .inl (cI, 40, .inl (zF wt_)))])) (va_Qi (fun (rr : Int32) (r : Int) => rr = zI r) (fun r t => ∃ (st2_ : Int), ∃ (tc2_ : Int), ∃ (wt2_ : Int → Int), ∃ (wc2_ : Int), ∃ (oc2_ : Int), (oOpen wh_ xtc_ wt_ xwc_ r st2_ tc2_ wt2_ wc2_) ∧ (r = 0 → oc2_ = kOc wt2_ wc2_) ∧ va_P (dC, dI) vwCl [(xr, .inr (0, [.ref tk, .ref gr, .int (zI xru_), .int (zI xta_), .int (zI st2_), .int (zI tc2_), .int (zI xop_), .ref gwt, .int (zI wc2_), .int (zI oc2_), .int (zI xic_)])), (gwt, .inl (cI, 40, .inl (zF wt2_)))] t.heap ∧ va_K (dC, dI) vwCl [(cI, .int)] t ∧ va_D (va_A [(xr, .inr (0, [.ref tk, .ref gr, .int (zI xru_), .int (zI xta_), .int (zI xst_), .int (zI xtc_), .int (zI xop_), .ref gwt, .int (zI xwc_), .int (zI xoc_), .int (zI xic_)])), (gwt, .inl (cI, 40, .inl (zF wt_)))] sz) [(xr, .inr (0, [.ref tk, .ref gr, .int (zI xru_), .int (zI xta_), .int (zI st2_), .int (zI tc2_), .int (zI xop_), .ref gwt, .int (zI wc2_), .int (zI oc2_), .int (zI xic_)])), (gwt, .inl (cI, 40, .inl (zF wt2_)))]) (va_A [(xr, .inr (0, [.ref tk, .ref gr, .int (zI xru_), .int (zI xta_), .int (zI xst_), .int (zI xtc_), .int (zI xop_), .ref gwt, .int (zI xwc_), .int (zI xoc_), .int (zI xic_)])), (gwt, .inl (cI, 40, .inl (zF wt_)))] sz)) 0 0 (va_A [(xr, .inr (0, [.ref tk, .ref gr, .int (zI xru_), .int (zI xta_), .int (zI xst_), .int (zI xtc_), .int (zI xop_), .ref gwt, .int (zI xwc_), .int (zI xoc_), .int (zI xic_)])), (gwt, .inl (cI, 40, .inl (zF wt_)))] sz) := by
  refine Met.ofW (cc := cX0_open) (maxL := 2) (ret := (some .int)) (by decide) rfl ?_
  intro p e s m args below meth c s₁ B hml hv
  obtain ⟨rfl, hsz, hP, hK, hD0⟩ := hv
  have hx := B.exec
  have hb := B.bytes
  have hr := B.returns
  have hts := atoms_spec (ws := wyX0_open) B.pre
  have hg : ∀ w ∈ lw_G, w.before _ s = true := fun w h => hts w (List.mem_cons_of_mem _ h)
  have hown : s.vm.findClass RX0 = some m.cls := findClass_of_methodNamed B.named
  have hlocks := B.notSynchronized
  subst hsz
  have hD := hD0.self (sz := s.heap.size)
  generalize hAe : va_A [(xr, .inr (0, [.ref tk, .ref gr, .int (zI xru_), .int (zI xta_), .int (zI xst_), .int (zI xtc_), .int (zI xop_), .ref gwt, .int (zI xwc_), .int (zI xoc_), .int (zI xic_)])), (gwt, .inl (cI, 40, .inl (zF wt_)))] s.heap.size = A at hD ⊢
  have hA : ∀ q : Nat, s.heap.size ≤ q → A q := fun q h => by rw [← hAe]; exact Or.inr h
  have hS : va_S A s.heap s.heap [] := va_S.rf
  have hP : va_P (dC, dI) vwCl [(xr, .inr (0, [.ref tk, .ref gr, .int (zI xru_), .int (zI xta_), .int (zI xst_), .int (zI xtc_), .int (zI xop_), .ref gwt, .int (zI xwc_), .int (zI xoc_), .int (zI xic_)])), (gwt, .inl (cI, 40, .inl (zF wt_)))] s.heap := hP
  have hl := lv_entry ([.ref xr, .int (zI wh_)]) (n := 2) (Nat.le_of_ble_eq_true rfl)
  rw [lg_entry_eq]
  generalize (lg_sl ([.ref xr, .int (zI wh_)]) ++ List.replicate (2 - (lg_sl ([.ref xr, .int (zI wh_)])).length) Slot.unset).toArray = ls at hl ⊢
  have hl : lv_has ls 2 [(0, .ref xr), (1, .int (zI wh_))] := hl
  have hko := kOc_rng wt_ (k := xwc_) (by omega)
  refine lv_aload_n hx hb dX0_open_0 rfl (lv_at hl 0 rfl) ?_
  have hPc := hP.sub (ws' := [(xr, .inr (0, [.ref tk, .ref gr, .int (zI xru_), .int (zI xta_), .int (zI xst_), .int (zI xtc_), .int (zI xop_), .ref gwt, .int (zI xwc_), .int (zI xoc_), .int (zI xic_)]))]) [0] rfl
  have hDc := hD.sub (ws' := [(xr, .inr (0, [.ref tk, .ref gr, .int (zI xru_), .int (zI xta_), .int (zI xst_), .int (zI xtc_), .int (zI xop_), .ref gwt, .int (zI xwc_), .int (zI xoc_), .int (zI xic_)]))]) [0] (by decide) rfl
  have hKc := hK.sub (tys' := []) [] rfl
  have hFc := va_free (wc := [(xr, .inr (0, [.ref tk, .ref gr, .int (zI xru_), .int (zI xta_), .int (zI xst_), .int (zI xtc_), .int (zI xop_), .ref gwt, .int (zI xwc_), .int (zI xoc_), .int (zI xic_)]))]) hD hS hA [0] rfl
  refine va_calli (va_runV (As := []) (rest := []) ⟨hx, hb, hml, hown, hg⟩ (c_X0_isOneTooMany l dC dI xr tk gr gwt s.heap.size xru_ xta_ xst_ xtc_ xop_ xwc_ xoc_ xic_ (by omega)) (cwV 0 hg gc_X0_100 rfl rfl rfl (by decide +kernel) ⟨Nat.le_of_ble_eq_true rfl, Nat.le_of_ble_eq_true rfl⟩) ⟨fun a U g mk q => by obtain ⟨q0, q1, qP, qK, qD⟩ := q; exact ⟨q0, q1, qP, va_K.moved (u := U) (U := U.calling g mk a) (Vm.Alike.refl U.vm) qK, qD⟩, va_recv hKc hPc (ci := 0) (q0 := 0) rfl rfl, fun U hU hW => ⟨rfl, by rw [hU], by rw [hU]; exact hPc, va_K.moved hW.alike hKc, hDc.weaken (fun _ _ _ _ => trivial)⟩⟩ rfl rfl hl.1 rfl (lv_room (Nat.le_of_ble_eq_true rfl)) dX0_open_1 ⟨Nat.le_of_ble_eq_true rfl, Nat.le_of_ble_eq_true rfl⟩) hS (fun q _ h => hFc q h) hFc (fun r1 u1 t H1 locs ht hvm hw1 hB hz1 hk1 hS => ?_)
  obtain ⟨p0_2, hP1, hK1, hD1⟩ := hB
  rw [ht] at hP1
  have hK1 := va_K.moved hvm.symm hK1
  obtain ⟨hP, hD⟩ := va_join (wr := [(gwt, .inl (cI, 40, .inl (zF wt_)))]) (w1 := [(xr, .inr (0, [.ref tk, .ref gr, .int (zI xru_), .int (zI xta_), .int (zI xst_), .int (zI (xtc_ + 1)), .int (zI xop_), .ref gwt, .int (zI xwc_), .int (zI xoc_), .int (zI xic_)]))]) hP hD [0] [1] rfl rfl (by decide) (by decide) hk1 hFc hP1 hD1
  have hK := (hK.sub (tys' := [(cI, .int)]) [0] rfl).app hK1
  generalize H1 = H at hP hS ⊢
  have hP : va_P (dC, dI) vwCl [(gwt, .inl (cI, 40, .inl (zF wt_))), (xr, .inr (0, [.ref tk, .ref gr, .int (zI xru_), .int (zI xta_), .int (zI xst_), .int (zI (xtc_ + 1)), .int (zI xop_), .ref gwt, .int (zI xwc_), .int (zI xoc_), .int (zI xic_)]))] H := hP
  have hD : va_D A [(gwt, .inl (cI, 40, .inl (zF wt_))), (xr, .inr (0, [.ref tk, .ref gr, .int (zI xru_), .int (zI xta_), .int (zI xst_), .int (zI (xtc_ + 1)), .int (zI xop_), .ref gwt, .int (zI xwc_), .int (zI xoc_), .int (zI xic_)]))] := hD
  have hK : va_K (dC, dI) vwCl [(cI, .int)] s := hK
  obtain rfl : r1 = zI u1 := hw1
  rcases p0_2 with ⟨rfl, h40⟩ | ⟨rfl, h40⟩
  · refine zv_if_ne (tgt := 16) hx hb dX0_open_4 (by decide) (by decide) (fun c3 => ?_) (fun c3 => absurd c3 (by decide))
    refine lv_iconst (v := zI 4) hx hb dX0_open_16 rfl ?_
    have hP9 := hP.sub (ws' := [(xr, .inr (0, [.ref tk, .ref gr, .int (zI xru_), .int (zI xta_), .int (zI xst_), .int (zI (xtc_ + 1)), .int (zI xop_), .ref gwt, .int (zI xwc_), .int (zI xoc_), .int (zI xic_)])), (gwt, .inl (cI, 40, .inl (zF wt_)))]) [1, 0] rfl
    have hD9 := hD.sub (ws' := [(xr, .inr (0, [.ref tk, .ref gr, .int (zI xru_), .int (zI xta_), .int (zI xst_), .int (zI (xtc_ + 1)), .int (zI xop_), .ref gwt, .int (zI xwc_), .int (zI xoc_), .int (zI xic_)])), (gwt, .inl (cI, 40, .inl (zF wt_)))]) [1, 0] (by decide) rfl
    have hK9 := hK.sub (tys' := [(cI, .int)]) [0] rfl
    exact W.iret (v := zI 4) hx hb hr (fun t ht hW => ⟨⟨zI 4, 4, rfl, rfl, xst_, (xtc_ + 1), wt_, xwc_, xoc_, (Or.inl ⟨rfl, Or.inl (by omega)⟩), (fun h => absurd h (by decide)), by rw [ht]; exact hP9, va_K.moved hW.alike hK9, hD9⟩, hS.F ht⟩) hS.2.2 dX0_open_17
  · refine zv_if_ne (tgt := 16) hx hb dX0_open_4 (by decide) (by decide) (fun c4 => absurd c4 (by decide)) (fun c4 => ?_)
    refine lv_aload_n hx hb dX0_open_7 rfl (lv_at hl 0 rfl) ?_
    refine va_get (D := (dC, dI)) (ci := 0) (v := .int (zI xoc_)) (C := RX0) (T := TX0) (N := 11) hx hb hg inG_X0 hown hK hP 1 rfl rfl 9 (by decide) (hg (.fieldLink RX0 34 "AttributeDesk$ExpressionReader" "openCount" "I") gw_1_213) (fun _ h9 => h9) rfl dX0_open_8 ?_
    refine lv_bipush (v := zI 20) hx hb dX0_open_11 (by decide) ?_
    refine zv_icmp_lt (tgt := 18) hx hb dX0_open_13 (by decide) (by omega) (by decide) (fun c5 => ?_) (fun c5 => ?_)
    · refine lv_aload_n hx hb dX0_open_18 rfl (lv_at hl 0 rfl) ?_
      refine lv_dup hx hb dX0_open_19 rfl ?_
      refine va_get (D := (dC, dI)) (ci := 0) (v := .int (zI xoc_)) (C := RX0) (T := TX0) (N := 11) hx hb hg inG_X0 hown hK hP 1 rfl rfl 9 (by decide) (hg (.fieldLink RX0 34 "AttributeDesk$ExpressionReader" "openCount" "I") gw_1_213) (fun _ h9 => h9) rfl dX0_open_20 ?_
      refine lv_iconst (v := zI 1) hx hb dX0_open_23 rfl ?_
      refine zv_iadd (r := xoc_ + 1) hx hb dX0_open_24 (by omega) ?_
      refine va_put (D := (dC, dI)) (ci := 0) (v := .int (zI (xoc_ + 1))) (ty := .int) (C := RX0) (T := TX0) (N := 11) hx hb hg inG_X0 tyX0 tyX0_ok nmX0 hown hK hP hD hS 1 rfl rfl 9 (by decide) (hg (.fieldLink RX0 34 "AttributeDesk$ExpressionReader" "openCount" "I") gw_1_213) (fun _ h9 => h9) rfl (by decide +kernel) rfl rfl (Nat.le_of_ble_eq_true rfl) dX0_open_25 (fun H locs hP hD hS => ?_)
      have hP : va_P (dC, dI) vwCl [(gwt, .inl (cI, 40, .inl (zF wt_))), (xr, .inr (0, [.ref tk, .ref gr, .int (zI xru_), .int (zI xta_), .int (zI xst_), .int (zI (xtc_ + 1)), .int (zI xop_), .ref gwt, .int (zI xwc_), .int (zI (xoc_ + 1)), .int (zI xic_)]))] H := hP
      have hD : va_D A [(gwt, .inl (cI, 40, .inl (zF wt_))), (xr, .inr (0, [.ref tk, .ref gr, .int (zI xru_), .int (zI xta_), .int (zI xst_), .int (zI (xtc_ + 1)), .int (zI xop_), .ref gwt, .int (zI xwc_), .int (zI (xoc_ + 1)), .int (zI xic_)]))] := hD
      refine lv_aload_n hx hb dX0_open_28 rfl (lv_at hl 0 rfl) ?_
      refine lv_iload_n hx hb dX0_open_29 rfl (lv_at hl 1 rfl) ?_
      have hPc := hP.sub (ws' := [(xr, .inr (0, [.ref tk, .ref gr, .int (zI xru_), .int (zI xta_), .int (zI xst_), .int (zI (xtc_ + 1)), .int (zI xop_), .ref gwt, .int (zI xwc_), .int (zI (xoc_ + 1)), .int (zI xic_)])), (gwt, .inl (cI, 40, .inl (zF wt_)))]) [1, 0] rfl
      have hDc := hD.sub (ws' := [(xr, .inr (0, [.ref tk, .ref gr, .int (zI xru_), .int (zI xta_), .int (zI xst_), .int (zI (xtc_ + 1)), .int (zI xop_), .ref gwt, .int (zI xwc_), .int (zI (xoc_ + 1)), .int (zI xic_)])), (gwt, .inl (cI, 40, .inl (zF wt_)))]) [1, 0] (by decide) rfl
      have hKc := hK.sub (tys' := [(cI, .int)]) [0] rfl
      have hFc := va_free (wc := [(xr, .inr (0, [.ref tk, .ref gr, .int (zI xru_), .int (zI xta_), .int (zI xst_), .int (zI (xtc_ + 1)), .int (zI xop_), .ref gwt, .int (zI xwc_), .int (zI (xoc_ + 1)), .int (zI xic_)])), (gwt, .inl (cI, 40, .inl (zF wt_)))]) hD hS hA [1, 0] rfl
      refine va_calli (va_runV (As := [.int (zI wh_)]) (rest := []) ⟨hx, hb, hml, hown, hg⟩ (c_X0_await l dC dI xr gwt tk gr cI H.size xru_ xta_ xst_ (xtc_ + 1) xop_ xwc_ (xoc_ + 1) xic_ wt_ wh_ (by omega)) (cwV 1 hg gc_X0_126 rfl rfl rfl (by decide +kernel) ⟨Nat.le_of_ble_eq_true rfl, Nat.le_of_ble_eq_true rfl⟩) ⟨fun a U g mk q => by obtain ⟨q0, q1, qP, qK, qD⟩ := q; exact ⟨q0, q1, qP, va_K.moved (u := U) (U := U.calling g mk a) (Vm.Alike.refl U.vm) qK, qD⟩, va_recv hKc hPc (ci := 0) (q0 := 0) rfl rfl, fun U hU hW => ⟨rfl, by rw [hU], by rw [hU]; exact hPc, va_K.moved hW.alike hKc, hDc.weaken (fun _ _ _ _ => trivial)⟩⟩ rfl rfl hl.1 rfl (lv_room (Nat.le_of_ble_eq_true rfl)) dX0_open_30 ⟨Nat.le_of_ble_eq_true rfl, Nat.le_of_ble_eq_true rfl⟩) hS (fun q _ h => hFc q h) hFc (fun r6 u6 t H1 locs ht hvm hw6 hB hz1 hk1 hS => ?_)
      obtain ⟨wt2__7, wc2__8, st2__9, p0_10, hP1, hK1, hD1⟩ := hB
      rw [ht] at hP1
      have hK1 := va_K.moved hvm.symm hK1
      obtain ⟨hP, hD⟩ := va_join (wr := []) (w1 := [(xr, .inr (0, [.ref tk, .ref gr, .int (zI xru_), .int (zI xta_), .int (zI st2__9), .int (zI (xtc_ + 1)), .int (zI xop_), .ref gwt, .int (zI wc2__8), .int (zI (xoc_ + 1)), .int (zI xic_)])), (gwt, .inl (cI, 40, .inl (zF wt2__7)))]) hP hD [1, 0] [] rfl rfl (by decide) (by decide) hk1 hFc hP1 hD1
      have hK := (hK.sub (tys' := []) [] rfl).app hK1
      generalize H1 = H at hP hS ⊢
      have hP : va_P (dC, dI) vwCl [(xr, .inr (0, [.ref tk, .ref gr, .int (zI xru_), .int (zI xta_), .int (zI st2__9), .int (zI (xtc_ + 1)), .int (zI xop_), .ref gwt, .int (zI wc2__8), .int (zI (xoc_ + 1)), .int (zI xic_)])), (gwt, .inl (cI, 40, .inl (zF wt2__7)))] H := hP
      have hD : va_D A [(xr, .inr (0, [.ref tk, .ref gr, .int (zI xru_), .int (zI xta_), .int (zI st2__9), .int (zI (xtc_ + 1)), .int (zI xop_), .ref gwt, .int (zI wc2__8), .int (zI (xoc_ + 1)), .int (zI xic_)])), (gwt, .inl (cI, 40, .inl (zF wt2__7)))] := hD
      have hK : va_K (dC, dI) vwCl [(cI, .int)] s := hK
      obtain rfl : r6 = zI u6 := hw6
      rcases p0_10 with ⟨rfl, haw, rfl, rfl, rfl⟩ | ⟨rfl, haw, rfl, rfl, rfl⟩
      · exfalso; omega
      · have hP9 := hP.sub (ws' := [(xr, .inr (0, [.ref tk, .ref gr, .int (zI xru_), .int (zI xta_), .int (zI 0), .int (zI (xtc_ + 1)), .int (zI xop_), .ref gwt, .int (zI (xwc_ + 1)), .int (zI (xoc_ + 1)), .int (zI xic_)])), (gwt, .inl (cI, 40, .inl (zF (zU wt_ xwc_ wh_))))]) [0, 1] rfl
        have hD9 := hD.sub (ws' := [(xr, .inr (0, [.ref tk, .ref gr, .int (zI xru_), .int (zI xta_), .int (zI 0), .int (zI (xtc_ + 1)), .int (zI xop_), .ref gwt, .int (zI (xwc_ + 1)), .int (zI (xoc_ + 1)), .int (zI xic_)])), (gwt, .inl (cI, 40, .inl (zF (zU wt_ xwc_ wh_))))]) [0, 1] (by decide) rfl
        have hK9 := hK.sub (tys' := [(cI, .int)]) [0] rfl
        exact W.iret (v := zI 0) hx hb hr (fun t ht hW => ⟨⟨zI 0, 0, rfl, rfl, 0, (xtc_ + 1), (zU wt_ xwc_ wh_), (xwc_ + 1), (xoc_ + 1), (Or.inr ⟨rfl, by omega, by omega, rfl, rfl, rfl, rfl⟩), (fun _ => by have z := kOc_s (wt := zU wt_ xwc_ wh_) (k := xwc_) (by omega); rw [zU_s, kOc_zU (wt := wt_) (j := xwc_) (v := wh_) (k := xwc_) (by omega) (by omega)] at z; omega), by rw [ht]; exact hP9, va_K.moved hW.alike hK9, hD9⟩, hS.F ht⟩) hS.2.2 dX0_open_33
    · refine lv_iconst (v := zI 4) hx hb dX0_open_16 rfl ?_
      have hP9 := hP.sub (ws' := [(xr, .inr (0, [.ref tk, .ref gr, .int (zI xru_), .int (zI xta_), .int (zI xst_), .int (zI (xtc_ + 1)), .int (zI xop_), .ref gwt, .int (zI xwc_), .int (zI xoc_), .int (zI xic_)])), (gwt, .inl (cI, 40, .inl (zF wt_)))]) [1, 0] rfl
      have hD9 := hD.sub (ws' := [(xr, .inr (0, [.ref tk, .ref gr, .int (zI xru_), .int (zI xta_), .int (zI xst_), .int (zI (xtc_ + 1)), .int (zI xop_), .ref gwt, .int (zI xwc_), .int (zI xoc_), .int (zI xic_)])), (gwt, .inl (cI, 40, .inl (zF wt_)))]) [1, 0] (by decide) rfl
      have hK9 := hK.sub (tys' := [(cI, .int)]) [0] rfl
      exact W.iret (v := zI 4) hx hb hr (fun t ht hW => ⟨⟨zI 4, 4, rfl, rfl, xst_, (xtc_ + 1), wt_, xwc_, xoc_, (Or.inl ⟨rfl, Or.inr (by omega)⟩), (fun h => absurd h (by decide)), by rw [ht]; exact hP9, va_K.moved hW.alike hK9, hD9⟩, hS.F ht⟩) hS.2.2 dX0_open_17

set_option maxHeartbeats 4000000 in
set_option maxRecDepth 100000 in
theorem c_X0_emitOperand (l : Launch) (dC : Nat → ClassId) (dI : Nat → Nat → Nat) (xr gwt gr gop god tk gsn gac gic gan gih grk grn grs gcc gec gcs gce ghg : Nat) (cI : ClassId) (sz : Nat) (xru_ : Int) (xta_ : Int) (xst_ : Int) (xtc_ : Int) (xop_ : Int) (xwc_ : Int) (xoc_ : Int) (xic_ : Int) (wt_ : Int → Int) (sc_ : Int) (rc_ : Int) (cz_ : Int) (op_ : Int → Int) (od_ : Int → Int) (ov_ : Int) (dv_ : Int) (hwc : 0 ≤ xwc_ ∧ xwc_ ≤ 40) (ht4 : 0 ≤ xtc_ ∧ xtc_ ≤ 40) (hoc : xoc_ = kOc wt_ xwc_) (hcz : 0 ≤ cz_ ∧ cz_ ≤ 3000) (hwt : ∀ j : Int, 0 ≤ j ∧ j < 40 → -128 ≤ wt_ j ∧ wt_ j < 128) (hov : 0 ≤ ov_ ∧ ov_ < 128) (hdv : 0 ≤ dv_ ∧ dv_ ≤ 21474836479) : Met l yX0_emitOperand wyX0_emitOperand ({ frames := 2, cells := 0, slots := 0, locals := 45 }) (va_Pc [.ref xr, .int (zI ov_), .long (lI dv_)] (fun U => U.heap.size = sz ∧ va_P (dC, dI) vwCl [(xr, .inr (0, [.ref tk, .ref gr, .int (zI xru_), .int (zI xta_), .int (zI xst_), .int (zI xtc_), .int (zI xop_), .ref gwt, .int (zI xwc_), .int (zI xoc_), .int (zI xic_)])), (gwt, .inl (cI, 40, .inl (zF wt_))), (gr, .inr (1, [.int (zI sc_), .ref gsn, .ref gac, .ref gic, .ref gan, .ref gih, .ref grk, .int (zI rc_), .ref grn, .ref grs, .ref gcc, .ref gec, .ref gcs, .ref gce, .ref ghg, .ref gop, .ref god, .int (zI cz_)])), (gop, .inl (cI, 3000, .inl (zF op_))), (god, .inl (cI, 3000, .inl (zF od_)))] U.heap ∧ va_K (dC, dI) vwCl [(cI, .int)] U ∧ va_D (fun _ => True) [(xr, .inr (0, [.ref tk, .ref gr, .int (zI xru_), .int (zI xta_), .int (zI xst_), .int (zI xtc_), .int (zI xop_), .ref gwt, .int (zI xwc_), .int (zI xoc_), .int (zI xic_)])), (gwt, .inl (cI, 40, .inl (zF wt_))), (gr, .inr (1, [.int (zI sc_), .ref gsn, .ref gac, .ref gic, .ref gan, .ref gih, .ref grk, .int (zI rc_), .ref grn, .ref grs, .ref gcc, .ref gec, .ref gcs, .ref gce, .ref ghg, .ref gop, .ref god, .int (zI cz_)])), (gop, .inl (cI, 3000, .inl (zF op_))), (god, .inl (cI, 3000, .inl (zF od_)))])) (va_Qi (fun (rr : Int32) (r : Int) => rr = zI r) (fun r t => ∃ (st2_ : Int), ∃ (tc2_ : Int), ∃ (wc2_ : Int), ∃ (oc2_ : Int), ∃ (op2_ : Int → Int), ∃ (od2_ : Int → Int), ∃ (cz2_ : Int), (oEmit ov_ dv_ xtc_ wt_ xwc_ op_ od_ cz_ r st2_ tc2_ wc2_ op2_ od2_ cz2_) ∧ (r = 0 → 0 ≤ wc2_ ∧ wc2_ ≤ xwc_ ∧ oc2_ = kOc wt_ wc2_ ∧ 0 ≤ cz2_ ∧ cz2_ ≤ 3000 ∧ kBn (kTop wt_ wc2_) < 5) ∧ va_P (dC, dI) vwCl [(xr, .inr (0, [.ref tk, .ref gr, .int (zI xru_), .int (zI xta_), .int (zI st2_), .int (zI tc2_), .int (zI xop_), .ref gwt, .int (zI wc2_), .int (zI oc2_), .int (zI xic_)])), (gwt, .inl (cI, 40, .inl (zF wt_))), (gr, .inr (1, [.int (zI sc_), .ref gsn, .ref gac, .ref gic, .ref gan, .ref gih, .ref grk, .int (zI rc_), .ref grn, .ref grs, .ref gcc, .ref gec, .ref gcs, .ref gce, .ref ghg, .ref gop, .ref god, .int (zI cz2_)])), (gop, .inl (cI, 3000, .inl (zF op2_))), (god, .inl (cI, 3000, .inl (zF od2_)))] t.heap ∧ va_K (dC, dI) vwCl [(cI, .int)] t ∧ va_D (va_A [(xr, .inr (0, [.ref tk, .ref gr, .int (zI xru_), .int (zI xta_), .int (zI xst_), .int (zI xtc_), .int (zI xop_), .ref gwt, .int (zI xwc_), .int (zI xoc_), .int (zI xic_)])), (gwt, .inl (cI, 40, .inl (zF wt_))), (gr, .inr (1, [.int (zI sc_), .ref gsn, .ref gac, .ref gic, .ref gan, .ref gih, .ref grk, .int (zI rc_), .ref grn, .ref grs, .ref gcc, .ref gec, .ref gcs, .ref gce, .ref ghg, .ref gop, .ref god, .int (zI cz_)])), (gop, .inl (cI, 3000, .inl (zF op_))), (god, .inl (cI, 3000, .inl (zF od_)))] sz) [(xr, .inr (0, [.ref tk, .ref gr, .int (zI xru_), .int (zI xta_), .int (zI st2_), .int (zI tc2_), .int (zI xop_), .ref gwt, .int (zI wc2_), .int (zI oc2_), .int (zI xic_)])), (gwt, .inl (cI, 40, .inl (zF wt_))), (gr, .inr (1, [.int (zI sc_), .ref gsn, .ref gac, .ref gic, .ref gan, .ref gih, .ref grk, .int (zI rc_), .ref grn, .ref grs, .ref gcc, .ref gec, .ref gcs, .ref gce, .ref ghg, .ref gop, .ref god, .int (zI cz2_)])), (gop, .inl (cI, 3000, .inl (zF op2_))), (god, .inl (cI, 3000, .inl (zF od2_)))]) (va_A [(xr, .inr (0, [.ref tk, .ref gr, .int (zI xru_), .int (zI xta_), .int (zI xst_), .int (zI xtc_), .int (zI xop_), .ref gwt, .int (zI xwc_), .int (zI xoc_), .int (zI xic_)])), (gwt, .inl (cI, 40, .inl (zF wt_))), (gr, .inr (1, [.int (zI sc_), .ref gsn, .ref gac, .ref gic, .ref gan, .ref gih, .ref grk, .int (zI rc_), .ref grn, .ref grs, .ref gcc, .ref gec, .ref gcs, .ref gce, .ref ghg, .ref gop, .ref god, .int (zI cz_)])), (gop, .inl (cI, 3000, .inl (zF op_))), (god, .inl (cI, 3000, .inl (zF od_)))] sz)) 0 0 (va_A [(xr, .inr (0, [.ref tk, .ref gr, .int (zI xru_), .int (zI xta_), .int (zI xst_), .int (zI xtc_), .int (zI xop_), .ref gwt, .int (zI xwc_), .int (zI xoc_), .int (zI xic_)])), (gwt, .inl (cI, 40, .inl (zF wt_))), (gr, .inr (1, [.int (zI sc_), .ref gsn, .ref gac, .ref gic, .ref gan, .ref gih, .ref grk, .int (zI rc_), .ref grn, .ref grs, .ref gcc, .ref gec, .ref gcs, .ref gce, .ref ghg, .ref gop, .ref god, .int (zI cz_)])), (gop, .inl (cI, 3000, .inl (zF op_))), (god, .inl (cI, 3000, .inl (zF od_)))] sz) := by
  refine Met.ofW (cc := cX0_emitOperand) (maxL := 4) (ret := (some .int)) (by decide) rfl ?_
  intro p e s m args below meth c s₁ B hml hv
  obtain ⟨rfl, hsz, hP, hK, hD0⟩ := hv
  have hx := B.exec
  have hb := B.bytes
  have hr := B.returns
  have hts := atoms_spec (ws := wyX0_emitOperand) B.pre
  have hg : ∀ w ∈ lw_G, w.before _ s = true := fun w h => hts w (List.mem_cons_of_mem _ h)
  have hown : s.vm.findClass RX0 = some m.cls := findClass_of_methodNamed B.named
  have hlocks := B.notSynchronized
  subst hsz
  have hD := hD0.self (sz := s.heap.size)
  generalize hAe : va_A [(xr, .inr (0, [.ref tk, .ref gr, .int (zI xru_), .int (zI xta_), .int (zI xst_), .int (zI xtc_), .int (zI xop_), .ref gwt, .int (zI xwc_), .int (zI xoc_), .int (zI xic_)])), (gwt, .inl (cI, 40, .inl (zF wt_))), (gr, .inr (1, [.int (zI sc_), .ref gsn, .ref gac, .ref gic, .ref gan, .ref gih, .ref grk, .int (zI rc_), .ref grn, .ref grs, .ref gcc, .ref gec, .ref gcs, .ref gce, .ref ghg, .ref gop, .ref god, .int (zI cz_)])), (gop, .inl (cI, 3000, .inl (zF op_))), (god, .inl (cI, 3000, .inl (zF od_)))] s.heap.size = A at hD ⊢
  have hA : ∀ q : Nat, s.heap.size ≤ q → A q := fun q h => by rw [← hAe]; exact Or.inr h
  have hS : va_S A s.heap s.heap [] := va_S.rf
  have hP : va_P (dC, dI) vwCl [(xr, .inr (0, [.ref tk, .ref gr, .int (zI xru_), .int (zI xta_), .int (zI xst_), .int (zI xtc_), .int (zI xop_), .ref gwt, .int (zI xwc_), .int (zI xoc_), .int (zI xic_)])), (gwt, .inl (cI, 40, .inl (zF wt_))), (gr, .inr (1, [.int (zI sc_), .ref gsn, .ref gac, .ref gic, .ref gan, .ref gih, .ref grk, .int (zI rc_), .ref grn, .ref grs, .ref gcc, .ref gec, .ref gcs, .ref gce, .ref ghg, .ref gop, .ref god, .int (zI cz_)])), (gop, .inl (cI, 3000, .inl (zF op_))), (god, .inl (cI, 3000, .inl (zF od_)))] s.heap := hP
  have hl := lv_entry ([.ref xr, .int (zI ov_), .long (lI dv_)]) (n := 4) (Nat.le_of_ble_eq_true rfl)
  rw [lg_entry_eq]
  generalize (lg_sl ([.ref xr, .int (zI ov_), .long (lI dv_)]) ++ List.replicate (4 - (lg_sl ([.ref xr, .int (zI ov_), .long (lI dv_)])).length) Slot.unset).toArray = ls at hl ⊢
  have hl : lv_has ls 4 [(0, .ref xr), (1, .int (zI ov_)), (2, .long (lI dv_))] := hl
  refine lv_aload_n hx hb dX0_emitOperand_0 rfl (lv_at hl 0 rfl) ?_
  have hPc := hP.sub (ws' := [(xr, .inr (0, [.ref tk, .ref gr, .int (zI xru_), .int (zI xta_), .int (zI xst_), .int (zI xtc_), .int (zI xop_), .ref gwt, .int (zI xwc_), .int (zI xoc_), .int (zI xic_)]))]) [0] rfl
  have hDc := hD.sub (ws' := [(xr, .inr (0, [.ref tk, .ref gr, .int (zI xru_), .int (zI xta_), .int (zI xst_), .int (zI xtc_), .int (zI xop_), .ref gwt, .int (zI xwc_), .int (zI xoc_), .int (zI xic_)]))]) [0] (by decide) rfl
  have hKc := hK.sub (tys' := []) [] rfl
  have hFc := va_free (wc := [(xr, .inr (0, [.ref tk, .ref gr, .int (zI xru_), .int (zI xta_), .int (zI xst_), .int (zI xtc_), .int (zI xop_), .ref gwt, .int (zI xwc_), .int (zI xoc_), .int (zI xic_)]))]) hD hS hA [0] rfl
  refine va_calli (va_runV (As := []) (rest := []) ⟨hx, hb, hml, hown, hg⟩ (c_X0_isOneTooMany l dC dI xr tk gr gwt s.heap.size xru_ xta_ xst_ xtc_ xop_ xwc_ xoc_ xic_ (by omega)) (cwV 0 hg gc_X0_100 rfl rfl rfl (by decide +kernel) ⟨Nat.le_of_ble_eq_true rfl, Nat.le_of_ble_eq_true rfl⟩) ⟨fun a U g mk q => by obtain ⟨q0, q1, qP, qK, qD⟩ := q; exact ⟨q0, q1, qP, va_K.moved (u := U) (U := U.calling g mk a) (Vm.Alike.refl U.vm) qK, qD⟩, va_recv hKc hPc (ci := 0) (q0 := 0) rfl rfl, fun U hU hW => ⟨rfl, by rw [hU], by rw [hU]; exact hPc, va_K.moved hW.alike hKc, hDc.weaken (fun _ _ _ _ => trivial)⟩⟩ rfl rfl hl.1 rfl (lv_room (Nat.le_of_ble_eq_true rfl)) dX0_emitOperand_1 ⟨Nat.le_of_ble_eq_true rfl, Nat.le_of_ble_eq_true rfl⟩) hS (fun q _ h => hFc q h) hFc (fun r1 u1 t H1 locs ht hvm hw1 hB hz1 hk1 hS => ?_)
  obtain ⟨p0_2, hP1, hK1, hD1⟩ := hB
  rw [ht] at hP1
  have hK1 := va_K.moved hvm.symm hK1
  obtain ⟨hP, hD⟩ := va_join (wr := [(gwt, .inl (cI, 40, .inl (zF wt_))), (gr, .inr (1, [.int (zI sc_), .ref gsn, .ref gac, .ref gic, .ref gan, .ref gih, .ref grk, .int (zI rc_), .ref grn, .ref grs, .ref gcc, .ref gec, .ref gcs, .ref gce, .ref ghg, .ref gop, .ref god, .int (zI cz_)])), (gop, .inl (cI, 3000, .inl (zF op_))), (god, .inl (cI, 3000, .inl (zF od_)))]) (w1 := [(xr, .inr (0, [.ref tk, .ref gr, .int (zI xru_), .int (zI xta_), .int (zI xst_), .int (zI (xtc_ + 1)), .int (zI xop_), .ref gwt, .int (zI xwc_), .int (zI xoc_), .int (zI xic_)]))]) hP hD [0] [1, 2, 3, 4] rfl rfl (by decide) (by decide) hk1 hFc hP1 hD1
  have hK := (hK.sub (tys' := [(cI, .int)]) [0] rfl).app hK1
  generalize H1 = H at hP hS ⊢
  have hP : va_P (dC, dI) vwCl [(gwt, .inl (cI, 40, .inl (zF wt_))), (gr, .inr (1, [.int (zI sc_), .ref gsn, .ref gac, .ref gic, .ref gan, .ref gih, .ref grk, .int (zI rc_), .ref grn, .ref grs, .ref gcc, .ref gec, .ref gcs, .ref gce, .ref ghg, .ref gop, .ref god, .int (zI cz_)])), (gop, .inl (cI, 3000, .inl (zF op_))), (god, .inl (cI, 3000, .inl (zF od_))), (xr, .inr (0, [.ref tk, .ref gr, .int (zI xru_), .int (zI xta_), .int (zI xst_), .int (zI (xtc_ + 1)), .int (zI xop_), .ref gwt, .int (zI xwc_), .int (zI xoc_), .int (zI xic_)]))] H := hP
  have hD : va_D A [(gwt, .inl (cI, 40, .inl (zF wt_))), (gr, .inr (1, [.int (zI sc_), .ref gsn, .ref gac, .ref gic, .ref gan, .ref gih, .ref grk, .int (zI rc_), .ref grn, .ref grs, .ref gcc, .ref gec, .ref gcs, .ref gce, .ref ghg, .ref gop, .ref god, .int (zI cz_)])), (gop, .inl (cI, 3000, .inl (zF op_))), (god, .inl (cI, 3000, .inl (zF od_))), (xr, .inr (0, [.ref tk, .ref gr, .int (zI xru_), .int (zI xta_), .int (zI xst_), .int (zI (xtc_ + 1)), .int (zI xop_), .ref gwt, .int (zI xwc_), .int (zI xoc_), .int (zI xic_)]))] := hD
  have hK : va_K (dC, dI) vwCl [(cI, .int)] s := hK
  obtain rfl : r1 = zI u1 := hw1
  rcases p0_2 with ⟨rfl, h40⟩ | ⟨rfl, h40⟩
  · refine zv_if_eq (tgt := 9) hx hb dX0_emitOperand_4 (by decide) (by decide) (fun c3 => absurd c3 (by decide)) (fun c3 => ?_)
    refine lv_iconst (v := zI 4) hx hb dX0_emitOperand_7 rfl ?_
    have hP9 := hP.sub (ws' := [(xr, .inr (0, [.ref tk, .ref gr, .int (zI xru_), .int (zI xta_), .int (zI xst_), .int (zI (xtc_ + 1)), .int (zI xop_), .ref gwt, .int (zI xwc_), .int (zI xoc_), .int (zI xic_)])), (gwt, .inl (cI, 40, .inl (zF wt_))), (gr, .inr (1, [.int (zI sc_), .ref gsn, .ref gac, .ref gic, .ref gan, .ref gih, .ref grk, .int (zI rc_), .ref grn, .ref grs, .ref gcc, .ref gec, .ref gcs, .ref gce, .ref ghg, .ref gop, .ref god, .int (zI cz_)])), (gop, .inl (cI, 3000, .inl (zF op_))), (god, .inl (cI, 3000, .inl (zF od_)))]) [4, 0, 1, 2, 3] rfl
    have hD9 := hD.sub (ws' := [(xr, .inr (0, [.ref tk, .ref gr, .int (zI xru_), .int (zI xta_), .int (zI xst_), .int (zI (xtc_ + 1)), .int (zI xop_), .ref gwt, .int (zI xwc_), .int (zI xoc_), .int (zI xic_)])), (gwt, .inl (cI, 40, .inl (zF wt_))), (gr, .inr (1, [.int (zI sc_), .ref gsn, .ref gac, .ref gic, .ref gan, .ref gih, .ref grk, .int (zI rc_), .ref grn, .ref grs, .ref gcc, .ref gec, .ref gcs, .ref gce, .ref ghg, .ref gop, .ref god, .int (zI cz_)])), (gop, .inl (cI, 3000, .inl (zF op_))), (god, .inl (cI, 3000, .inl (zF od_)))]) [4, 0, 1, 2, 3] (by decide) rfl
    have hK9 := hK.sub (tys' := [(cI, .int)]) [0] rfl
    exact W.iret (v := zI 4) hx hb hr (fun t ht hW => ⟨⟨zI 4, 4, rfl, rfl, xst_, (xtc_ + 1), xwc_, xoc_, op_, od_, cz_, (Or.inl ⟨rfl, by omega⟩), (fun h => absurd h (by decide)), by rw [ht]; exact hP9, va_K.moved hW.alike hK9, hD9⟩, hS.F ht⟩) hS.2.2 dX0_emitOperand_8
  · refine zv_if_eq (tgt := 9) hx hb dX0_emitOperand_4 (by decide) (by decide) (fun c4 => ?_) (fun c4 => absurd c4 (by decide))
    refine lv_lload_n hx hb dX0_emitOperand_9 rfl (lv_at hl 2 rfl) ?_
    refine lv_ldc2 (v := lI 2147483647) hx hb hown (hg (.constantLong RX0 116 (2147483647)) gw_3_45) dX0_emitOperand_10 ?_
    refine zv_lcmp hx hb dX0_emitOperand_13 (by omega) (by omega) (fun r5 hr5a hr5b hr5c hr5d => ?_)
    refine zv_if_le (tgt := 19) hx hb dX0_emitOperand_14 (by decide) (by omega) (fun c6 => ?_) (fun c6 => ?_)
    · refine lv_aload_n hx hb dX0_emitOperand_19 rfl (lv_at hl 0 rfl) ?_
      refine va_get (D := (dC, dI)) (ci := 0) (v := .ref gr) (C := RX0) (T := TX0) (N := 11) hx hb hg inG_X0 hown hK hP 4 rfl rfl 1 (by decide) (hg (.fieldLink RX0 45 "AttributeDesk$ExpressionReader" "grammar" "LAttributeDesk$Grammar;") gw_1_205) (fun _ h9 => h9) rfl dX0_emitOperand_20 ?_
      refine lv_iload_n hx hb dX0_emitOperand_23 rfl (lv_at hl 1 rfl) ?_
      refine lv_lload_n hx hb dX0_emitOperand_24 rfl (lv_at hl 2 rfl) ?_
      refine zv_l2i hx hb dX0_emitOperand_25 (by omega) ?_
      have hPc := hP.sub (ws' := [(gr, .inr (1, [.int (zI sc_), .ref gsn, .ref gac, .ref gic, .ref gan, .ref gih, .ref grk, .int (zI rc_), .ref grn, .ref grs, .ref gcc, .ref gec, .ref gcs, .ref gce, .ref ghg, .ref gop, .ref god, .int (zI cz_)])), (gop, .inl (cI, 3000, .inl (zF op_))), (god, .inl (cI, 3000, .inl (zF od_)))]) [1, 2, 3] rfl
      have hDc := hD.sub (ws' := [(gr, .inr (1, [.int (zI sc_), .ref gsn, .ref gac, .ref gic, .ref gan, .ref gih, .ref grk, .int (zI rc_), .ref grn, .ref grs, .ref gcc, .ref gec, .ref gcs, .ref gce, .ref ghg, .ref gop, .ref god, .int (zI cz_)])), (gop, .inl (cI, 3000, .inl (zF op_))), (god, .inl (cI, 3000, .inl (zF od_)))]) [1, 2, 3] (by decide) rfl
      have hKc := hK.sub (tys' := [(cI, .int)]) [0] rfl
      have hFc := va_free (wc := [(gr, .inr (1, [.int (zI sc_), .ref gsn, .ref gac, .ref gic, .ref gan, .ref gih, .ref grk, .int (zI rc_), .ref grn, .ref grs, .ref gcc, .ref gec, .ref gcs, .ref gce, .ref ghg, .ref gop, .ref god, .int (zI cz_)])), (gop, .inl (cI, 3000, .inl (zF op_))), (god, .inl (cI, 3000, .inl (zF od_)))]) hD hS hA [1, 2, 3] rfl
      refine va_callv (va_runV (As := [.int (zI ov_), .int (zI dv_)]) (rest := []) ⟨hx, hb, hml, hown, hg⟩ (c_X1_addCode l dC dI gr gop god gsn gac gic gan gih grk grn grs gcc gec gcs gce ghg cI H.size sc_ rc_ cz_ op_ od_ ov_ dv_ (by omega)) (cwV 2 hg gc_X0_118 rfl rfl rfl (by decide +kernel) ⟨Nat.le_of_ble_eq_true rfl, Nat.le_of_ble_eq_true rfl⟩) ⟨fun a U g mk q => by obtain ⟨q0, q1, qP, qK, qD⟩ := q; exact ⟨q0, q1, qP, va_K.moved (u := U) (U := U.calling g mk a) (Vm.Alike.refl U.vm) qK, qD⟩, va_recv hKc hPc (ci := 1) (q0 := 0) rfl rfl, fun U hU hW => ⟨rfl, by rw [hU], by rw [hU]; exact hPc, va_K.moved hW.alike hKc, hDc.weaken (fun _ _ _ _ => trivial)⟩⟩ rfl rfl hl.1 rfl (lv_room (Nat.le_of_ble_eq_true rfl)) dX0_emitOperand_26 ⟨Nat.le_of_ble_eq_true rfl, Nat.le_of_ble_eq_true rfl⟩) hS (fun q _ h => hFc q h) hFc (fun u7 t H1 locs ht hvm hw7 hB hz1 hk1 hS => ?_)
      obtain ⟨op2__8, od2__9, cz2__10, p0_11, p1_12, p2_13, hP1, hK1, hD1⟩ := hB
      rw [ht] at hP1
      have hK1 := va_K.moved hvm.symm hK1
      obtain ⟨hP, hD⟩ := va_join (wr := [(gwt, .inl (cI, 40, .inl (zF wt_))), (xr, .inr (0, [.ref tk, .ref gr, .int (zI xru_), .int (zI xta_), .int (zI xst_), .int (zI (xtc_ + 1)), .int (zI xop_), .ref gwt, .int (zI xwc_), .int (zI xoc_), .int (zI xic_)]))]) (w1 := [(gr, .inr (1, [.int (zI sc_), .ref gsn, .ref gac, .ref gic, .ref gan, .ref gih, .ref grk, .int (zI rc_), .ref grn, .ref grs, .ref gcc, .ref gec, .ref gcs, .ref gce, .ref ghg, .ref gop, .ref god, .int (zI cz2__10)])), (gop, .inl (cI, 3000, .inl (zF op2__8))), (god, .inl (cI, 3000, .inl (zF od2__9)))]) hP hD [1, 2, 3] [0, 4] rfl rfl (by decide) (by decide) hk1 hFc hP1 hD1
      have hK := (hK.sub (tys' := []) [] rfl).app hK1
      generalize H1 = H at hP hS ⊢
      have hP : va_P (dC, dI) vwCl [(gwt, .inl (cI, 40, .inl (zF wt_))), (xr, .inr (0, [.ref tk, .ref gr, .int (zI xru_), .int (zI xta_), .int (zI xst_), .int (zI (xtc_ + 1)), .int (zI xop_), .ref gwt, .int (zI xwc_), .int (zI xoc_), .int (zI xic_)])), (gr, .inr (1, [.int (zI sc_), .ref gsn, .ref gac, .ref gic, .ref gan, .ref gih, .ref grk, .int (zI rc_), .ref grn, .ref grs, .ref gcc, .ref gec, .ref gcs, .ref gce, .ref ghg, .ref gop, .ref god, .int (zI cz2__10)])), (gop, .inl (cI, 3000, .inl (zF op2__8))), (god, .inl (cI, 3000, .inl (zF od2__9)))] H := hP
      have hD : va_D A [(gwt, .inl (cI, 40, .inl (zF wt_))), (xr, .inr (0, [.ref tk, .ref gr, .int (zI xru_), .int (zI xta_), .int (zI xst_), .int (zI (xtc_ + 1)), .int (zI xop_), .ref gwt, .int (zI xwc_), .int (zI xoc_), .int (zI xic_)])), (gr, .inr (1, [.int (zI sc_), .ref gsn, .ref gac, .ref gic, .ref gan, .ref gih, .ref grk, .int (zI rc_), .ref grn, .ref grs, .ref gcc, .ref gec, .ref gcs, .ref gce, .ref ghg, .ref gop, .ref god, .int (zI cz2__10)])), (gop, .inl (cI, 3000, .inl (zF op2__8))), (god, .inl (cI, 3000, .inl (zF od2__9)))] := hD
      have hK : va_K (dC, dI) vwCl [(cI, .int)] s := hK
      have hzr := aCz_rng (cz := cz_) (by omega)
      subst p0_11
      subst p1_12
      subst p2_13
      refine lv_aload_n hx hb dX0_emitOperand_29 rfl (lv_at hl 0 rfl) ?_
      refine lv_iconst (v := zI 5) hx hb dX0_emitOperand_30 rfl ?_
      have hPc := hP.sub (ws' := [(xr, .inr (0, [.ref tk, .ref gr, .int (zI xru_), .int (zI xta_), .int (zI xst_), .int (zI (xtc_ + 1)), .int (zI xop_), .ref gwt, .int (zI xwc_), .int (zI xoc_), .int (zI xic_)])), (gwt, .inl (cI, 40, .inl (zF wt_))), (gr, .inr (1, [.int (zI sc_), .ref gsn, .ref gac, .ref gic, .ref gan, .ref gih, .ref grk, .int (zI rc_), .ref grn, .ref grs, .ref gcc, .ref gec, .ref gcs, .ref gce, .ref ghg, .ref gop, .ref god, .int (zI ((aCz cz_)))])), (gop, .inl (cI, 3000, .inl (zF (aOp op_ cz_ ov_)))), (god, .inl (cI, 3000, .inl (zF (aOp od_ cz_ dv_))))]) [1, 0, 2, 3, 4] rfl
      have hDc := hD.sub (ws' := [(xr, .inr (0, [.ref tk, .ref gr, .int (zI xru_), .int (zI xta_), .int (zI xst_), .int (zI (xtc_ + 1)), .int (zI xop_), .ref gwt, .int (zI xwc_), .int (zI xoc_), .int (zI xic_)])), (gwt, .inl (cI, 40, .inl (zF wt_))), (gr, .inr (1, [.int (zI sc_), .ref gsn, .ref gac, .ref gic, .ref gan, .ref gih, .ref grk, .int (zI rc_), .ref grn, .ref grs, .ref gcc, .ref gec, .ref gcs, .ref gce, .ref ghg, .ref gop, .ref god, .int (zI ((aCz cz_)))])), (gop, .inl (cI, 3000, .inl (zF (aOp op_ cz_ ov_)))), (god, .inl (cI, 3000, .inl (zF (aOp od_ cz_ dv_))))]) [1, 0, 2, 3, 4] (by decide) rfl
      have hKc := hK.sub (tys' := [(cI, .int)]) [0] rfl
      have hFc := va_free (wc := [(xr, .inr (0, [.ref tk, .ref gr, .int (zI xru_), .int (zI xta_), .int (zI xst_), .int (zI (xtc_ + 1)), .int (zI xop_), .ref gwt, .int (zI xwc_), .int (zI xoc_), .int (zI xic_)])), (gwt, .inl (cI, 40, .inl (zF wt_))), (gr, .inr (1, [.int (zI sc_), .ref gsn, .ref gac, .ref gic, .ref gan, .ref gih, .ref grk, .int (zI rc_), .ref grn, .ref grs, .ref gcc, .ref gec, .ref gcs, .ref gce, .ref ghg, .ref gop, .ref god, .int (zI ((aCz cz_)))])), (gop, .inl (cI, 3000, .inl (zF (aOp op_ cz_ ov_)))), (god, .inl (cI, 3000, .inl (zF (aOp od_ cz_ dv_))))]) hD hS hA [1, 0, 2, 3, 4] rfl
      refine va_callv (va_runV (As := [.int (zI 5)]) (rest := []) ⟨hx, hb, hml, hown, hg⟩ (c_X0_settle l dC dI xr gwt gr gop god tk gsn gac gic gan gih grk grn grs gcc gec gcs gce ghg cI H.size xru_ xta_ xst_ (xtc_ + 1) xop_ xwc_ xoc_ xic_ wt_ sc_ rc_ ((aCz cz_)) (aOp op_ cz_ ov_) (aOp od_ cz_ dv_) 5 (by omega) hwt (by omega) (by omega) (by omega)) (cwV 1 hg gc_X0_122 rfl rfl rfl (by decide +kernel) ⟨Nat.le_of_ble_eq_true rfl, Nat.le_of_ble_eq_true rfl⟩) ⟨fun a U g mk q => by obtain ⟨q0, q1, qP, qK, qD⟩ := q; exact ⟨q0, q1, qP, va_K.moved (u := U) (U := U.calling g mk a) (Vm.Alike.refl U.vm) qK, qD⟩, va_recv hKc hPc (ci := 0) (q0 := 0) rfl rfl, fun U hU hW => ⟨rfl, by rw [hU], by rw [hU]; exact hPc, va_K.moved hW.alike hKc, hDc.weaken (fun _ _ _ _ => trivial)⟩⟩ rfl rfl hl.1 rfl (lv_room (Nat.le_of_ble_eq_true rfl)) dX0_emitOperand_31 ⟨Nat.le_of_ble_eq_true rfl, Nat.le_of_ble_eq_true rfl⟩) hS (fun q _ h => hFc q h) hFc (fun u14 t H1 locs ht hvm hw14 hB hz1 hk1 hS => ?_)
      obtain ⟨wc2__15, op2__16, od2__17, cz2__18, oc2__19, p0_20, p1_21, p2_22, p3_23, p4_24, hP1, hK1, hD1⟩ := hB
      rw [ht] at hP1
      have hK1 := va_K.moved hvm.symm hK1
      obtain ⟨hP, hD⟩ := va_join (wr := []) (w1 := [(xr, .inr (0, [.ref tk, .ref gr, .int (zI xru_), .int (zI xta_), .int (zI xst_), .int (zI (xtc_ + 1)), .int (zI xop_), .ref gwt, .int (zI wc2__15), .int (zI oc2__19), .int (zI xic_)])), (gwt, .inl (cI, 40, .inl (zF wt_))), (gr, .inr (1, [.int (zI sc_), .ref gsn, .ref gac, .ref gic, .ref gan, .ref gih, .ref grk, .int (zI rc_), .ref grn, .ref grs, .ref gcc, .ref gec, .ref gcs, .ref gce, .ref ghg, .ref gop, .ref god, .int (zI cz2__18)])), (gop, .inl (cI, 3000, .inl (zF op2__16))), (god, .inl (cI, 3000, .inl (zF od2__17)))]) hP hD [1, 0, 2, 3, 4] [] rfl rfl (by decide) (by decide) hk1 hFc hP1 hD1
      have hK := (hK.sub (tys' := []) [] rfl).app hK1
      generalize H1 = H at hP hS ⊢
      have hP : va_P (dC, dI) vwCl [(xr, .inr (0, [.ref tk, .ref gr, .int (zI xru_), .int (zI xta_), .int (zI xst_), .int (zI (xtc_ + 1)), .int (zI xop_), .ref gwt, .int (zI wc2__15), .int (zI oc2__19), .int (zI xic_)])), (gwt, .inl (cI, 40, .inl (zF wt_))), (gr, .inr (1, [.int (zI sc_), .ref gsn, .ref gac, .ref gic, .ref gan, .ref gih, .ref grk, .int (zI rc_), .ref grn, .ref grs, .ref gcc, .ref gec, .ref gcs, .ref gce, .ref ghg, .ref gop, .ref god, .int (zI cz2__18)])), (gop, .inl (cI, 3000, .inl (zF op2__16))), (god, .inl (cI, 3000, .inl (zF od2__17)))] H := hP
      have hD : va_D A [(xr, .inr (0, [.ref tk, .ref gr, .int (zI xru_), .int (zI xta_), .int (zI xst_), .int (zI (xtc_ + 1)), .int (zI xop_), .ref gwt, .int (zI wc2__15), .int (zI oc2__19), .int (zI xic_)])), (gwt, .inl (cI, 40, .inl (zF wt_))), (gr, .inr (1, [.int (zI sc_), .ref gsn, .ref gac, .ref gic, .ref gan, .ref gih, .ref grk, .int (zI rc_), .ref grn, .ref grs, .ref gcc, .ref gec, .ref gcs, .ref gce, .ref ghg, .ref gop, .ref god, .int (zI cz2__18)])), (gop, .inl (cI, 3000, .inl (zF op2__16))), (god, .inl (cI, 3000, .inl (zF od2__17)))] := hD
      have hK : va_K (dC, dI) vwCl [(cI, .int)] s := hK
      refine lv_aload_n hx hb dX0_emitOperand_34 rfl (lv_at hl 0 rfl) ?_
      refine lv_iconst (v := zI 3) hx hb dX0_emitOperand_35 rfl ?_
      refine va_put (D := (dC, dI)) (ci := 0) (v := .int (zI 3)) (ty := .int) (C := RX0) (T := TX0) (N := 11) hx hb hg inG_X0 tyX0 tyX0_ok nmX0 hown hK hP hD hS 0 rfl rfl 4 (by decide) (hg (.fieldLink RX0 18 "AttributeDesk$ExpressionReader" "state" "I") gw_1_208) (fun _ h9 => h9) rfl (by decide +kernel) rfl rfl (Nat.le_of_ble_eq_true rfl) dX0_emitOperand_36 (fun H locs hP hD hS => ?_)
      have hP : va_P (dC, dI) vwCl [(xr, .inr (0, [.ref tk, .ref gr, .int (zI xru_), .int (zI xta_), .int (zI 3), .int (zI (xtc_ + 1)), .int (zI xop_), .ref gwt, .int (zI wc2__15), .int (zI oc2__19), .int (zI xic_)])), (gwt, .inl (cI, 40, .inl (zF wt_))), (gr, .inr (1, [.int (zI sc_), .ref gsn, .ref gac, .ref gic, .ref gan, .ref gih, .ref grk, .int (zI rc_), .ref grn, .ref grs, .ref gcc, .ref gec, .ref gcs, .ref gce, .ref ghg, .ref gop, .ref god, .int (zI cz2__18)])), (gop, .inl (cI, 3000, .inl (zF op2__16))), (god, .inl (cI, 3000, .inl (zF od2__17)))] H := hP
      have hD : va_D A [(xr, .inr (0, [.ref tk, .ref gr, .int (zI xru_), .int (zI xta_), .int (zI 3), .int (zI (xtc_ + 1)), .int (zI xop_), .ref gwt, .int (zI wc2__15), .int (zI oc2__19), .int (zI xic_)])), (gwt, .inl (cI, 40, .inl (zF wt_))), (gr, .inr (1, [.int (zI sc_), .ref gsn, .ref gac, .ref gic, .ref gan, .ref gih, .ref grk, .int (zI rc_), .ref grn, .ref grs, .ref gcc, .ref gec, .ref gcs, .ref gce, .ref ghg, .ref gop, .ref god, .int (zI cz2__18)])), (gop, .inl (cI, 3000, .inl (zF op2__16))), (god, .inl (cI, 3000, .inl (zF od2__17)))] := hD
      refine lv_iconst (v := zI 0) hx hb dX0_emitOperand_39 rfl ?_
      have hP9 := hP.sub (ws' := [(xr, .inr (0, [.ref tk, .ref gr, .int (zI xru_), .int (zI xta_), .int (zI 3), .int (zI (xtc_ + 1)), .int (zI xop_), .ref gwt, .int (zI wc2__15), .int (zI oc2__19), .int (zI xic_)])), (gwt, .inl (cI, 40, .inl (zF wt_))), (gr, .inr (1, [.int (zI sc_), .ref gsn, .ref gac, .ref gic, .ref gan, .ref gih, .ref grk, .int (zI rc_), .ref grn, .ref grs, .ref gcc, .ref gec, .ref gcs, .ref gce, .ref ghg, .ref gop, .ref god, .int (zI cz2__18)])), (gop, .inl (cI, 3000, .inl (zF op2__16))), (god, .inl (cI, 3000, .inl (zF od2__17)))]) [0, 1, 2, 3, 4] rfl
      have hD9 := hD.sub (ws' := [(xr, .inr (0, [.ref tk, .ref gr, .int (zI xru_), .int (zI xta_), .int (zI 3), .int (zI (xtc_ + 1)), .int (zI xop_), .ref gwt, .int (zI wc2__15), .int (zI oc2__19), .int (zI xic_)])), (gwt, .inl (cI, 40, .inl (zF wt_))), (gr, .inr (1, [.int (zI sc_), .ref gsn, .ref gac, .ref gic, .ref gan, .ref gih, .ref grk, .int (zI rc_), .ref grn, .ref grs, .ref gcc, .ref gec, .ref gcs, .ref gce, .ref ghg, .ref gop, .ref god, .int (zI cz2__18)])), (gop, .inl (cI, 3000, .inl (zF op2__16))), (god, .inl (cI, 3000, .inl (zF od2__17)))]) [0, 1, 2, 3, 4] (by decide) rfl
      have hK9 := hK.sub (tys' := [(cI, .int)]) [0] rfl
      exact W.iret (v := zI 0) hx hb hr (fun t ht hW => ⟨⟨zI 0, 0, rfl, rfl, 3, (xtc_ + 1), wc2__15, oc2__19, op2__16, od2__17, cz2__18, (Or.inr (Or.inr ⟨rfl, by omega, by omega, rfl, rfl, p0_20⟩)), (fun _ => ⟨by omega, by omega, by omega, by omega, by omega, by omega⟩), by rw [ht]; exact hP9, va_K.moved hW.alike hK9, hD9⟩, hS.F ht⟩) hS.2.2 dX0_emitOperand_40
    · refine lv_iconst (v := zI 5) hx hb dX0_emitOperand_17 rfl ?_
      have hP9 := hP.sub (ws' := [(xr, .inr (0, [.ref tk, .ref gr, .int (zI xru_), .int (zI xta_), .int (zI xst_), .int (zI (xtc_ + 1)), .int (zI xop_), .ref gwt, .int (zI xwc_), .int (zI xoc_), .int (zI xic_)])), (gwt, .inl (cI, 40, .inl (zF wt_))), (gr, .inr (1, [.int (zI sc_), .ref gsn, .ref gac, .ref gic, .ref gan, .ref gih, .ref grk, .int (zI rc_), .ref grn, .ref grs, .ref gcc, .ref gec, .ref gcs, .ref gce, .ref ghg, .ref gop, .ref god, .int (zI cz_)])), (gop, .inl (cI, 3000, .inl (zF op_))), (god, .inl (cI, 3000, .inl (zF od_)))]) [4, 0, 1, 2, 3] rfl
      have hD9 := hD.sub (ws' := [(xr, .inr (0, [.ref tk, .ref gr, .int (zI xru_), .int (zI xta_), .int (zI xst_), .int (zI (xtc_ + 1)), .int (zI xop_), .ref gwt, .int (zI xwc_), .int (zI xoc_), .int (zI xic_)])), (gwt, .inl (cI, 40, .inl (zF wt_))), (gr, .inr (1, [.int (zI sc_), .ref gsn, .ref gac, .ref gic, .ref gan, .ref gih, .ref grk, .int (zI rc_), .ref grn, .ref grs, .ref gcc, .ref gec, .ref gcs, .ref gce, .ref ghg, .ref gop, .ref god, .int (zI cz_)])), (gop, .inl (cI, 3000, .inl (zF op_))), (god, .inl (cI, 3000, .inl (zF od_)))]) [4, 0, 1, 2, 3] (by decide) rfl
      have hK9 := hK.sub (tys' := [(cI, .int)]) [0] rfl
      exact W.iret (v := zI 5) hx hb hr (fun t ht hW => ⟨⟨zI 5, 5, rfl, rfl, xst_, (xtc_ + 1), xwc_, xoc_, op_, od_, cz_, (Or.inr (Or.inl ⟨rfl, by omega, by omega⟩)), (fun h => absurd h (by decide)), by rw [ht]; exact hP9, va_K.moved hW.alike hK9, hD9⟩, hS.F ht⟩) hS.2.2 dX0_emitOperand_18
