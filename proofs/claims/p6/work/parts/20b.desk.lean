set_option maxHeartbeats 4000000 in
set_option maxRecDepth 100000 in
theorem c_X8_putWord (l : Launch) (dC : Nat → ClassId) (dI : Nat → Nat → Nat) (dk dtp gk gs tg tsp tk gd tr wy wk : Nat) (cB : ClassId) (sz : Nat) (dk_tapeSize : Int) (dk_latestFault : Int) (dk_latestPlace : Int) (tp_ : Int → Int) (w_ : Int) (hw_ : -2147483648 ≤ w_ ∧ w_ < 2147483648) (htp : 0 ≤ dk_tapeSize ∧ dk_tapeSize + 4 ≤ 3000) : Met l yX8_putWord wyX8_putWord ({ frames := 0, cells := 0, slots := 0, locals := 0 }) (va_Pc [.ref dk, .int (zI w_)] (fun U => U.heap.size = sz ∧ va_P (dC, dI) vwCl [(dk, .inr (8, [.ref dtp, .int (zI dk_tapeSize), .ref gk, .ref gs, .ref tg, .ref tsp, .ref tk, .ref gd, .ref tr, .ref wy, .ref wk, .int (zI dk_latestFault), .int (zI dk_latestPlace)])), (dtp, .inl (cB, 3000, .inl (zF tp_)))] U.heap ∧ va_K (dC, dI) vwCl [(cB, .byte)] U ∧ va_D (fun _ => True) [(dk, .inr (8, [.ref dtp, .int (zI dk_tapeSize), .ref gk, .ref gs, .ref tg, .ref tsp, .ref tk, .ref gd, .ref tr, .ref wy, .ref wk, .int (zI dk_latestFault), .int (zI dk_latestPlace)])), (dtp, .inl (cB, 3000, .inl (zF tp_)))])) (va_Qv (fun _ : Unit => True) (fun _ t => ∃ (tp2_ : Int → Int), (tp2_ = fPut tp_ dk_tapeSize w_) ∧ va_P (dC, dI) vwCl [(dk, .inr (8, [.ref dtp, .int (zI (dk_tapeSize + 4)), .ref gk, .ref gs, .ref tg, .ref tsp, .ref tk, .ref gd, .ref tr, .ref wy, .ref wk, .int (zI dk_latestFault), .int (zI dk_latestPlace)])), (dtp, .inl (cB, 3000, .inl (zF tp2_)))] t.heap ∧ va_K (dC, dI) vwCl [(cB, .byte)] t ∧ va_D (va_A [(dk, .inr (8, [.ref dtp, .int (zI dk_tapeSize), .ref gk, .ref gs, .ref tg, .ref tsp, .ref tk, .ref gd, .ref tr, .ref wy, .ref wk, .int (zI dk_latestFault), .int (zI dk_latestPlace)])), (dtp, .inl (cB, 3000, .inl (zF tp_)))] sz) [(dk, .inr (8, [.ref dtp, .int (zI (dk_tapeSize + 4)), .ref gk, .ref gs, .ref tg, .ref tsp, .ref tk, .ref gd, .ref tr, .ref wy, .ref wk, .int (zI dk_latestFault), .int (zI dk_latestPlace)])), (dtp, .inl (cB, 3000, .inl (zF tp2_)))]) (va_A [(dk, .inr (8, [.ref dtp, .int (zI dk_tapeSize), .ref gk, .ref gs, .ref tg, .ref tsp, .ref tk, .ref gd, .ref tr, .ref wy, .ref wk, .int (zI dk_latestFault), .int (zI dk_latestPlace)])), (dtp, .inl (cB, 3000, .inl (zF tp_)))] sz)) 0 0 (va_A [(dk, .inr (8, [.ref dtp, .int (zI dk_tapeSize), .ref gk, .ref gs, .ref tg, .ref tsp, .ref tk, .ref gd, .ref tr, .ref wy, .ref wk, .int (zI dk_latestFault), .int (zI dk_latestPlace)])), (dtp, .inl (cB, 3000, .inl (zF tp_)))] sz) := by
  refine Met.ofW (cc := cX8_putWord) (maxL := 3) (ret := none) (by decide) rfl ?_
  intro p e s m args below meth c s₁ B hml hv
  obtain ⟨rfl, hsz, hP, hK, hD0⟩ := hv
  have hx := B.exec
  have hb := B.bytes
  have hr := B.returns
  have hts := atoms_spec (ws := wyX8_putWord) B.pre
  have hg : ∀ w ∈ lw_G, w.before _ s = true := fun w h => hts w (List.mem_cons_of_mem _ h)
  have hown : s.vm.findClass RX8 = some m.cls := findClass_of_methodNamed B.named
  have hlocks := B.notSynchronized
  subst hsz
  have hD := hD0.self (sz := s.heap.size)
  generalize hAe : va_A [(dk, .inr (8, [.ref dtp, .int (zI dk_tapeSize), .ref gk, .ref gs, .ref tg, .ref tsp, .ref tk, .ref gd, .ref tr, .ref wy, .ref wk, .int (zI dk_latestFault), .int (zI dk_latestPlace)])), (dtp, .inl (cB, 3000, .inl (zF tp_)))] s.heap.size = A at hD ⊢
  have hA : ∀ q : Nat, s.heap.size ≤ q → A q := fun q h => by rw [← hAe]; exact Or.inr h
  have hS : va_S A s.heap s.heap [] := va_S.rf
  have hP : va_P (dC, dI) vwCl [(dk, .inr (8, [.ref dtp, .int (zI dk_tapeSize), .ref gk, .ref gs, .ref tg, .ref tsp, .ref tk, .ref gd, .ref tr, .ref wy, .ref wk, .int (zI dk_latestFault), .int (zI dk_latestPlace)])), (dtp, .inl (cB, 3000, .inl (zF tp_)))] s.heap := hP
  have hl := lv_entry ([.ref dk, .int (zI w_)]) (n := 3) (Nat.le_of_ble_eq_true rfl)
  rw [lg_entry_eq]
  generalize (lg_sl ([.ref dk, .int (zI w_)]) ++ List.replicate (3 - (lg_sl ([.ref dk, .int (zI w_)])).length) Slot.unset).toArray = ls at hl ⊢
  have hl : lv_has ls 3 [(0, .ref dk), (1, .int (zI w_))] := hl
  refine lv_bipush (v := zI 24) hx hb dX8_putWord_0 (by decide) ?_
  refine lv_istore_n (lv' := [(2, .int (zI 24)), (0, .ref dk), (1, .int (zI w_))]) hx hb dX8_putWord_2 rfl hl (by decide) rfl (fun ls hl => ?_)
  refine lv_iload_n hx hb dX8_putWord_3 rfl (lv_at hl 0 rfl) ?_
  refine zv_if_lt (tgt := 46) hx hb dX8_putWord_4 (by decide) (by decide) (fun c1 => absurd c1 (by decide)) (fun c1 => ?_)
  refine lv_aload_n hx hb dX8_putWord_7 rfl (lv_at hl 1 rfl) ?_
  refine va_get (D := (dC, dI)) (ci := 8) (v := .int (zI dk_tapeSize)) (C := RX8) (T := TX8) (N := 13) hx hb hg inG_X8 hown hK hP 0 rfl rfl 1 (by decide) (hg (.fieldLink RX8 13 "AttributeDesk" "tapeSize" "I") gw_2_161) (fun _ h9 => h9) rfl dX8_putWord_8 ?_
  refine lv_sipush (v := zI 3000) hx hb dX8_putWord_11 (by decide) ?_
  refine zv_icmp_ge (tgt := 46) hx hb dX8_putWord_14 (by decide) (by omega) (by decide) (fun c2 => (by omega : False).elim) (fun c2 => ?_)
  refine lv_aload_n hx hb dX8_putWord_17 rfl (lv_at hl 1 rfl) ?_
  refine va_get (D := (dC, dI)) (ci := 8) (v := .ref dtp) (C := RX8) (T := TX8) (N := 13) hx hb hg inG_X8 hown hK hP 0 rfl rfl 0 (by decide) (hg (.fieldLink RX8 9 "AttributeDesk" "tape" "[B") gw_2_160) (fun _ h9 => h9) rfl dX8_putWord_18 ?_
  refine lv_aload_n hx hb dX8_putWord_21 rfl (lv_at hl 1 rfl) ?_
  refine va_get (D := (dC, dI)) (ci := 8) (v := .int (zI dk_tapeSize)) (C := RX8) (T := TX8) (N := 13) hx hb hg inG_X8 hown hK hP 0 rfl rfl 1 (by decide) (hg (.fieldLink RX8 13 "AttributeDesk" "tapeSize" "I") gw_2_161) (fun _ h9 => h9) rfl dX8_putWord_22 ?_
  refine lv_iload_n hx hb dX8_putWord_25 rfl (lv_at hl 2 rfl) ?_
  refine lv_iload_n hx hb dX8_putWord_26 rfl (lv_at hl 0 rfl) ?_
  refine zv_ishr hx hb dX8_putWord_27 (fun hb3 => ?_)
  refine zv_i2b hx hb dX8_putWord_28 (by omega) ?_
  refine zv_bastB (D := (dC, dI)) hx hb hK hP hD hS 1 0 rfl rfl (by omega) (Nat.le_of_ble_eq_true rfl) (zB_rng _) dX8_putWord_29 (fun H locs hP hD hS => ?_)
  have hP : va_P (dC, dI) vwCl [(dk, .inr (8, [.ref dtp, .int (zI dk_tapeSize), .ref gk, .ref gs, .ref tg, .ref tsp, .ref tk, .ref gd, .ref tr, .ref wy, .ref wk, .int (zI dk_latestFault), .int (zI dk_latestPlace)])), (dtp, .inl (cB, 3000, .inl (zF (zU tp_ dk_tapeSize (zB (shrI w_ 24))))))] H := hP
  have hD : va_D A [(dk, .inr (8, [.ref dtp, .int (zI dk_tapeSize), .ref gk, .ref gs, .ref tg, .ref tsp, .ref tk, .ref gd, .ref tr, .ref wy, .ref wk, .int (zI dk_latestFault), .int (zI dk_latestPlace)])), (dtp, .inl (cB, 3000, .inl (zF (zU tp_ dk_tapeSize (zB (shrI w_ 24))))))] := hD
  refine lv_aload_n hx hb dX8_putWord_30 rfl (lv_at hl 1 rfl) ?_
  refine lv_dup hx hb dX8_putWord_31 rfl ?_
  refine va_get (D := (dC, dI)) (ci := 8) (v := .int (zI dk_tapeSize)) (C := RX8) (T := TX8) (N := 13) hx hb hg inG_X8 hown hK hP 0 rfl rfl 1 (by decide) (hg (.fieldLink RX8 13 "AttributeDesk" "tapeSize" "I") gw_2_161) (fun _ h9 => h9) rfl dX8_putWord_32 ?_
  refine lv_iconst (v := zI 1) hx hb dX8_putWord_35 rfl ?_
  refine zv_iadd (r := dk_tapeSize + 1) hx hb dX8_putWord_36 (by omega) ?_
  refine va_put (D := (dC, dI)) (ci := 8) (v := .int (zI (dk_tapeSize + 1))) (ty := .int) (C := RX8) (T := TX8) (N := 13) hx hb hg inG_X8 tyX8 tyX8_ok nmX8 hown hK hP hD hS 0 rfl rfl 1 (by decide) (hg (.fieldLink RX8 13 "AttributeDesk" "tapeSize" "I") gw_2_161) (fun _ h9 => h9) rfl (by decide +kernel) rfl rfl (Nat.le_of_ble_eq_true rfl) dX8_putWord_37 (fun H locs hP hD hS => ?_)
  have hP : va_P (dC, dI) vwCl [(dk, .inr (8, [.ref dtp, .int (zI (dk_tapeSize + 1)), .ref gk, .ref gs, .ref tg, .ref tsp, .ref tk, .ref gd, .ref tr, .ref wy, .ref wk, .int (zI dk_latestFault), .int (zI dk_latestPlace)])), (dtp, .inl (cB, 3000, .inl (zF (zU tp_ dk_tapeSize (zB (shrI w_ 24))))))] H := hP
  have hD : va_D A [(dk, .inr (8, [.ref dtp, .int (zI (dk_tapeSize + 1)), .ref gk, .ref gs, .ref tg, .ref tsp, .ref tk, .ref gd, .ref tr, .ref wy, .ref wk, .int (zI dk_latestFault), .int (zI dk_latestPlace)])), (dtp, .inl (cB, 3000, .inl (zF (zU tp_ dk_tapeSize (zB (shrI w_ 24))))))] := hD
  refine lv_iinc (v := zI 16) (lv' := [(2, .int (zI 16)), (0, .ref dk), (1, .int (zI w_))]) hx hb dX8_putWord_40 hl (k := 0) rfl (zI_inc (-8) rfl) (by decide) rfl (fun ls hl => ?_)
  refine lv_goto (tgt := 3) hx hb dX8_putWord_43 (by decide) ?_
  refine lv_iload_n hx hb dX8_putWord_3 rfl (lv_at hl 0 rfl) ?_
  refine zv_if_lt (tgt := 46) hx hb dX8_putWord_4 (by decide) (by decide) (fun c4 => absurd c4 (by decide)) (fun c4 => ?_)
  refine lv_aload_n hx hb dX8_putWord_7 rfl (lv_at hl 1 rfl) ?_
  refine va_get (D := (dC, dI)) (ci := 8) (v := .int (zI (dk_tapeSize + 1))) (C := RX8) (T := TX8) (N := 13) hx hb hg inG_X8 hown hK hP 0 rfl rfl 1 (by decide) (hg (.fieldLink RX8 13 "AttributeDesk" "tapeSize" "I") gw_2_161) (fun _ h9 => h9) rfl dX8_putWord_8 ?_
  refine lv_sipush (v := zI 3000) hx hb dX8_putWord_11 (by decide) ?_
  refine zv_icmp_ge (tgt := 46) hx hb dX8_putWord_14 (by decide) (by omega) (by decide) (fun c5 => (by omega : False).elim) (fun c5 => ?_)
  refine lv_aload_n hx hb dX8_putWord_17 rfl (lv_at hl 1 rfl) ?_
  refine va_get (D := (dC, dI)) (ci := 8) (v := .ref dtp) (C := RX8) (T := TX8) (N := 13) hx hb hg inG_X8 hown hK hP 0 rfl rfl 0 (by decide) (hg (.fieldLink RX8 9 "AttributeDesk" "tape" "[B") gw_2_160) (fun _ h9 => h9) rfl dX8_putWord_18 ?_
  refine lv_aload_n hx hb dX8_putWord_21 rfl (lv_at hl 1 rfl) ?_
  refine va_get (D := (dC, dI)) (ci := 8) (v := .int (zI (dk_tapeSize + 1))) (C := RX8) (T := TX8) (N := 13) hx hb hg inG_X8 hown hK hP 0 rfl rfl 1 (by decide) (hg (.fieldLink RX8 13 "AttributeDesk" "tapeSize" "I") gw_2_161) (fun _ h9 => h9) rfl dX8_putWord_22 ?_
  refine lv_iload_n hx hb dX8_putWord_25 rfl (lv_at hl 2 rfl) ?_
  refine lv_iload_n hx hb dX8_putWord_26 rfl (lv_at hl 0 rfl) ?_
  refine zv_ishr hx hb dX8_putWord_27 (fun hb6 => ?_)
  refine zv_i2b hx hb dX8_putWord_28 (by omega) ?_
  refine zv_bastB (D := (dC, dI)) hx hb hK hP hD hS 1 0 rfl rfl (by omega) (Nat.le_of_ble_eq_true rfl) (zB_rng _) dX8_putWord_29 (fun H locs hP hD hS => ?_)
  have hP : va_P (dC, dI) vwCl [(dk, .inr (8, [.ref dtp, .int (zI (dk_tapeSize + 1)), .ref gk, .ref gs, .ref tg, .ref tsp, .ref tk, .ref gd, .ref tr, .ref wy, .ref wk, .int (zI dk_latestFault), .int (zI dk_latestPlace)])), (dtp, .inl (cB, 3000, .inl (zF (zU (zU tp_ dk_tapeSize (zB (shrI w_ 24))) (dk_tapeSize + 1) (zB (shrI w_ 16))))))] H := hP
  have hD : va_D A [(dk, .inr (8, [.ref dtp, .int (zI (dk_tapeSize + 1)), .ref gk, .ref gs, .ref tg, .ref tsp, .ref tk, .ref gd, .ref tr, .ref wy, .ref wk, .int (zI dk_latestFault), .int (zI dk_latestPlace)])), (dtp, .inl (cB, 3000, .inl (zF (zU (zU tp_ dk_tapeSize (zB (shrI w_ 24))) (dk_tapeSize + 1) (zB (shrI w_ 16))))))] := hD
  refine lv_aload_n hx hb dX8_putWord_30 rfl (lv_at hl 1 rfl) ?_
  refine lv_dup hx hb dX8_putWord_31 rfl ?_
  refine va_get (D := (dC, dI)) (ci := 8) (v := .int (zI (dk_tapeSize + 1))) (C := RX8) (T := TX8) (N := 13) hx hb hg inG_X8 hown hK hP 0 rfl rfl 1 (by decide) (hg (.fieldLink RX8 13 "AttributeDesk" "tapeSize" "I") gw_2_161) (fun _ h9 => h9) rfl dX8_putWord_32 ?_
  refine lv_iconst (v := zI 1) hx hb dX8_putWord_35 rfl ?_
  refine zv_iadd (r := dk_tapeSize + 2) hx hb dX8_putWord_36 (by omega) ?_
  refine va_put (D := (dC, dI)) (ci := 8) (v := .int (zI (dk_tapeSize + 2))) (ty := .int) (C := RX8) (T := TX8) (N := 13) hx hb hg inG_X8 tyX8 tyX8_ok nmX8 hown hK hP hD hS 0 rfl rfl 1 (by decide) (hg (.fieldLink RX8 13 "AttributeDesk" "tapeSize" "I") gw_2_161) (fun _ h9 => h9) rfl (by decide +kernel) rfl rfl (Nat.le_of_ble_eq_true rfl) dX8_putWord_37 (fun H locs hP hD hS => ?_)
  have hP : va_P (dC, dI) vwCl [(dk, .inr (8, [.ref dtp, .int (zI (dk_tapeSize + 2)), .ref gk, .ref gs, .ref tg, .ref tsp, .ref tk, .ref gd, .ref tr, .ref wy, .ref wk, .int (zI dk_latestFault), .int (zI dk_latestPlace)])), (dtp, .inl (cB, 3000, .inl (zF (zU (zU tp_ dk_tapeSize (zB (shrI w_ 24))) (dk_tapeSize + 1) (zB (shrI w_ 16))))))] H := hP
  have hD : va_D A [(dk, .inr (8, [.ref dtp, .int (zI (dk_tapeSize + 2)), .ref gk, .ref gs, .ref tg, .ref tsp, .ref tk, .ref gd, .ref tr, .ref wy, .ref wk, .int (zI dk_latestFault), .int (zI dk_latestPlace)])), (dtp, .inl (cB, 3000, .inl (zF (zU (zU tp_ dk_tapeSize (zB (shrI w_ 24))) (dk_tapeSize + 1) (zB (shrI w_ 16))))))] := hD
  refine lv_iinc (v := zI 8) (lv' := [(2, .int (zI 8)), (0, .ref dk), (1, .int (zI w_))]) hx hb dX8_putWord_40 hl (k := 0) rfl (zI_inc (-8) rfl) (by decide) rfl (fun ls hl => ?_)
  refine lv_goto (tgt := 3) hx hb dX8_putWord_43 (by decide) ?_
  refine lv_iload_n hx hb dX8_putWord_3 rfl (lv_at hl 0 rfl) ?_
  refine zv_if_lt (tgt := 46) hx hb dX8_putWord_4 (by decide) (by decide) (fun c7 => absurd c7 (by decide)) (fun c7 => ?_)
  refine lv_aload_n hx hb dX8_putWord_7 rfl (lv_at hl 1 rfl) ?_
  refine va_get (D := (dC, dI)) (ci := 8) (v := .int (zI (dk_tapeSize + 2))) (C := RX8) (T := TX8) (N := 13) hx hb hg inG_X8 hown hK hP 0 rfl rfl 1 (by decide) (hg (.fieldLink RX8 13 "AttributeDesk" "tapeSize" "I") gw_2_161) (fun _ h9 => h9) rfl dX8_putWord_8 ?_
  refine lv_sipush (v := zI 3000) hx hb dX8_putWord_11 (by decide) ?_
  refine zv_icmp_ge (tgt := 46) hx hb dX8_putWord_14 (by decide) (by omega) (by decide) (fun c8 => (by omega : False).elim) (fun c8 => ?_)
  refine lv_aload_n hx hb dX8_putWord_17 rfl (lv_at hl 1 rfl) ?_
  refine va_get (D := (dC, dI)) (ci := 8) (v := .ref dtp) (C := RX8) (T := TX8) (N := 13) hx hb hg inG_X8 hown hK hP 0 rfl rfl 0 (by decide) (hg (.fieldLink RX8 9 "AttributeDesk" "tape" "[B") gw_2_160) (fun _ h9 => h9) rfl dX8_putWord_18 ?_
  refine lv_aload_n hx hb dX8_putWord_21 rfl (lv_at hl 1 rfl) ?_
  refine va_get (D := (dC, dI)) (ci := 8) (v := .int (zI (dk_tapeSize + 2))) (C := RX8) (T := TX8) (N := 13) hx hb hg inG_X8 hown hK hP 0 rfl rfl 1 (by decide) (hg (.fieldLink RX8 13 "AttributeDesk" "tapeSize" "I") gw_2_161) (fun _ h9 => h9) rfl dX8_putWord_22 ?_
  refine lv_iload_n hx hb dX8_putWord_25 rfl (lv_at hl 2 rfl) ?_
  refine lv_iload_n hx hb dX8_putWord_26 rfl (lv_at hl 0 rfl) ?_
  refine zv_ishr hx hb dX8_putWord_27 (fun hb9 => ?_)
  refine zv_i2b hx hb dX8_putWord_28 (by omega) ?_
  refine zv_bastB (D := (dC, dI)) hx hb hK hP hD hS 1 0 rfl rfl (by omega) (Nat.le_of_ble_eq_true rfl) (zB_rng _) dX8_putWord_29 (fun H locs hP hD hS => ?_)
  have hP : va_P (dC, dI) vwCl [(dk, .inr (8, [.ref dtp, .int (zI (dk_tapeSize + 2)), .ref gk, .ref gs, .ref tg, .ref tsp, .ref tk, .ref gd, .ref tr, .ref wy, .ref wk, .int (zI dk_latestFault), .int (zI dk_latestPlace)])), (dtp, .inl (cB, 3000, .inl (zF (zU (zU (zU tp_ dk_tapeSize (zB (shrI w_ 24))) (dk_tapeSize + 1) (zB (shrI w_ 16))) (dk_tapeSize + 2) (zB (shrI w_ 8))))))] H := hP
  have hD : va_D A [(dk, .inr (8, [.ref dtp, .int (zI (dk_tapeSize + 2)), .ref gk, .ref gs, .ref tg, .ref tsp, .ref tk, .ref gd, .ref tr, .ref wy, .ref wk, .int (zI dk_latestFault), .int (zI dk_latestPlace)])), (dtp, .inl (cB, 3000, .inl (zF (zU (zU (zU tp_ dk_tapeSize (zB (shrI w_ 24))) (dk_tapeSize + 1) (zB (shrI w_ 16))) (dk_tapeSize + 2) (zB (shrI w_ 8))))))] := hD
  refine lv_aload_n hx hb dX8_putWord_30 rfl (lv_at hl 1 rfl) ?_
  refine lv_dup hx hb dX8_putWord_31 rfl ?_
  refine va_get (D := (dC, dI)) (ci := 8) (v := .int (zI (dk_tapeSize + 2))) (C := RX8) (T := TX8) (N := 13) hx hb hg inG_X8 hown hK hP 0 rfl rfl 1 (by decide) (hg (.fieldLink RX8 13 "AttributeDesk" "tapeSize" "I") gw_2_161) (fun _ h9 => h9) rfl dX8_putWord_32 ?_
  refine lv_iconst (v := zI 1) hx hb dX8_putWord_35 rfl ?_
  refine zv_iadd (r := dk_tapeSize + 3) hx hb dX8_putWord_36 (by omega) ?_
  refine va_put (D := (dC, dI)) (ci := 8) (v := .int (zI (dk_tapeSize + 3))) (ty := .int) (C := RX8) (T := TX8) (N := 13) hx hb hg inG_X8 tyX8 tyX8_ok nmX8 hown hK hP hD hS 0 rfl rfl 1 (by decide) (hg (.fieldLink RX8 13 "AttributeDesk" "tapeSize" "I") gw_2_161) (fun _ h9 => h9) rfl (by decide +kernel) rfl rfl (Nat.le_of_ble_eq_true rfl) dX8_putWord_37 (fun H locs hP hD hS => ?_)
  have hP : va_P (dC, dI) vwCl [(dk, .inr (8, [.ref dtp, .int (zI (dk_tapeSize + 3)), .ref gk, .ref gs, .ref tg, .ref tsp, .ref tk, .ref gd, .ref tr, .ref wy, .ref wk, .int (zI dk_latestFault), .int (zI dk_latestPlace)])), (dtp, .inl (cB, 3000, .inl (zF (zU (zU (zU tp_ dk_tapeSize (zB (shrI w_ 24))) (dk_tapeSize + 1) (zB (shrI w_ 16))) (dk_tapeSize + 2) (zB (shrI w_ 8))))))] H := hP
  have hD : va_D A [(dk, .inr (8, [.ref dtp, .int (zI (dk_tapeSize + 3)), .ref gk, .ref gs, .ref tg, .ref tsp, .ref tk, .ref gd, .ref tr, .ref wy, .ref wk, .int (zI dk_latestFault), .int (zI dk_latestPlace)])), (dtp, .inl (cB, 3000, .inl (zF (zU (zU (zU tp_ dk_tapeSize (zB (shrI w_ 24))) (dk_tapeSize + 1) (zB (shrI w_ 16))) (dk_tapeSize + 2) (zB (shrI w_ 8))))))] := hD
  refine lv_iinc (v := zI 0) (lv' := [(2, .int (zI 0)), (0, .ref dk), (1, .int (zI w_))]) hx hb dX8_putWord_40 hl (k := 0) rfl (zI_inc (-8) rfl) (by decide) rfl (fun ls hl => ?_)
  refine lv_goto (tgt := 3) hx hb dX8_putWord_43 (by decide) ?_
  refine lv_iload_n hx hb dX8_putWord_3 rfl (lv_at hl 0 rfl) ?_
  refine zv_if_lt (tgt := 46) hx hb dX8_putWord_4 (by decide) (by decide) (fun c10 => absurd c10 (by decide)) (fun c10 => ?_)
  refine lv_aload_n hx hb dX8_putWord_7 rfl (lv_at hl 1 rfl) ?_
  refine va_get (D := (dC, dI)) (ci := 8) (v := .int (zI (dk_tapeSize + 3))) (C := RX8) (T := TX8) (N := 13) hx hb hg inG_X8 hown hK hP 0 rfl rfl 1 (by decide) (hg (.fieldLink RX8 13 "AttributeDesk" "tapeSize" "I") gw_2_161) (fun _ h9 => h9) rfl dX8_putWord_8 ?_
  refine lv_sipush (v := zI 3000) hx hb dX8_putWord_11 (by decide) ?_
  refine zv_icmp_ge (tgt := 46) hx hb dX8_putWord_14 (by decide) (by omega) (by decide) (fun c11 => (by omega : False).elim) (fun c11 => ?_)
  refine lv_aload_n hx hb dX8_putWord_17 rfl (lv_at hl 1 rfl) ?_
  refine va_get (D := (dC, dI)) (ci := 8) (v := .ref dtp) (C := RX8) (T := TX8) (N := 13) hx hb hg inG_X8 hown hK hP 0 rfl rfl 0 (by decide) (hg (.fieldLink RX8 9 "AttributeDesk" "tape" "[B") gw_2_160) (fun _ h9 => h9) rfl dX8_putWord_18 ?_
  refine lv_aload_n hx hb dX8_putWord_21 rfl (lv_at hl 1 rfl) ?_
  refine va_get (D := (dC, dI)) (ci := 8) (v := .int (zI (dk_tapeSize + 3))) (C := RX8) (T := TX8) (N := 13) hx hb hg inG_X8 hown hK hP 0 rfl rfl 1 (by decide) (hg (.fieldLink RX8 13 "AttributeDesk" "tapeSize" "I") gw_2_161) (fun _ h9 => h9) rfl dX8_putWord_22 ?_
  refine lv_iload_n hx hb dX8_putWord_25 rfl (lv_at hl 2 rfl) ?_
  refine lv_iload_n hx hb dX8_putWord_26 rfl (lv_at hl 0 rfl) ?_
  refine zv_ishr hx hb dX8_putWord_27 (fun hb12 => ?_)
  refine zv_i2b hx hb dX8_putWord_28 (by omega) ?_
  refine zv_bastB (D := (dC, dI)) hx hb hK hP hD hS 1 0 rfl rfl (by omega) (Nat.le_of_ble_eq_true rfl) (zB_rng _) dX8_putWord_29 (fun H locs hP hD hS => ?_)
  have hP : va_P (dC, dI) vwCl [(dk, .inr (8, [.ref dtp, .int (zI (dk_tapeSize + 3)), .ref gk, .ref gs, .ref tg, .ref tsp, .ref tk, .ref gd, .ref tr, .ref wy, .ref wk, .int (zI dk_latestFault), .int (zI dk_latestPlace)])), (dtp, .inl (cB, 3000, .inl (zF (zU (zU (zU (zU tp_ dk_tapeSize (zB (shrI w_ 24))) (dk_tapeSize + 1) (zB (shrI w_ 16))) (dk_tapeSize + 2) (zB (shrI w_ 8))) (dk_tapeSize + 3) (zB (shrI w_ 0))))))] H := hP
  have hD : va_D A [(dk, .inr (8, [.ref dtp, .int (zI (dk_tapeSize + 3)), .ref gk, .ref gs, .ref tg, .ref tsp, .ref tk, .ref gd, .ref tr, .ref wy, .ref wk, .int (zI dk_latestFault), .int (zI dk_latestPlace)])), (dtp, .inl (cB, 3000, .inl (zF (zU (zU (zU (zU tp_ dk_tapeSize (zB (shrI w_ 24))) (dk_tapeSize + 1) (zB (shrI w_ 16))) (dk_tapeSize + 2) (zB (shrI w_ 8))) (dk_tapeSize + 3) (zB (shrI w_ 0))))))] := hD
  refine lv_aload_n hx hb dX8_putWord_30 rfl (lv_at hl 1 rfl) ?_
  refine lv_dup hx hb dX8_putWord_31 rfl ?_
  refine va_get (D := (dC, dI)) (ci := 8) (v := .int (zI (dk_tapeSize + 3))) (C := RX8) (T := TX8) (N := 13) hx hb hg inG_X8 hown hK hP 0 rfl rfl 1 (by decide) (hg (.fieldLink RX8 13 "AttributeDesk" "tapeSize" "I") gw_2_161) (fun _ h9 => h9) rfl dX8_putWord_32 ?_
  refine lv_iconst (v := zI 1) hx hb dX8_putWord_35 rfl ?_
  refine zv_iadd (r := dk_tapeSize + 4) hx hb dX8_putWord_36 (by omega) ?_
  refine va_put (D := (dC, dI)) (ci := 8) (v := .int (zI (dk_tapeSize + 4))) (ty := .int) (C := RX8) (T := TX8) (N := 13) hx hb hg inG_X8 tyX8 tyX8_ok nmX8 hown hK hP hD hS 0 rfl rfl 1 (by decide) (hg (.fieldLink RX8 13 "AttributeDesk" "tapeSize" "I") gw_2_161) (fun _ h9 => h9) rfl (by decide +kernel) rfl rfl (Nat.le_of_ble_eq_true rfl) dX8_putWord_37 (fun H locs hP hD hS => ?_)
  have hP : va_P (dC, dI) vwCl [(dk, .inr (8, [.ref dtp, .int (zI (dk_tapeSize + 4)), .ref gk, .ref gs, .ref tg, .ref tsp, .ref tk, .ref gd, .ref tr, .ref wy, .ref wk, .int (zI dk_latestFault), .int (zI dk_latestPlace)])), (dtp, .inl (cB, 3000, .inl (zF (zU (zU (zU (zU tp_ dk_tapeSize (zB (shrI w_ 24))) (dk_tapeSize + 1) (zB (shrI w_ 16))) (dk_tapeSize + 2) (zB (shrI w_ 8))) (dk_tapeSize + 3) (zB (shrI w_ 0))))))] H := hP
  have hD : va_D A [(dk, .inr (8, [.ref dtp, .int (zI (dk_tapeSize + 4)), .ref gk, .ref gs, .ref tg, .ref tsp, .ref tk, .ref gd, .ref tr, .ref wy, .ref wk, .int (zI dk_latestFault), .int (zI dk_latestPlace)])), (dtp, .inl (cB, 3000, .inl (zF (zU (zU (zU (zU tp_ dk_tapeSize (zB (shrI w_ 24))) (dk_tapeSize + 1) (zB (shrI w_ 16))) (dk_tapeSize + 2) (zB (shrI w_ 8))) (dk_tapeSize + 3) (zB (shrI w_ 0))))))] := hD
  refine lv_iinc (v := zI (-8)) (lv' := [(2, .int (zI (-8))), (0, .ref dk), (1, .int (zI w_))]) hx hb dX8_putWord_40 hl (k := 0) rfl (zI_inc (-8) rfl) (by decide) rfl (fun ls hl => ?_)
  refine lv_goto (tgt := 3) hx hb dX8_putWord_43 (by decide) ?_
  refine lv_iload_n hx hb dX8_putWord_3 rfl (lv_at hl 0 rfl) ?_
  refine zv_if_lt (tgt := 46) hx hb dX8_putWord_4 (by decide) (by decide) (fun c13 => ?_) (fun c13 => absurd c13 (by decide))
  have hP9 := hP.sub (ws' := [(dk, .inr (8, [.ref dtp, .int (zI (dk_tapeSize + 4)), .ref gk, .ref gs, .ref tg, .ref tsp, .ref tk, .ref gd, .ref tr, .ref wy, .ref wk, .int (zI dk_latestFault), .int (zI dk_latestPlace)])), (dtp, .inl (cB, 3000, .inl (zF (zU (zU (zU (zU tp_ dk_tapeSize (zB (shrI w_ 24))) (dk_tapeSize + 1) (zB (shrI w_ 16))) (dk_tapeSize + 2) (zB (shrI w_ 8))) (dk_tapeSize + 3) (zB (shrI w_ 0))))))]) [0, 1] rfl
  have hD9 := hD.sub (ws' := [(dk, .inr (8, [.ref dtp, .int (zI (dk_tapeSize + 4)), .ref gk, .ref gs, .ref tg, .ref tsp, .ref tk, .ref gd, .ref tr, .ref wy, .ref wk, .int (zI dk_latestFault), .int (zI dk_latestPlace)])), (dtp, .inl (cB, 3000, .inl (zF (zU (zU (zU (zU tp_ dk_tapeSize (zB (shrI w_ 24))) (dk_tapeSize + 1) (zB (shrI w_ 16))) (dk_tapeSize + 2) (zB (shrI w_ 8))) (dk_tapeSize + 3) (zB (shrI w_ 0))))))]) [0, 1] (by decide) rfl
  have hK9 := hK.sub (tys' := [(cB, .byte)]) [0] rfl
  exact W.vret hx hb hr (fun t ht hW => ⟨⟨(), rfl, trivial, (zU (zU (zU (zU tp_ dk_tapeSize (zB (shrI w_ 24))) (dk_tapeSize + 1) (zB (shrI w_ 16))) (dk_tapeSize + 2) (zB (shrI w_ 8))) (dk_tapeSize + 3) (zB (shrI w_ 0))), (by unfold fPut; rw [shrI_0 hw_]), by rw [ht]; exact hP9, va_K.moved hW.alike hK9, hD9⟩, hS.F ht⟩) hS.2.2 dX8_putWord_46

set_option maxHeartbeats 4000000 in
set_option maxRecDepth 100000 in
theorem c_X8_feed (l : Launch) (dC : Nat → ClassId) (dI : Nat → Nat → Nat) (dk dtp gk gs tg tsp tk gd tr wy wk : Nat) (cB : ClassId) (sz : Nat) (dk_tapeSize : Int) (dk_latestFault : Int) (dk_latestPlace : Int) (tp_ : Int → Int) (p0_ : Int) (p1_ : Int) (p2_ : Int) (p3_ : Int) (p4_ : Int) (hq0_ : -2147483648 ≤ p0_ ∧ p0_ < 2147483648) (hq1_ : -2147483648 ≤ p1_ ∧ p1_ < 2147483648) (hq2_ : -2147483648 ≤ p2_ ∧ p2_ < 2147483648) (hq3_ : -2147483648 ≤ p3_ ∧ p3_ < 2147483648) (hq4_ : -2147483648 ≤ p4_ ∧ p4_ < 2147483648) (htp : 0 ≤ dk_tapeSize ∧ dk_tapeSize ≤ 3000) : Met l yX8_feed wyX8_feed ({ frames := 1, cells := 0, slots := 0, locals := 22 }) (va_Pc [.ref dk, .int (zI p0_), .int (zI p1_), .int (zI p2_), .int (zI p3_), .int (zI p4_)] (fun U => U.heap.size = sz ∧ va_P (dC, dI) vwCl [(dk, .inr (8, [.ref dtp, .int (zI dk_tapeSize), .ref gk, .ref gs, .ref tg, .ref tsp, .ref tk, .ref gd, .ref tr, .ref wy, .ref wk, .int (zI dk_latestFault), .int (zI dk_latestPlace)])), (dtp, .inl (cB, 3000, .inl (zF tp_)))] U.heap ∧ va_K (dC, dI) vwCl [(cB, .byte)] U ∧ va_D (fun _ => True) [(dk, .inr (8, [.ref dtp, .int (zI dk_tapeSize), .ref gk, .ref gs, .ref tg, .ref tsp, .ref tk, .ref gd, .ref tr, .ref wy, .ref wk, .int (zI dk_latestFault), .int (zI dk_latestPlace)])), (dtp, .inl (cB, 3000, .inl (zF tp_)))])) (va_Qi (fun (rr : Int32) (r : Int) => rr = zI r) (fun r t => ∃ (ts2_ : Int), ∃ (tp2_ : Int → Int), ((r = -1 ∧ 2980 < dk_tapeSize ∧ ts2_ = dk_tapeSize ∧ tp2_ = tp_) ∨ (r = dk_tapeSize + 20 ∧ dk_tapeSize ≤ 2980 ∧ ts2_ = dk_tapeSize + 20 ∧ tp2_ = fFeed tp_ dk_tapeSize p0_ p1_ p2_ p3_ p4_)) ∧ va_P (dC, dI) vwCl [(dk, .inr (8, [.ref dtp, .int (zI ts2_), .ref gk, .ref gs, .ref tg, .ref tsp, .ref tk, .ref gd, .ref tr, .ref wy, .ref wk, .int (zI dk_latestFault), .int (zI dk_latestPlace)])), (dtp, .inl (cB, 3000, .inl (zF tp2_)))] t.heap ∧ va_K (dC, dI) vwCl [(cB, .byte)] t ∧ va_D (va_A [(dk, .inr (8, [.ref dtp, .int (zI dk_tapeSize), .ref gk, .ref gs, .ref tg, .ref tsp, .ref tk, .ref gd, .ref tr, .ref wy, .ref wk, .int (zI dk_latestFault), .int (zI dk_latestPlace)])), (dtp, .inl (cB, 3000, .inl (zF tp_)))] sz) [(dk, .inr (8, [.ref dtp, .int (zI ts2_), .ref gk, .ref gs, .ref tg, .ref tsp, .ref tk, .ref gd, .ref tr, .ref wy, .ref wk, .int (zI dk_latestFault), .int (zI dk_latestPlace)])), (dtp, .inl (cB, 3000, .inl (zF tp2_)))]) (va_A [(dk, .inr (8, [.ref dtp, .int (zI dk_tapeSize), .ref gk, .ref gs, .ref tg, .ref tsp, .ref tk, .ref gd, .ref tr, .ref wy, .ref wk, .int (zI dk_latestFault), .int (zI dk_latestPlace)])), (dtp, .inl (cB, 3000, .inl (zF tp_)))] sz)) 0 0 (va_A [(dk, .inr (8, [.ref dtp, .int (zI dk_tapeSize), .ref gk, .ref gs, .ref tg, .ref tsp, .ref tk, .ref gd, .ref tr, .ref wy, .ref wk, .int (zI dk_latestFault), .int (zI dk_latestPlace)])), (dtp, .inl (cB, 3000, .inl (zF tp_)))] sz) := by
  refine Met.ofW (cc := cX8_feed) (maxL := 6) (ret := (some .int)) (by decide) rfl ?_
  intro p e s m args below meth c s₁ B hml hv
  obtain ⟨rfl, hsz, hP, hK, hD0⟩ := hv
  have hx := B.exec
  have hb := B.bytes
  have hr := B.returns
  have hts := atoms_spec (ws := wyX8_feed) B.pre
  have hg : ∀ w ∈ lw_G, w.before _ s = true := fun w h => hts w (List.mem_cons_of_mem _ h)
  have hown : s.vm.findClass RX8 = some m.cls := findClass_of_methodNamed B.named
  have hlocks := B.notSynchronized
  subst hsz
  have hD := hD0.self (sz := s.heap.size)
  generalize hAe : va_A [(dk, .inr (8, [.ref dtp, .int (zI dk_tapeSize), .ref gk, .ref gs, .ref tg, .ref tsp, .ref tk, .ref gd, .ref tr, .ref wy, .ref wk, .int (zI dk_latestFault), .int (zI dk_latestPlace)])), (dtp, .inl (cB, 3000, .inl (zF tp_)))] s.heap.size = A at hD ⊢
  have hA : ∀ q : Nat, s.heap.size ≤ q → A q := fun q h => by rw [← hAe]; exact Or.inr h
  have hS : va_S A s.heap s.heap [] := va_S.rf
  have hP : va_P (dC, dI) vwCl [(dk, .inr (8, [.ref dtp, .int (zI dk_tapeSize), .ref gk, .ref gs, .ref tg, .ref tsp, .ref tk, .ref gd, .ref tr, .ref wy, .ref wk, .int (zI dk_latestFault), .int (zI dk_latestPlace)])), (dtp, .inl (cB, 3000, .inl (zF tp_)))] s.heap := hP
  have hl := lv_entry ([.ref dk, .int (zI p0_), .int (zI p1_), .int (zI p2_), .int (zI p3_), .int (zI p4_)]) (n := 6) (Nat.le_of_ble_eq_true rfl)
  rw [lg_entry_eq]
  generalize (lg_sl ([.ref dk, .int (zI p0_), .int (zI p1_), .int (zI p2_), .int (zI p3_), .int (zI p4_)]) ++ List.replicate (6 - (lg_sl ([.ref dk, .int (zI p0_), .int (zI p1_), .int (zI p2_), .int (zI p3_), .int (zI p4_)])).length) Slot.unset).toArray = ls at hl ⊢
  have hl : lv_has ls 6 [(0, .ref dk), (1, .int (zI p0_)), (2, .int (zI p1_)), (3, .int (zI p2_)), (4, .int (zI p3_)), (5, .int (zI p4_))] := hl
  refine lv_aload_n hx hb dX8_feed_0 rfl (lv_at hl 0 rfl) ?_
  refine va_get (D := (dC, dI)) (ci := 8) (v := .int (zI dk_tapeSize)) (C := RX8) (T := TX8) (N := 13) hx hb hg inG_X8 hown hK hP 0 rfl rfl 1 (by decide) (hg (.fieldLink RX8 13 "AttributeDesk" "tapeSize" "I") gw_2_161) (fun _ h9 => h9) rfl dX8_feed_1 ?_
  refine lv_sipush (v := zI 2980) hx hb dX8_feed_4 (by decide) ?_
  refine zv_icmp_le (tgt := 12) hx hb dX8_feed_7 (by decide) (by omega) (by decide) (fun c1 => ?_) (fun c1 => ?_)
  · refine lv_aload_n hx hb dX8_feed_12 rfl (lv_at hl 0 rfl) ?_
    refine lv_iload_n hx hb dX8_feed_13 rfl (lv_at hl 1 rfl) ?_
    have hPc := hP.sub (ws' := [(dk, .inr (8, [.ref dtp, .int (zI dk_tapeSize), .ref gk, .ref gs, .ref tg, .ref tsp, .ref tk, .ref gd, .ref tr, .ref wy, .ref wk, .int (zI dk_latestFault), .int (zI dk_latestPlace)])), (dtp, .inl (cB, 3000, .inl (zF tp_)))]) [0, 1] rfl
    have hDc := hD.sub (ws' := [(dk, .inr (8, [.ref dtp, .int (zI dk_tapeSize), .ref gk, .ref gs, .ref tg, .ref tsp, .ref tk, .ref gd, .ref tr, .ref wy, .ref wk, .int (zI dk_latestFault), .int (zI dk_latestPlace)])), (dtp, .inl (cB, 3000, .inl (zF tp_)))]) [0, 1] (by decide) rfl
    have hKc := hK.sub (tys' := [(cB, .byte)]) [0] rfl
    have hFc := va_free (wc := [(dk, .inr (8, [.ref dtp, .int (zI dk_tapeSize), .ref gk, .ref gs, .ref tg, .ref tsp, .ref tk, .ref gd, .ref tr, .ref wy, .ref wk, .int (zI dk_latestFault), .int (zI dk_latestPlace)])), (dtp, .inl (cB, 3000, .inl (zF tp_)))]) hD hS hA [0, 1] rfl
    refine va_callv (va_runV (As := [.int (zI p0_)]) (rest := []) ⟨hx, hb, hml, hown, hg⟩ (c_X8_putWord l dC dI dk dtp gk gs tg tsp tk gd tr wy wk cB s.heap.size dk_tapeSize dk_latestFault dk_latestPlace tp_ p0_ (by omega) (by omega)) (cwV 1 hg gc_X8_88 rfl rfl rfl (by decide +kernel) ⟨Nat.le_of_ble_eq_true rfl, Nat.le_of_ble_eq_true rfl⟩) ⟨fun a U g mk q => by obtain ⟨q0, q1, qP, qK, qD⟩ := q; exact ⟨q0, q1, qP, va_K.moved (u := U) (U := U.calling g mk a) (Vm.Alike.refl U.vm) qK, qD⟩, va_recv hKc hPc (ci := 8) (q0 := 0) rfl rfl, fun U hU hW => ⟨rfl, by rw [hU], by rw [hU]; exact hPc, va_K.moved hW.alike hKc, hDc.weaken (fun _ _ _ _ => trivial)⟩⟩ rfl rfl hl.1 rfl (lv_room (Nat.le_of_ble_eq_true rfl)) dX8_feed_14 ⟨Nat.le_of_ble_eq_true rfl, Nat.le_of_ble_eq_true rfl⟩) hS (fun q _ h => hFc q h) hFc (fun u2 t H1 locs ht hvm hw2 hB hz1 hk1 hS => ?_)
    obtain ⟨tp2__3, p0_4, hP1, hK1, hD1⟩ := hB
    rw [ht] at hP1
    have hK1 := va_K.moved hvm.symm hK1
    obtain ⟨hP, hD⟩ := va_join (wr := []) (w1 := [(dk, .inr (8, [.ref dtp, .int (zI (dk_tapeSize + 4)), .ref gk, .ref gs, .ref tg, .ref tsp, .ref tk, .ref gd, .ref tr, .ref wy, .ref wk, .int (zI dk_latestFault), .int (zI dk_latestPlace)])), (dtp, .inl (cB, 3000, .inl (zF tp2__3)))]) hP hD [0, 1] [] rfl rfl (by decide) (by decide) hk1 hFc hP1 hD1
    have hK := (hK.sub (tys' := []) [] rfl).app hK1
    generalize H1 = H at hP hS ⊢
    have hP : va_P (dC, dI) vwCl [(dk, .inr (8, [.ref dtp, .int (zI (dk_tapeSize + 4)), .ref gk, .ref gs, .ref tg, .ref tsp, .ref tk, .ref gd, .ref tr, .ref wy, .ref wk, .int (zI dk_latestFault), .int (zI dk_latestPlace)])), (dtp, .inl (cB, 3000, .inl (zF tp2__3)))] H := hP
    have hD : va_D A [(dk, .inr (8, [.ref dtp, .int (zI (dk_tapeSize + 4)), .ref gk, .ref gs, .ref tg, .ref tsp, .ref tk, .ref gd, .ref tr, .ref wy, .ref wk, .int (zI dk_latestFault), .int (zI dk_latestPlace)])), (dtp, .inl (cB, 3000, .inl (zF tp2__3)))] := hD
    have hK : va_K (dC, dI) vwCl [(cB, .byte)] s := hK
    subst p0_4
    refine lv_aload_n hx hb dX8_feed_17 rfl (lv_at hl 0 rfl) ?_
    refine lv_iload_n hx hb dX8_feed_18 rfl (lv_at hl 2 rfl) ?_
    have hPc := hP.sub (ws' := [(dk, .inr (8, [.ref dtp, .int (zI (dk_tapeSize + 4)), .ref gk, .ref gs, .ref tg, .ref tsp, .ref tk, .ref gd, .ref tr, .ref wy, .ref wk, .int (zI dk_latestFault), .int (zI dk_latestPlace)])), (dtp, .inl (cB, 3000, .inl (zF (fPut tp_ dk_tapeSize p0_))))]) [0, 1] rfl
    have hDc := hD.sub (ws' := [(dk, .inr (8, [.ref dtp, .int (zI (dk_tapeSize + 4)), .ref gk, .ref gs, .ref tg, .ref tsp, .ref tk, .ref gd, .ref tr, .ref wy, .ref wk, .int (zI dk_latestFault), .int (zI dk_latestPlace)])), (dtp, .inl (cB, 3000, .inl (zF (fPut tp_ dk_tapeSize p0_))))]) [0, 1] (by decide) rfl
    have hKc := hK.sub (tys' := [(cB, .byte)]) [0] rfl
    have hFc := va_free (wc := [(dk, .inr (8, [.ref dtp, .int (zI (dk_tapeSize + 4)), .ref gk, .ref gs, .ref tg, .ref tsp, .ref tk, .ref gd, .ref tr, .ref wy, .ref wk, .int (zI dk_latestFault), .int (zI dk_latestPlace)])), (dtp, .inl (cB, 3000, .inl (zF (fPut tp_ dk_tapeSize p0_))))]) hD hS hA [0, 1] rfl
    refine va_callv (va_runV (As := [.int (zI p1_)]) (rest := []) ⟨hx, hb, hml, hown, hg⟩ (c_X8_putWord l dC dI dk dtp gk gs tg tsp tk gd tr wy wk cB H.size (dk_tapeSize + 4) dk_latestFault dk_latestPlace (fPut tp_ dk_tapeSize p0_) p1_ (by omega) (by omega)) (cwV 1 hg gc_X8_88 rfl rfl rfl (by decide +kernel) ⟨Nat.le_of_ble_eq_true rfl, Nat.le_of_ble_eq_true rfl⟩) ⟨fun a U g mk q => by obtain ⟨q0, q1, qP, qK, qD⟩ := q; exact ⟨q0, q1, qP, va_K.moved (u := U) (U := U.calling g mk a) (Vm.Alike.refl U.vm) qK, qD⟩, va_recv hKc hPc (ci := 8) (q0 := 0) rfl rfl, fun U hU hW => ⟨rfl, by rw [hU], by rw [hU]; exact hPc, va_K.moved hW.alike hKc, hDc.weaken (fun _ _ _ _ => trivial)⟩⟩ rfl rfl hl.1 rfl (lv_room (Nat.le_of_ble_eq_true rfl)) dX8_feed_19 ⟨Nat.le_of_ble_eq_true rfl, Nat.le_of_ble_eq_true rfl⟩) hS (fun q _ h => hFc q h) hFc (fun u5 t H1 locs ht hvm hw5 hB hz1 hk1 hS => ?_)
    obtain ⟨tp2__6, p0_7, hP1, hK1, hD1⟩ := hB
    rw [ht] at hP1
    have hK1 := va_K.moved hvm.symm hK1
    have eq8 : (dk_tapeSize + 4) + 4 = dk_tapeSize + 8 := by omega
    rw [eq8] at hP1 hD1
    obtain ⟨hP, hD⟩ := va_join (wr := []) (w1 := [(dk, .inr (8, [.ref dtp, .int (zI (dk_tapeSize + 8)), .ref gk, .ref gs, .ref tg, .ref tsp, .ref tk, .ref gd, .ref tr, .ref wy, .ref wk, .int (zI dk_latestFault), .int (zI dk_latestPlace)])), (dtp, .inl (cB, 3000, .inl (zF tp2__6)))]) hP hD [0, 1] [] rfl rfl (by decide) (by decide) hk1 hFc hP1 hD1
    have hK := (hK.sub (tys' := []) [] rfl).app hK1
    generalize H1 = H at hP hS ⊢
    have hP : va_P (dC, dI) vwCl [(dk, .inr (8, [.ref dtp, .int (zI (dk_tapeSize + 8)), .ref gk, .ref gs, .ref tg, .ref tsp, .ref tk, .ref gd, .ref tr, .ref wy, .ref wk, .int (zI dk_latestFault), .int (zI dk_latestPlace)])), (dtp, .inl (cB, 3000, .inl (zF tp2__6)))] H := hP
    have hD : va_D A [(dk, .inr (8, [.ref dtp, .int (zI (dk_tapeSize + 8)), .ref gk, .ref gs, .ref tg, .ref tsp, .ref tk, .ref gd, .ref tr, .ref wy, .ref wk, .int (zI dk_latestFault), .int (zI dk_latestPlace)])), (dtp, .inl (cB, 3000, .inl (zF tp2__6)))] := hD
    have hK : va_K (dC, dI) vwCl [(cB, .byte)] s := hK
    subst p0_7
    refine lv_aload_n hx hb dX8_feed_22 rfl (lv_at hl 0 rfl) ?_
    refine lv_iload_n hx hb dX8_feed_23 rfl (lv_at hl 3 rfl) ?_
    have hPc := hP.sub (ws' := [(dk, .inr (8, [.ref dtp, .int (zI (dk_tapeSize + 8)), .ref gk, .ref gs, .ref tg, .ref tsp, .ref tk, .ref gd, .ref tr, .ref wy, .ref wk, .int (zI dk_latestFault), .int (zI dk_latestPlace)])), (dtp, .inl (cB, 3000, .inl (zF (fPut (fPut tp_ dk_tapeSize p0_) (dk_tapeSize + 4) p1_))))]) [0, 1] rfl
    have hDc := hD.sub (ws' := [(dk, .inr (8, [.ref dtp, .int (zI (dk_tapeSize + 8)), .ref gk, .ref gs, .ref tg, .ref tsp, .ref tk, .ref gd, .ref tr, .ref wy, .ref wk, .int (zI dk_latestFault), .int (zI dk_latestPlace)])), (dtp, .inl (cB, 3000, .inl (zF (fPut (fPut tp_ dk_tapeSize p0_) (dk_tapeSize + 4) p1_))))]) [0, 1] (by decide) rfl
    have hKc := hK.sub (tys' := [(cB, .byte)]) [0] rfl
    have hFc := va_free (wc := [(dk, .inr (8, [.ref dtp, .int (zI (dk_tapeSize + 8)), .ref gk, .ref gs, .ref tg, .ref tsp, .ref tk, .ref gd, .ref tr, .ref wy, .ref wk, .int (zI dk_latestFault), .int (zI dk_latestPlace)])), (dtp, .inl (cB, 3000, .inl (zF (fPut (fPut tp_ dk_tapeSize p0_) (dk_tapeSize + 4) p1_))))]) hD hS hA [0, 1] rfl
    refine va_callv (va_runV (As := [.int (zI p2_)]) (rest := []) ⟨hx, hb, hml, hown, hg⟩ (c_X8_putWord l dC dI dk dtp gk gs tg tsp tk gd tr wy wk cB H.size (dk_tapeSize + 8) dk_latestFault dk_latestPlace (fPut (fPut tp_ dk_tapeSize p0_) (dk_tapeSize + 4) p1_) p2_ (by omega) (by omega)) (cwV 1 hg gc_X8_88 rfl rfl rfl (by decide +kernel) ⟨Nat.le_of_ble_eq_true rfl, Nat.le_of_ble_eq_true rfl⟩) ⟨fun a U g mk q => by obtain ⟨q0, q1, qP, qK, qD⟩ := q; exact ⟨q0, q1, qP, va_K.moved (u := U) (U := U.calling g mk a) (Vm.Alike.refl U.vm) qK, qD⟩, va_recv hKc hPc (ci := 8) (q0 := 0) rfl rfl, fun U hU hW => ⟨rfl, by rw [hU], by rw [hU]; exact hPc, va_K.moved hW.alike hKc, hDc.weaken (fun _ _ _ _ => trivial)⟩⟩ rfl rfl hl.1 rfl (lv_room (Nat.le_of_ble_eq_true rfl)) dX8_feed_24 ⟨Nat.le_of_ble_eq_true rfl, Nat.le_of_ble_eq_true rfl⟩) hS (fun q _ h => hFc q h) hFc (fun u9 t H1 locs ht hvm hw9 hB hz1 hk1 hS => ?_)
    obtain ⟨tp2__10, p0_11, hP1, hK1, hD1⟩ := hB
    rw [ht] at hP1
    have hK1 := va_K.moved hvm.symm hK1
    have eq12 : (dk_tapeSize + 8) + 4 = dk_tapeSize + 12 := by omega
    rw [eq12] at hP1 hD1
    obtain ⟨hP, hD⟩ := va_join (wr := []) (w1 := [(dk, .inr (8, [.ref dtp, .int (zI (dk_tapeSize + 12)), .ref gk, .ref gs, .ref tg, .ref tsp, .ref tk, .ref gd, .ref tr, .ref wy, .ref wk, .int (zI dk_latestFault), .int (zI dk_latestPlace)])), (dtp, .inl (cB, 3000, .inl (zF tp2__10)))]) hP hD [0, 1] [] rfl rfl (by decide) (by decide) hk1 hFc hP1 hD1
    have hK := (hK.sub (tys' := []) [] rfl).app hK1
    generalize H1 = H at hP hS ⊢
    have hP : va_P (dC, dI) vwCl [(dk, .inr (8, [.ref dtp, .int (zI (dk_tapeSize + 12)), .ref gk, .ref gs, .ref tg, .ref tsp, .ref tk, .ref gd, .ref tr, .ref wy, .ref wk, .int (zI dk_latestFault), .int (zI dk_latestPlace)])), (dtp, .inl (cB, 3000, .inl (zF tp2__10)))] H := hP
    have hD : va_D A [(dk, .inr (8, [.ref dtp, .int (zI (dk_tapeSize + 12)), .ref gk, .ref gs, .ref tg, .ref tsp, .ref tk, .ref gd, .ref tr, .ref wy, .ref wk, .int (zI dk_latestFault), .int (zI dk_latestPlace)])), (dtp, .inl (cB, 3000, .inl (zF tp2__10)))] := hD
    have hK : va_K (dC, dI) vwCl [(cB, .byte)] s := hK
    subst p0_11
    refine lv_aload_n hx hb dX8_feed_27 rfl (lv_at hl 0 rfl) ?_
    refine lv_iload hx hb dX8_feed_28 (lv_at hl 4 rfl) ?_
    have hPc := hP.sub (ws' := [(dk, .inr (8, [.ref dtp, .int (zI (dk_tapeSize + 12)), .ref gk, .ref gs, .ref tg, .ref tsp, .ref tk, .ref gd, .ref tr, .ref wy, .ref wk, .int (zI dk_latestFault), .int (zI dk_latestPlace)])), (dtp, .inl (cB, 3000, .inl (zF (fPut (fPut (fPut tp_ dk_tapeSize p0_) (dk_tapeSize + 4) p1_) (dk_tapeSize + 8) p2_))))]) [0, 1] rfl
    have hDc := hD.sub (ws' := [(dk, .inr (8, [.ref dtp, .int (zI (dk_tapeSize + 12)), .ref gk, .ref gs, .ref tg, .ref tsp, .ref tk, .ref gd, .ref tr, .ref wy, .ref wk, .int (zI dk_latestFault), .int (zI dk_latestPlace)])), (dtp, .inl (cB, 3000, .inl (zF (fPut (fPut (fPut tp_ dk_tapeSize p0_) (dk_tapeSize + 4) p1_) (dk_tapeSize + 8) p2_))))]) [0, 1] (by decide) rfl
    have hKc := hK.sub (tys' := [(cB, .byte)]) [0] rfl
    have hFc := va_free (wc := [(dk, .inr (8, [.ref dtp, .int (zI (dk_tapeSize + 12)), .ref gk, .ref gs, .ref tg, .ref tsp, .ref tk, .ref gd, .ref tr, .ref wy, .ref wk, .int (zI dk_latestFault), .int (zI dk_latestPlace)])), (dtp, .inl (cB, 3000, .inl (zF (fPut (fPut (fPut tp_ dk_tapeSize p0_) (dk_tapeSize + 4) p1_) (dk_tapeSize + 8) p2_))))]) hD hS hA [0, 1] rfl
    refine va_callv (va_runV (As := [.int (zI p3_)]) (rest := []) ⟨hx, hb, hml, hown, hg⟩ (c_X8_putWord l dC dI dk dtp gk gs tg tsp tk gd tr wy wk cB H.size (dk_tapeSize + 12) dk_latestFault dk_latestPlace (fPut (fPut (fPut tp_ dk_tapeSize p0_) (dk_tapeSize + 4) p1_) (dk_tapeSize + 8) p2_) p3_ (by omega) (by omega)) (cwV 1 hg gc_X8_88 rfl rfl rfl (by decide +kernel) ⟨Nat.le_of_ble_eq_true rfl, Nat.le_of_ble_eq_true rfl⟩) ⟨fun a U g mk q => by obtain ⟨q0, q1, qP, qK, qD⟩ := q; exact ⟨q0, q1, qP, va_K.moved (u := U) (U := U.calling g mk a) (Vm.Alike.refl U.vm) qK, qD⟩, va_recv hKc hPc (ci := 8) (q0 := 0) rfl rfl, fun U hU hW => ⟨rfl, by rw [hU], by rw [hU]; exact hPc, va_K.moved hW.alike hKc, hDc.weaken (fun _ _ _ _ => trivial)⟩⟩ rfl rfl hl.1 rfl (lv_room (Nat.le_of_ble_eq_true rfl)) dX8_feed_30 ⟨Nat.le_of_ble_eq_true rfl, Nat.le_of_ble_eq_true rfl⟩) hS (fun q _ h => hFc q h) hFc (fun u13 t H1 locs ht hvm hw13 hB hz1 hk1 hS => ?_)
    obtain ⟨tp2__14, p0_15, hP1, hK1, hD1⟩ := hB
    rw [ht] at hP1
    have hK1 := va_K.moved hvm.symm hK1
    have eq16 : (dk_tapeSize + 12) + 4 = dk_tapeSize + 16 := by omega
    rw [eq16] at hP1 hD1
    obtain ⟨hP, hD⟩ := va_join (wr := []) (w1 := [(dk, .inr (8, [.ref dtp, .int (zI (dk_tapeSize + 16)), .ref gk, .ref gs, .ref tg, .ref tsp, .ref tk, .ref gd, .ref tr, .ref wy, .ref wk, .int (zI dk_latestFault), .int (zI dk_latestPlace)])), (dtp, .inl (cB, 3000, .inl (zF tp2__14)))]) hP hD [0, 1] [] rfl rfl (by decide) (by decide) hk1 hFc hP1 hD1
    have hK := (hK.sub (tys' := []) [] rfl).app hK1
    generalize H1 = H at hP hS ⊢
    have hP : va_P (dC, dI) vwCl [(dk, .inr (8, [.ref dtp, .int (zI (dk_tapeSize + 16)), .ref gk, .ref gs, .ref tg, .ref tsp, .ref tk, .ref gd, .ref tr, .ref wy, .ref wk, .int (zI dk_latestFault), .int (zI dk_latestPlace)])), (dtp, .inl (cB, 3000, .inl (zF tp2__14)))] H := hP
    have hD : va_D A [(dk, .inr (8, [.ref dtp, .int (zI (dk_tapeSize + 16)), .ref gk, .ref gs, .ref tg, .ref tsp, .ref tk, .ref gd, .ref tr, .ref wy, .ref wk, .int (zI dk_latestFault), .int (zI dk_latestPlace)])), (dtp, .inl (cB, 3000, .inl (zF tp2__14)))] := hD
    have hK : va_K (dC, dI) vwCl [(cB, .byte)] s := hK
    subst p0_15
    refine lv_aload_n hx hb dX8_feed_33 rfl (lv_at hl 0 rfl) ?_
    refine lv_iload hx hb dX8_feed_34 (lv_at hl 5 rfl) ?_
    have hPc := hP.sub (ws' := [(dk, .inr (8, [.ref dtp, .int (zI (dk_tapeSize + 16)), .ref gk, .ref gs, .ref tg, .ref tsp, .ref tk, .ref gd, .ref tr, .ref wy, .ref wk, .int (zI dk_latestFault), .int (zI dk_latestPlace)])), (dtp, .inl (cB, 3000, .inl (zF (fPut (fPut (fPut (fPut tp_ dk_tapeSize p0_) (dk_tapeSize + 4) p1_) (dk_tapeSize + 8) p2_) (dk_tapeSize + 12) p3_))))]) [0, 1] rfl
    have hDc := hD.sub (ws' := [(dk, .inr (8, [.ref dtp, .int (zI (dk_tapeSize + 16)), .ref gk, .ref gs, .ref tg, .ref tsp, .ref tk, .ref gd, .ref tr, .ref wy, .ref wk, .int (zI dk_latestFault), .int (zI dk_latestPlace)])), (dtp, .inl (cB, 3000, .inl (zF (fPut (fPut (fPut (fPut tp_ dk_tapeSize p0_) (dk_tapeSize + 4) p1_) (dk_tapeSize + 8) p2_) (dk_tapeSize + 12) p3_))))]) [0, 1] (by decide) rfl
    have hKc := hK.sub (tys' := [(cB, .byte)]) [0] rfl
    have hFc := va_free (wc := [(dk, .inr (8, [.ref dtp, .int (zI (dk_tapeSize + 16)), .ref gk, .ref gs, .ref tg, .ref tsp, .ref tk, .ref gd, .ref tr, .ref wy, .ref wk, .int (zI dk_latestFault), .int (zI dk_latestPlace)])), (dtp, .inl (cB, 3000, .inl (zF (fPut (fPut (fPut (fPut tp_ dk_tapeSize p0_) (dk_tapeSize + 4) p1_) (dk_tapeSize + 8) p2_) (dk_tapeSize + 12) p3_))))]) hD hS hA [0, 1] rfl
    refine va_callv (va_runV (As := [.int (zI p4_)]) (rest := []) ⟨hx, hb, hml, hown, hg⟩ (c_X8_putWord l dC dI dk dtp gk gs tg tsp tk gd tr wy wk cB H.size (dk_tapeSize + 16) dk_latestFault dk_latestPlace (fPut (fPut (fPut (fPut tp_ dk_tapeSize p0_) (dk_tapeSize + 4) p1_) (dk_tapeSize + 8) p2_) (dk_tapeSize + 12) p3_) p4_ (by omega) (by omega)) (cwV 1 hg gc_X8_88 rfl rfl rfl (by decide +kernel) ⟨Nat.le_of_ble_eq_true rfl, Nat.le_of_ble_eq_true rfl⟩) ⟨fun a U g mk q => by obtain ⟨q0, q1, qP, qK, qD⟩ := q; exact ⟨q0, q1, qP, va_K.moved (u := U) (U := U.calling g mk a) (Vm.Alike.refl U.vm) qK, qD⟩, va_recv hKc hPc (ci := 8) (q0 := 0) rfl rfl, fun U hU hW => ⟨rfl, by rw [hU], by rw [hU]; exact hPc, va_K.moved hW.alike hKc, hDc.weaken (fun _ _ _ _ => trivial)⟩⟩ rfl rfl hl.1 rfl (lv_room (Nat.le_of_ble_eq_true rfl)) dX8_feed_36 ⟨Nat.le_of_ble_eq_true rfl, Nat.le_of_ble_eq_true rfl⟩) hS (fun q _ h => hFc q h) hFc (fun u17 t H1 locs ht hvm hw17 hB hz1 hk1 hS => ?_)
    obtain ⟨tp2__18, p0_19, hP1, hK1, hD1⟩ := hB
    rw [ht] at hP1
    have hK1 := va_K.moved hvm.symm hK1
    have eq20 : (dk_tapeSize + 16) + 4 = dk_tapeSize + 20 := by omega
    rw [eq20] at hP1 hD1
    obtain ⟨hP, hD⟩ := va_join (wr := []) (w1 := [(dk, .inr (8, [.ref dtp, .int (zI (dk_tapeSize + 20)), .ref gk, .ref gs, .ref tg, .ref tsp, .ref tk, .ref gd, .ref tr, .ref wy, .ref wk, .int (zI dk_latestFault), .int (zI dk_latestPlace)])), (dtp, .inl (cB, 3000, .inl (zF tp2__18)))]) hP hD [0, 1] [] rfl rfl (by decide) (by decide) hk1 hFc hP1 hD1
    have hK := (hK.sub (tys' := []) [] rfl).app hK1
    generalize H1 = H at hP hS ⊢
    have hP : va_P (dC, dI) vwCl [(dk, .inr (8, [.ref dtp, .int (zI (dk_tapeSize + 20)), .ref gk, .ref gs, .ref tg, .ref tsp, .ref tk, .ref gd, .ref tr, .ref wy, .ref wk, .int (zI dk_latestFault), .int (zI dk_latestPlace)])), (dtp, .inl (cB, 3000, .inl (zF tp2__18)))] H := hP
    have hD : va_D A [(dk, .inr (8, [.ref dtp, .int (zI (dk_tapeSize + 20)), .ref gk, .ref gs, .ref tg, .ref tsp, .ref tk, .ref gd, .ref tr, .ref wy, .ref wk, .int (zI dk_latestFault), .int (zI dk_latestPlace)])), (dtp, .inl (cB, 3000, .inl (zF tp2__18)))] := hD
    have hK : va_K (dC, dI) vwCl [(cB, .byte)] s := hK
    subst p0_19
    refine lv_aload_n hx hb dX8_feed_39 rfl (lv_at hl 0 rfl) ?_
    refine va_get (D := (dC, dI)) (ci := 8) (v := .int (zI (dk_tapeSize + 20))) (C := RX8) (T := TX8) (N := 13) hx hb hg inG_X8 hown hK hP 0 rfl rfl 1 (by decide) (hg (.fieldLink RX8 13 "AttributeDesk" "tapeSize" "I") gw_2_161) (fun _ h9 => h9) rfl dX8_feed_40 ?_
    have hP9 := hP.sub (ws' := [(dk, .inr (8, [.ref dtp, .int (zI (dk_tapeSize + 20)), .ref gk, .ref gs, .ref tg, .ref tsp, .ref tk, .ref gd, .ref tr, .ref wy, .ref wk, .int (zI dk_latestFault), .int (zI dk_latestPlace)])), (dtp, .inl (cB, 3000, .inl (zF (fPut (fPut (fPut (fPut (fPut tp_ dk_tapeSize p0_) (dk_tapeSize + 4) p1_) (dk_tapeSize + 8) p2_) (dk_tapeSize + 12) p3_) (dk_tapeSize + 16) p4_))))]) [0, 1] rfl
    have hD9 := hD.sub (ws' := [(dk, .inr (8, [.ref dtp, .int (zI (dk_tapeSize + 20)), .ref gk, .ref gs, .ref tg, .ref tsp, .ref tk, .ref gd, .ref tr, .ref wy, .ref wk, .int (zI dk_latestFault), .int (zI dk_latestPlace)])), (dtp, .inl (cB, 3000, .inl (zF (fPut (fPut (fPut (fPut (fPut tp_ dk_tapeSize p0_) (dk_tapeSize + 4) p1_) (dk_tapeSize + 8) p2_) (dk_tapeSize + 12) p3_) (dk_tapeSize + 16) p4_))))]) [0, 1] (by decide) rfl
    have hK9 := hK.sub (tys' := [(cB, .byte)]) [0] rfl
    exact W.iret (v := zI (dk_tapeSize + 20)) hx hb hr (fun t ht hW => ⟨⟨zI (dk_tapeSize + 20), (dk_tapeSize + 20), rfl, rfl, (dk_tapeSize + 20), (fPut (fPut (fPut (fPut (fPut tp_ dk_tapeSize p0_) (dk_tapeSize + 4) p1_) (dk_tapeSize + 8) p2_) (dk_tapeSize + 12) p3_) (dk_tapeSize + 16) p4_), (Or.inr ⟨rfl, by omega, rfl, rfl⟩), by rw [ht]; exact hP9, va_K.moved hW.alike hK9, hD9⟩, hS.F ht⟩) hS.2.2 dX8_feed_43
  · refine lv_iconst (v := zI (-1)) hx hb dX8_feed_10 rfl ?_
    have hP9 := hP.sub (ws' := [(dk, .inr (8, [.ref dtp, .int (zI dk_tapeSize), .ref gk, .ref gs, .ref tg, .ref tsp, .ref tk, .ref gd, .ref tr, .ref wy, .ref wk, .int (zI dk_latestFault), .int (zI dk_latestPlace)])), (dtp, .inl (cB, 3000, .inl (zF tp_)))]) [0, 1] rfl
    have hD9 := hD.sub (ws' := [(dk, .inr (8, [.ref dtp, .int (zI dk_tapeSize), .ref gk, .ref gs, .ref tg, .ref tsp, .ref tk, .ref gd, .ref tr, .ref wy, .ref wk, .int (zI dk_latestFault), .int (zI dk_latestPlace)])), (dtp, .inl (cB, 3000, .inl (zF tp_)))]) [0, 1] (by decide) rfl
    have hK9 := hK.sub (tys' := [(cB, .byte)]) [0] rfl
    exact W.iret (v := zI (-1)) hx hb hr (fun t ht hW => ⟨⟨zI (-1), (-1), rfl, rfl, dk_tapeSize, tp_, (Or.inl ⟨rfl, by omega, rfl, rfl⟩), by rw [ht]; exact hP9, va_K.moved hW.alike hK9, hD9⟩, hS.F ht⟩) hS.2.2 dX8_feed_11

set_option maxHeartbeats 4000000 in
set_option maxRecDepth 100000 in
theorem c_X8_end (l : Launch) (dC : Nat → ClassId) (dI : Nat → Nat → Nat) (dk dtp gk gs tg tsp tk gd tr wy wk : Nat) (sz : Nat) (dk_tapeSize : Int) (dk_latestFault : Int) (dk_latestPlace : Int) (v_ : Int) (hv_ : -2147483648 ≤ v_ ∧ v_ < 2147483648) (htp : 0 ≤ dk_tapeSize ∧ dk_tapeSize ≤ 3000) : Met l yX8_end wyX8_end ({ frames := 0, cells := 0, slots := 0, locals := 0 }) (va_Pc [.ref dk, .int (zI v_)] (fun U => U.heap.size = sz ∧ va_P (dC, dI) vwCl [(dk, .inr (8, [.ref dtp, .int (zI dk_tapeSize), .ref gk, .ref gs, .ref tg, .ref tsp, .ref tk, .ref gd, .ref tr, .ref wy, .ref wk, .int (zI dk_latestFault), .int (zI dk_latestPlace)]))] U.heap ∧ va_K (dC, dI) vwCl [] U ∧ va_D (fun _ => True) [(dk, .inr (8, [.ref dtp, .int (zI dk_tapeSize), .ref gk, .ref gs, .ref tg, .ref tsp, .ref tk, .ref gd, .ref tr, .ref wy, .ref wk, .int (zI dk_latestFault), .int (zI dk_latestPlace)]))])) (va_Qi (fun (rr : Int32) (r : Int) => rr = zI r) (fun r t => ∃ (ts2_ : Int), ((r = -1 ∧ ¬ (0 ≤ v_ ∧ v_ ≤ dk_tapeSize) ∧ ts2_ = dk_tapeSize) ∨ (r = v_ ∧ (0 ≤ v_ ∧ v_ ≤ dk_tapeSize) ∧ ts2_ = v_)) ∧ va_P (dC, dI) vwCl [(dk, .inr (8, [.ref dtp, .int (zI ts2_), .ref gk, .ref gs, .ref tg, .ref tsp, .ref tk, .ref gd, .ref tr, .ref wy, .ref wk, .int (zI dk_latestFault), .int (zI dk_latestPlace)]))] t.heap ∧ va_K (dC, dI) vwCl [] t ∧ va_D (va_A [(dk, .inr (8, [.ref dtp, .int (zI dk_tapeSize), .ref gk, .ref gs, .ref tg, .ref tsp, .ref tk, .ref gd, .ref tr, .ref wy, .ref wk, .int (zI dk_latestFault), .int (zI dk_latestPlace)]))] sz) [(dk, .inr (8, [.ref dtp, .int (zI ts2_), .ref gk, .ref gs, .ref tg, .ref tsp, .ref tk, .ref gd, .ref tr, .ref wy, .ref wk, .int (zI dk_latestFault), .int (zI dk_latestPlace)]))]) (va_A [(dk, .inr (8, [.ref dtp, .int (zI dk_tapeSize), .ref gk, .ref gs, .ref tg, .ref tsp, .ref tk, .ref gd, .ref tr, .ref wy, .ref wk, .int (zI dk_latestFault), .int (zI dk_latestPlace)]))] sz)) 0 0 (va_A [(dk, .inr (8, [.ref dtp, .int (zI dk_tapeSize), .ref gk, .ref gs, .ref tg, .ref tsp, .ref tk, .ref gd, .ref tr, .ref wy, .ref wk, .int (zI dk_latestFault), .int (zI dk_latestPlace)]))] sz) := by
  refine Met.ofW (cc := cX8_end) (maxL := 2) (ret := (some .int)) (by decide) rfl ?_
  intro p e s m args below meth c s₁ B hml hv
  obtain ⟨rfl, hsz, hP, hK, hD0⟩ := hv
  have hx := B.exec
  have hb := B.bytes
  have hr := B.returns
  have hts := atoms_spec (ws := wyX8_end) B.pre
  have hg : ∀ w ∈ lw_G, w.before _ s = true := fun w h => hts w (List.mem_cons_of_mem _ h)
  have hown : s.vm.findClass RX8 = some m.cls := findClass_of_methodNamed B.named
  have hlocks := B.notSynchronized
  subst hsz
  have hD := hD0.self (sz := s.heap.size)
  generalize hAe : va_A [(dk, .inr (8, [.ref dtp, .int (zI dk_tapeSize), .ref gk, .ref gs, .ref tg, .ref tsp, .ref tk, .ref gd, .ref tr, .ref wy, .ref wk, .int (zI dk_latestFault), .int (zI dk_latestPlace)]))] s.heap.size = A at hD ⊢
  have hA : ∀ q : Nat, s.heap.size ≤ q → A q := fun q h => by rw [← hAe]; exact Or.inr h
  have hS : va_S A s.heap s.heap [] := va_S.rf
  have hP : va_P (dC, dI) vwCl [(dk, .inr (8, [.ref dtp, .int (zI dk_tapeSize), .ref gk, .ref gs, .ref tg, .ref tsp, .ref tk, .ref gd, .ref tr, .ref wy, .ref wk, .int (zI dk_latestFault), .int (zI dk_latestPlace)]))] s.heap := hP
  have hl := lv_entry ([.ref dk, .int (zI v_)]) (n := 2) (Nat.le_of_ble_eq_true rfl)
  rw [lg_entry_eq]
  generalize (lg_sl ([.ref dk, .int (zI v_)]) ++ List.replicate (2 - (lg_sl ([.ref dk, .int (zI v_)])).length) Slot.unset).toArray = ls at hl ⊢
  have hl : lv_has ls 2 [(0, .ref dk), (1, .int (zI v_))] := hl
  refine lv_iload_n hx hb dX8_end_0 rfl (lv_at hl 1 rfl) ?_
  refine zv_if_lt (tgt := 12) hx hb dX8_end_1 (by decide) (by omega) (fun c1 => ?_) (fun c1 => ?_)
  · refine lv_iconst (v := zI (-1)) hx hb dX8_end_12 rfl ?_
    have hP9 := hP.sub (ws' := [(dk, .inr (8, [.ref dtp, .int (zI dk_tapeSize), .ref gk, .ref gs, .ref tg, .ref tsp, .ref tk, .ref gd, .ref tr, .ref wy, .ref wk, .int (zI dk_latestFault), .int (zI dk_latestPlace)]))]) [0] rfl
    have hD9 := hD.sub (ws' := [(dk, .inr (8, [.ref dtp, .int (zI dk_tapeSize), .ref gk, .ref gs, .ref tg, .ref tsp, .ref tk, .ref gd, .ref tr, .ref wy, .ref wk, .int (zI dk_latestFault), .int (zI dk_latestPlace)]))]) [0] (by decide) rfl
    have hK9 := hK.sub (tys' := []) [] rfl
    exact W.iret (v := zI (-1)) hx hb hr (fun t ht hW => ⟨⟨zI (-1), (-1), rfl, rfl, dk_tapeSize, (by omega), by rw [ht]; exact hP9, va_K.moved hW.alike hK9, hD9⟩, hS.F ht⟩) hS.2.2 dX8_end_13
  · refine lv_iload_n hx hb dX8_end_4 rfl (lv_at hl 1 rfl) ?_
    refine lv_aload_n hx hb dX8_end_5 rfl (lv_at hl 0 rfl) ?_
    refine va_get (D := (dC, dI)) (ci := 8) (v := .int (zI dk_tapeSize)) (C := RX8) (T := TX8) (N := 13) hx hb hg inG_X8 hown hK hP 0 rfl rfl 1 (by decide) (hg (.fieldLink RX8 13 "AttributeDesk" "tapeSize" "I") gw_2_161) (fun _ h9 => h9) rfl dX8_end_6 ?_
    refine zv_icmp_le (tgt := 14) hx hb dX8_end_9 (by decide) (by omega) (by omega) (fun c2 => ?_) (fun c2 => ?_)
    · refine lv_aload_n hx hb dX8_end_14 rfl (lv_at hl 0 rfl) ?_
      refine lv_iload_n hx hb dX8_end_15 rfl (lv_at hl 1 rfl) ?_
      refine va_put (D := (dC, dI)) (ci := 8) (v := .int (zI v_)) (ty := .int) (C := RX8) (T := TX8) (N := 13) hx hb hg inG_X8 tyX8 tyX8_ok nmX8 hown hK hP hD hS 0 rfl rfl 1 (by decide) (hg (.fieldLink RX8 13 "AttributeDesk" "tapeSize" "I") gw_2_161) (fun _ h9 => h9) rfl (by decide +kernel) rfl rfl (Nat.le_of_ble_eq_true rfl) dX8_end_16 (fun H locs hP hD hS => ?_)
      have hP : va_P (dC, dI) vwCl [(dk, .inr (8, [.ref dtp, .int (zI v_), .ref gk, .ref gs, .ref tg, .ref tsp, .ref tk, .ref gd, .ref tr, .ref wy, .ref wk, .int (zI dk_latestFault), .int (zI dk_latestPlace)]))] H := hP
      have hD : va_D A [(dk, .inr (8, [.ref dtp, .int (zI v_), .ref gk, .ref gs, .ref tg, .ref tsp, .ref tk, .ref gd, .ref tr, .ref wy, .ref wk, .int (zI dk_latestFault), .int (zI dk_latestPlace)]))] := hD
      refine lv_iload_n hx hb dX8_end_19 rfl (lv_at hl 1 rfl) ?_
      have hP9 := hP.sub (ws' := [(dk, .inr (8, [.ref dtp, .int (zI v_), .ref gk, .ref gs, .ref tg, .ref tsp, .ref tk, .ref gd, .ref tr, .ref wy, .ref wk, .int (zI dk_latestFault), .int (zI dk_latestPlace)]))]) [0] rfl
      have hD9 := hD.sub (ws' := [(dk, .inr (8, [.ref dtp, .int (zI v_), .ref gk, .ref gs, .ref tg, .ref tsp, .ref tk, .ref gd, .ref tr, .ref wy, .ref wk, .int (zI dk_latestFault), .int (zI dk_latestPlace)]))]) [0] (by decide) rfl
      have hK9 := hK.sub (tys' := []) [] rfl
      exact W.iret (v := zI v_) hx hb hr (fun t ht hW => ⟨⟨zI v_, v_, rfl, rfl, v_, (by omega), by rw [ht]; exact hP9, va_K.moved hW.alike hK9, hD9⟩, hS.F ht⟩) hS.2.2 dX8_end_20
    · refine lv_iconst (v := zI (-1)) hx hb dX8_end_12 rfl ?_
      have hP9 := hP.sub (ws' := [(dk, .inr (8, [.ref dtp, .int (zI dk_tapeSize), .ref gk, .ref gs, .ref tg, .ref tsp, .ref tk, .ref gd, .ref tr, .ref wy, .ref wk, .int (zI dk_latestFault), .int (zI dk_latestPlace)]))]) [0] rfl
      have hD9 := hD.sub (ws' := [(dk, .inr (8, [.ref dtp, .int (zI dk_tapeSize), .ref gk, .ref gs, .ref tg, .ref tsp, .ref tk, .ref gd, .ref tr, .ref wy, .ref wk, .int (zI dk_latestFault), .int (zI dk_latestPlace)]))]) [0] (by decide) rfl
      have hK9 := hK.sub (tys' := []) [] rfl
      exact W.iret (v := zI (-1)) hx hb hr (fun t ht hW => ⟨⟨zI (-1), (-1), rfl, rfl, dk_tapeSize, (by omega), by rw [ht]; exact hP9, va_K.moved hW.alike hK9, hD9⟩, hS.F ht⟩) hS.2.2 dX8_end_13

set_option maxHeartbeats 4000000 in
set_option maxRecDepth 100000 in
theorem c_X8_keepFault (l : Launch) (dC : Nat → ClassId) (dI : Nat → Nat → Nat) (dk tk dtp gk gs tg tsp gd tr wy wk tp : Nat) (sz : Nat) (dk_tapeSize : Int) (dk_latestFault : Int) (dk_latestPlace : Int) (tk_size : Int) (tk_behind : Int) (tk_kind : Int) (tk_at : Int) (tk_name : Int) (tk_number : Int) (v_ : Int) (hv_ : -2147483648 ≤ v_ ∧ v_ < 2147483648) : Met l yX8_keepFault wyX8_keepFault ({ frames := 0, cells := 0, slots := 0, locals := 0 }) (va_Pc [.ref dk, .int (zI v_)] (fun U => U.heap.size = sz ∧ va_P (dC, dI) vwCl [(dk, .inr (8, [.ref dtp, .int (zI dk_tapeSize), .ref gk, .ref gs, .ref tg, .ref tsp, .ref tk, .ref gd, .ref tr, .ref wy, .ref wk, .int (zI dk_latestFault), .int (zI dk_latestPlace)])), (tk, .inr (3, [.ref tp, .int (zI tk_size), .int (zI tk_behind), .int (zI tk_kind), .int (zI tk_at), .long (lI tk_name), .long (lI tk_number)]))] U.heap ∧ va_K (dC, dI) vwCl [] U ∧ va_D (fun _ => True) [(dk, .inr (8, [.ref dtp, .int (zI dk_tapeSize), .ref gk, .ref gs, .ref tg, .ref tsp, .ref tk, .ref gd, .ref tr, .ref wy, .ref wk, .int (zI dk_latestFault), .int (zI dk_latestPlace)])), (tk, .inr (3, [.ref tp, .int (zI tk_size), .int (zI tk_behind), .int (zI tk_kind), .int (zI tk_at), .long (lI tk_name), .long (lI tk_number)]))])) (va_Qv (fun _ : Unit => True) (fun _ t => ∃ (lp2_ : Int), (lp2_ = if v_ = 0 then -1 else tk_at) ∧ va_P (dC, dI) vwCl [(dk, .inr (8, [.ref dtp, .int (zI dk_tapeSize), .ref gk, .ref gs, .ref tg, .ref tsp, .ref tk, .ref gd, .ref tr, .ref wy, .ref wk, .int (zI v_), .int (zI lp2_)])), (tk, .inr (3, [.ref tp, .int (zI tk_size), .int (zI tk_behind), .int (zI tk_kind), .int (zI tk_at), .long (lI tk_name), .long (lI tk_number)]))] t.heap ∧ va_K (dC, dI) vwCl [] t ∧ va_D (va_A [(dk, .inr (8, [.ref dtp, .int (zI dk_tapeSize), .ref gk, .ref gs, .ref tg, .ref tsp, .ref tk, .ref gd, .ref tr, .ref wy, .ref wk, .int (zI dk_latestFault), .int (zI dk_latestPlace)])), (tk, .inr (3, [.ref tp, .int (zI tk_size), .int (zI tk_behind), .int (zI tk_kind), .int (zI tk_at), .long (lI tk_name), .long (lI tk_number)]))] sz) [(dk, .inr (8, [.ref dtp, .int (zI dk_tapeSize), .ref gk, .ref gs, .ref tg, .ref tsp, .ref tk, .ref gd, .ref tr, .ref wy, .ref wk, .int (zI v_), .int (zI lp2_)])), (tk, .inr (3, [.ref tp, .int (zI tk_size), .int (zI tk_behind), .int (zI tk_kind), .int (zI tk_at), .long (lI tk_name), .long (lI tk_number)]))]) (va_A [(dk, .inr (8, [.ref dtp, .int (zI dk_tapeSize), .ref gk, .ref gs, .ref tg, .ref tsp, .ref tk, .ref gd, .ref tr, .ref wy, .ref wk, .int (zI dk_latestFault), .int (zI dk_latestPlace)])), (tk, .inr (3, [.ref tp, .int (zI tk_size), .int (zI tk_behind), .int (zI tk_kind), .int (zI tk_at), .long (lI tk_name), .long (lI tk_number)]))] sz)) 0 0 (va_A [(dk, .inr (8, [.ref dtp, .int (zI dk_tapeSize), .ref gk, .ref gs, .ref tg, .ref tsp, .ref tk, .ref gd, .ref tr, .ref wy, .ref wk, .int (zI dk_latestFault), .int (zI dk_latestPlace)])), (tk, .inr (3, [.ref tp, .int (zI tk_size), .int (zI tk_behind), .int (zI tk_kind), .int (zI tk_at), .long (lI tk_name), .long (lI tk_number)]))] sz) := by
  refine Met.ofW (cc := cX8_keepFault) (maxL := 2) (ret := none) (by decide) rfl ?_
  intro p e s m args below meth c s₁ B hml hv
  obtain ⟨rfl, hsz, hP, hK, hD0⟩ := hv
  have hx := B.exec
  have hb := B.bytes
  have hr := B.returns
  have hts := atoms_spec (ws := wyX8_keepFault) B.pre
  have hg : ∀ w ∈ lw_G, w.before _ s = true := fun w h => hts w (List.mem_cons_of_mem _ h)
  have hown : s.vm.findClass RX8 = some m.cls := findClass_of_methodNamed B.named
  have hlocks := B.notSynchronized
  subst hsz
  have hD := hD0.self (sz := s.heap.size)
  generalize hAe : va_A [(dk, .inr (8, [.ref dtp, .int (zI dk_tapeSize), .ref gk, .ref gs, .ref tg, .ref tsp, .ref tk, .ref gd, .ref tr, .ref wy, .ref wk, .int (zI dk_latestFault), .int (zI dk_latestPlace)])), (tk, .inr (3, [.ref tp, .int (zI tk_size), .int (zI tk_behind), .int (zI tk_kind), .int (zI tk_at), .long (lI tk_name), .long (lI tk_number)]))] s.heap.size = A at hD ⊢
  have hA : ∀ q : Nat, s.heap.size ≤ q → A q := fun q h => by rw [← hAe]; exact Or.inr h
  have hS : va_S A s.heap s.heap [] := va_S.rf
  have hP : va_P (dC, dI) vwCl [(dk, .inr (8, [.ref dtp, .int (zI dk_tapeSize), .ref gk, .ref gs, .ref tg, .ref tsp, .ref tk, .ref gd, .ref tr, .ref wy, .ref wk, .int (zI dk_latestFault), .int (zI dk_latestPlace)])), (tk, .inr (3, [.ref tp, .int (zI tk_size), .int (zI tk_behind), .int (zI tk_kind), .int (zI tk_at), .long (lI tk_name), .long (lI tk_number)]))] s.heap := hP
  have hl := lv_entry ([.ref dk, .int (zI v_)]) (n := 2) (Nat.le_of_ble_eq_true rfl)
  rw [lg_entry_eq]
  generalize (lg_sl ([.ref dk, .int (zI v_)]) ++ List.replicate (2 - (lg_sl ([.ref dk, .int (zI v_)])).length) Slot.unset).toArray = ls at hl ⊢
  have hl : lv_has ls 2 [(0, .ref dk), (1, .int (zI v_))] := hl
  refine lv_aload_n hx hb dX8_keepFault_0 rfl (lv_at hl 0 rfl) ?_
  refine lv_iload_n hx hb dX8_keepFault_1 rfl (lv_at hl 1 rfl) ?_
  refine va_put (D := (dC, dI)) (ci := 8) (v := .int (zI v_)) (ty := .int) (C := RX8) (T := TX8) (N := 13) hx hb hg inG_X8 tyX8 tyX8_ok nmX8 hown hK hP hD hS 0 rfl rfl 11 (by decide) (hg (.fieldLink RX8 82 "AttributeDesk" "latestFault" "I") gw_2_171) (fun _ h9 => h9) rfl (by decide +kernel) rfl rfl (Nat.le_of_ble_eq_true rfl) dX8_keepFault_2 (fun H locs hP hD hS => ?_)
  have hP : va_P (dC, dI) vwCl [(dk, .inr (8, [.ref dtp, .int (zI dk_tapeSize), .ref gk, .ref gs, .ref tg, .ref tsp, .ref tk, .ref gd, .ref tr, .ref wy, .ref wk, .int (zI v_), .int (zI dk_latestPlace)])), (tk, .inr (3, [.ref tp, .int (zI tk_size), .int (zI tk_behind), .int (zI tk_kind), .int (zI tk_at), .long (lI tk_name), .long (lI tk_number)]))] H := hP
  have hD : va_D A [(dk, .inr (8, [.ref dtp, .int (zI dk_tapeSize), .ref gk, .ref gs, .ref tg, .ref tsp, .ref tk, .ref gd, .ref tr, .ref wy, .ref wk, .int (zI v_), .int (zI dk_latestPlace)])), (tk, .inr (3, [.ref tp, .int (zI tk_size), .int (zI tk_behind), .int (zI tk_kind), .int (zI tk_at), .long (lI tk_name), .long (lI tk_number)]))] := hD
  refine lv_aload_n hx hb dX8_keepFault_5 rfl (lv_at hl 0 rfl) ?_
  refine lv_iload_n hx hb dX8_keepFault_6 rfl (lv_at hl 1 rfl) ?_
  refine zv_if_ne (tgt := 14) hx hb dX8_keepFault_7 (by decide) (by omega) (fun c1 => ?_) (fun c1 => ?_)
  · refine lv_aload_n hx hb dX8_keepFault_14 rfl (lv_at hl 0 rfl) ?_
    refine va_get (D := (dC, dI)) (ci := 8) (v := .ref tk) (C := RX8) (T := TX8) (N := 13) hx hb hg inG_X8 hown hK hP 0 rfl rfl 6 (by decide) (hg (.fieldLink RX8 42 "AttributeDesk" "tokens" "LAttributeDesk$Tokens;") gw_2_166) (fun _ h9 => h9) rfl dX8_keepFault_15 ?_
    refine va_get (D := (dC, dI)) (ci := 3) (v := .int (zI tk_at)) (C := RX3) (T := TX3) (N := 7) hx hb hg inG_X3 hown hK hP 1 rfl rfl 4 (by decide) (hg (.fieldLink RX8 209 "AttributeDesk$Tokens" "at" "I") gw_1_168) (fun _ h9 => h9) rfl dX8_keepFault_18 ?_
    refine va_put (D := (dC, dI)) (ci := 8) (v := .int (zI tk_at)) (ty := .int) (C := RX8) (T := TX8) (N := 13) hx hb hg inG_X8 tyX8 tyX8_ok nmX8 hown hK hP hD hS 0 rfl rfl 12 (by decide) (hg (.fieldLink RX8 85 "AttributeDesk" "latestPlace" "I") gw_2_172) (fun _ h9 => h9) rfl (by decide +kernel) rfl rfl (Nat.le_of_ble_eq_true rfl) dX8_keepFault_21 (fun H locs hP hD hS => ?_)
    have hP : va_P (dC, dI) vwCl [(dk, .inr (8, [.ref dtp, .int (zI dk_tapeSize), .ref gk, .ref gs, .ref tg, .ref tsp, .ref tk, .ref gd, .ref tr, .ref wy, .ref wk, .int (zI v_), .int (zI tk_at)])), (tk, .inr (3, [.ref tp, .int (zI tk_size), .int (zI tk_behind), .int (zI tk_kind), .int (zI tk_at), .long (lI tk_name), .long (lI tk_number)]))] H := hP
    have hD : va_D A [(dk, .inr (8, [.ref dtp, .int (zI dk_tapeSize), .ref gk, .ref gs, .ref tg, .ref tsp, .ref tk, .ref gd, .ref tr, .ref wy, .ref wk, .int (zI v_), .int (zI tk_at)])), (tk, .inr (3, [.ref tp, .int (zI tk_size), .int (zI tk_behind), .int (zI tk_kind), .int (zI tk_at), .long (lI tk_name), .long (lI tk_number)]))] := hD
    have hP9 := hP.sub (ws' := [(dk, .inr (8, [.ref dtp, .int (zI dk_tapeSize), .ref gk, .ref gs, .ref tg, .ref tsp, .ref tk, .ref gd, .ref tr, .ref wy, .ref wk, .int (zI v_), .int (zI tk_at)])), (tk, .inr (3, [.ref tp, .int (zI tk_size), .int (zI tk_behind), .int (zI tk_kind), .int (zI tk_at), .long (lI tk_name), .long (lI tk_number)]))]) [0, 1] rfl
    have hD9 := hD.sub (ws' := [(dk, .inr (8, [.ref dtp, .int (zI dk_tapeSize), .ref gk, .ref gs, .ref tg, .ref tsp, .ref tk, .ref gd, .ref tr, .ref wy, .ref wk, .int (zI v_), .int (zI tk_at)])), (tk, .inr (3, [.ref tp, .int (zI tk_size), .int (zI tk_behind), .int (zI tk_kind), .int (zI tk_at), .long (lI tk_name), .long (lI tk_number)]))]) [0, 1] (by decide) rfl
    have hK9 := hK.sub (tys' := []) [] rfl
    exact W.vret hx hb hr (fun t ht hW => ⟨⟨(), rfl, trivial, tk_at, (by rw [if_neg (by omega)]), by rw [ht]; exact hP9, va_K.moved hW.alike hK9, hD9⟩, hS.F ht⟩) hS.2.2 dX8_keepFault_24
  · refine lv_iconst (v := zI (-1)) hx hb dX8_keepFault_10 rfl ?_
    refine lv_goto (tgt := 21) hx hb dX8_keepFault_11 (by decide) ?_
    refine va_put (D := (dC, dI)) (ci := 8) (v := .int (zI (-1))) (ty := .int) (C := RX8) (T := TX8) (N := 13) hx hb hg inG_X8 tyX8 tyX8_ok nmX8 hown hK hP hD hS 0 rfl rfl 12 (by decide) (hg (.fieldLink RX8 85 "AttributeDesk" "latestPlace" "I") gw_2_172) (fun _ h9 => h9) rfl (by decide +kernel) rfl rfl (Nat.le_of_ble_eq_true rfl) dX8_keepFault_21 (fun H locs hP hD hS => ?_)
    have hP : va_P (dC, dI) vwCl [(dk, .inr (8, [.ref dtp, .int (zI dk_tapeSize), .ref gk, .ref gs, .ref tg, .ref tsp, .ref tk, .ref gd, .ref tr, .ref wy, .ref wk, .int (zI v_), .int (zI (-1))])), (tk, .inr (3, [.ref tp, .int (zI tk_size), .int (zI tk_behind), .int (zI tk_kind), .int (zI tk_at), .long (lI tk_name), .long (lI tk_number)]))] H := hP
    have hD : va_D A [(dk, .inr (8, [.ref dtp, .int (zI dk_tapeSize), .ref gk, .ref gs, .ref tg, .ref tsp, .ref tk, .ref gd, .ref tr, .ref wy, .ref wk, .int (zI v_), .int (zI (-1))])), (tk, .inr (3, [.ref tp, .int (zI tk_size), .int (zI tk_behind), .int (zI tk_kind), .int (zI tk_at), .long (lI tk_name), .long (lI tk_number)]))] := hD
    have hP9 := hP.sub (ws' := [(dk, .inr (8, [.ref dtp, .int (zI dk_tapeSize), .ref gk, .ref gs, .ref tg, .ref tsp, .ref tk, .ref gd, .ref tr, .ref wy, .ref wk, .int (zI v_), .int (zI (-1))])), (tk, .inr (3, [.ref tp, .int (zI tk_size), .int (zI tk_behind), .int (zI tk_kind), .int (zI tk_at), .long (lI tk_name), .long (lI tk_number)]))]) [0, 1] rfl
    have hD9 := hD.sub (ws' := [(dk, .inr (8, [.ref dtp, .int (zI dk_tapeSize), .ref gk, .ref gs, .ref tg, .ref tsp, .ref tk, .ref gd, .ref tr, .ref wy, .ref wk, .int (zI v_), .int (zI (-1))])), (tk, .inr (3, [.ref tp, .int (zI tk_size), .int (zI tk_behind), .int (zI tk_kind), .int (zI tk_at), .long (lI tk_name), .long (lI tk_number)]))]) [0, 1] (by decide) rfl
    have hK9 := hK.sub (tys' := []) [] rfl
    exact W.vret hx hb hr (fun t ht hW => ⟨⟨(), rfl, trivial, (-1), (by rw [if_pos (by omega)]), by rw [ht]; exact hP9, va_K.moved hW.alike hK9, hD9⟩, hS.F ht⟩) hS.2.2 dX8_keepFault_24

set_option maxHeartbeats 4000000 in
set_option maxRecDepth 100000 in
theorem c_X8_fault (l : Launch) (dC : Nat → ClassId) (dI : Nat → Nat → Nat) (dk dtp gk gs tg tsp tk gd tr wy wk : Nat) (sz : Nat) (dk_tapeSize : Int) (dk_latestFault : Int) (dk_latestPlace : Int) (v_ : Int) (hv_ : -2147483648 ≤ v_ ∧ v_ < 2147483648) : Met l yX8_fault wyX8_fault ({ frames := 0, cells := 0, slots := 0, locals := 0 }) (va_Pc [.ref dk, .int (zI v_)] (fun U => U.heap.size = sz ∧ va_P (dC, dI) vwCl [(dk, .inr (8, [.ref dtp, .int (zI dk_tapeSize), .ref gk, .ref gs, .ref tg, .ref tsp, .ref tk, .ref gd, .ref tr, .ref wy, .ref wk, .int (zI dk_latestFault), .int (zI dk_latestPlace)]))] U.heap ∧ va_K (dC, dI) vwCl [] U ∧ va_D (fun _ => True) [(dk, .inr (8, [.ref dtp, .int (zI dk_tapeSize), .ref gk, .ref gs, .ref tg, .ref tsp, .ref tk, .ref gd, .ref tr, .ref wy, .ref wk, .int (zI dk_latestFault), .int (zI dk_latestPlace)]))])) (va_Qi (fun (rr : Int32) (r : Int) => rr = zI r) (fun r t => (r = if v_ = 0 then dk_latestFault else if v_ = 1 then dk_latestPlace else -1) ∧ va_P (dC, dI) vwCl [(dk, .inr (8, [.ref dtp, .int (zI dk_tapeSize), .ref gk, .ref gs, .ref tg, .ref tsp, .ref tk, .ref gd, .ref tr, .ref wy, .ref wk, .int (zI dk_latestFault), .int (zI dk_latestPlace)]))] t.heap ∧ va_K (dC, dI) vwCl [] t ∧ va_D (va_A [(dk, .inr (8, [.ref dtp, .int (zI dk_tapeSize), .ref gk, .ref gs, .ref tg, .ref tsp, .ref tk, .ref gd, .ref tr, .ref wy, .ref wk, .int (zI dk_latestFault), .int (zI dk_latestPlace)]))] sz) [(dk, .inr (8, [.ref dtp, .int (zI dk_tapeSize), .ref gk, .ref gs, .ref tg, .ref tsp, .ref tk, .ref gd, .ref tr, .ref wy, .ref wk, .int (zI dk_latestFault), .int (zI dk_latestPlace)]))]) (va_A [(dk, .inr (8, [.ref dtp, .int (zI dk_tapeSize), .ref gk, .ref gs, .ref tg, .ref tsp, .ref tk, .ref gd, .ref tr, .ref wy, .ref wk, .int (zI dk_latestFault), .int (zI dk_latestPlace)]))] sz)) 0 0 (va_A [(dk, .inr (8, [.ref dtp, .int (zI dk_tapeSize), .ref gk, .ref gs, .ref tg, .ref tsp, .ref tk, .ref gd, .ref tr, .ref wy, .ref wk, .int (zI dk_latestFault), .int (zI dk_latestPlace)]))] sz) := by
  refine Met.ofW (cc := cX8_fault) (maxL := 2) (ret := (some .int)) (by decide) rfl ?_
  intro p e s m args below meth c s₁ B hml hv
  obtain ⟨rfl, hsz, hP, hK, hD0⟩ := hv
  have hx := B.exec
  have hb := B.bytes
  have hr := B.returns
  have hts := atoms_spec (ws := wyX8_fault) B.pre
  have hg : ∀ w ∈ lw_G, w.before _ s = true := fun w h => hts w (List.mem_cons_of_mem _ h)
  have hown : s.vm.findClass RX8 = some m.cls := findClass_of_methodNamed B.named
  have hlocks := B.notSynchronized
  subst hsz
  have hD := hD0.self (sz := s.heap.size)
  generalize hAe : va_A [(dk, .inr (8, [.ref dtp, .int (zI dk_tapeSize), .ref gk, .ref gs, .ref tg, .ref tsp, .ref tk, .ref gd, .ref tr, .ref wy, .ref wk, .int (zI dk_latestFault), .int (zI dk_latestPlace)]))] s.heap.size = A at hD ⊢
  have hA : ∀ q : Nat, s.heap.size ≤ q → A q := fun q h => by rw [← hAe]; exact Or.inr h
  have hS : va_S A s.heap s.heap [] := va_S.rf
  have hP : va_P (dC, dI) vwCl [(dk, .inr (8, [.ref dtp, .int (zI dk_tapeSize), .ref gk, .ref gs, .ref tg, .ref tsp, .ref tk, .ref gd, .ref tr, .ref wy, .ref wk, .int (zI dk_latestFault), .int (zI dk_latestPlace)]))] s.heap := hP
  have hl := lv_entry ([.ref dk, .int (zI v_)]) (n := 2) (Nat.le_of_ble_eq_true rfl)
  rw [lg_entry_eq]
  generalize (lg_sl ([.ref dk, .int (zI v_)]) ++ List.replicate (2 - (lg_sl ([.ref dk, .int (zI v_)])).length) Slot.unset).toArray = ls at hl ⊢
  have hl : lv_has ls 2 [(0, .ref dk), (1, .int (zI v_))] := hl
  refine lv_iload_n hx hb dX8_fault_0 rfl (lv_at hl 1 rfl) ?_
  refine zv_if_ne (tgt := 9) hx hb dX8_fault_1 (by decide) (by omega) (fun c1 => ?_) (fun c1 => ?_)
  · refine lv_iload_n hx hb dX8_fault_9 rfl (lv_at hl 1 rfl) ?_
    refine lv_iconst (v := zI 1) hx hb dX8_fault_10 rfl ?_
    refine zv_icmp_ne (tgt := 21) hx hb dX8_fault_11 (by decide) (by omega) (by decide) (fun c2 => ?_) (fun c2 => ?_)
    · refine lv_iconst (v := zI (-1)) hx hb dX8_fault_21 rfl ?_
      have hP9 := hP.sub (ws' := [(dk, .inr (8, [.ref dtp, .int (zI dk_tapeSize), .ref gk, .ref gs, .ref tg, .ref tsp, .ref tk, .ref gd, .ref tr, .ref wy, .ref wk, .int (zI dk_latestFault), .int (zI dk_latestPlace)]))]) [0] rfl
      have hD9 := hD.sub (ws' := [(dk, .inr (8, [.ref dtp, .int (zI dk_tapeSize), .ref gk, .ref gs, .ref tg, .ref tsp, .ref tk, .ref gd, .ref tr, .ref wy, .ref wk, .int (zI dk_latestFault), .int (zI dk_latestPlace)]))]) [0] (by decide) rfl
      have hK9 := hK.sub (tys' := []) [] rfl
      exact W.iret (v := zI (-1)) hx hb hr (fun t ht hW => ⟨⟨zI (-1), (-1), rfl, rfl, (by rw [if_neg (by omega), if_neg (by omega)]), by rw [ht]; exact hP9, va_K.moved hW.alike hK9, hD9⟩, hS.F ht⟩) hS.2.2 dX8_fault_22
    · refine lv_aload_n hx hb dX8_fault_14 rfl (lv_at hl 0 rfl) ?_
      refine va_get (D := (dC, dI)) (ci := 8) (v := .int (zI dk_latestPlace)) (C := RX8) (T := TX8) (N := 13) hx hb hg inG_X8 hown hK hP 0 rfl rfl 12 (by decide) (hg (.fieldLink RX8 85 "AttributeDesk" "latestPlace" "I") gw_2_172) (fun _ h9 => h9) rfl dX8_fault_15 ?_
      refine lv_goto (tgt := 22) hx hb dX8_fault_18 (by decide) ?_
      have hP9 := hP.sub (ws' := [(dk, .inr (8, [.ref dtp, .int (zI dk_tapeSize), .ref gk, .ref gs, .ref tg, .ref tsp, .ref tk, .ref gd, .ref tr, .ref wy, .ref wk, .int (zI dk_latestFault), .int (zI dk_latestPlace)]))]) [0] rfl
      have hD9 := hD.sub (ws' := [(dk, .inr (8, [.ref dtp, .int (zI dk_tapeSize), .ref gk, .ref gs, .ref tg, .ref tsp, .ref tk, .ref gd, .ref tr, .ref wy, .ref wk, .int (zI dk_latestFault), .int (zI dk_latestPlace)]))]) [0] (by decide) rfl
      have hK9 := hK.sub (tys' := []) [] rfl
      exact W.iret (v := zI dk_latestPlace) hx hb hr (fun t ht hW => ⟨⟨zI dk_latestPlace, dk_latestPlace, rfl, rfl, (by rw [if_neg (by omega), if_pos (by omega)]), by rw [ht]; exact hP9, va_K.moved hW.alike hK9, hD9⟩, hS.F ht⟩) hS.2.2 dX8_fault_22
  · refine lv_aload_n hx hb dX8_fault_4 rfl (lv_at hl 0 rfl) ?_
    refine va_get (D := (dC, dI)) (ci := 8) (v := .int (zI dk_latestFault)) (C := RX8) (T := TX8) (N := 13) hx hb hg inG_X8 hown hK hP 0 rfl rfl 11 (by decide) (hg (.fieldLink RX8 82 "AttributeDesk" "latestFault" "I") gw_2_171) (fun _ h9 => h9) rfl dX8_fault_5 ?_
    have hP9 := hP.sub (ws' := [(dk, .inr (8, [.ref dtp, .int (zI dk_tapeSize), .ref gk, .ref gs, .ref tg, .ref tsp, .ref tk, .ref gd, .ref tr, .ref wy, .ref wk, .int (zI dk_latestFault), .int (zI dk_latestPlace)]))]) [0] rfl
    have hD9 := hD.sub (ws' := [(dk, .inr (8, [.ref dtp, .int (zI dk_tapeSize), .ref gk, .ref gs, .ref tg, .ref tsp, .ref tk, .ref gd, .ref tr, .ref wy, .ref wk, .int (zI dk_latestFault), .int (zI dk_latestPlace)]))]) [0] (by decide) rfl
    have hK9 := hK.sub (tys' := []) [] rfl
    exact W.iret (v := zI dk_latestFault) hx hb hr (fun t ht hW => ⟨⟨zI dk_latestFault, dk_latestFault, rfl, rfl, (by rw [if_pos (by omega)]), by rw [ht]; exact hP9, va_K.moved hW.alike hK9, hD9⟩, hS.F ht⟩) hS.2.2 dX8_fault_8
