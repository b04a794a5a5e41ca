set_option maxHeartbeats 4000000 in
set_option maxRecDepth 100000 in
theorem c_X8_putWord_0 (l : Launch) (dC : Nat → ClassId) (dI : Nat → Nat → Nat) (ah0 ae0 ae1 ae2 ae3 ae4 ae5 ae6 ae7 ae8 ae9 : Nat) (ae10 : ClassId) (sz : Nat) (p0 : Int32) (f0 : Nat → Int32) : Met l yX8_putWord wyX8_putWord ({ frames := 0, cells := 0, slots := 0, locals := 0 }) (va_Pc [.ref ah0, .int p0] (fun U => U.heap.size = sz ∧ va_P (dC, dI) vwCl [(ah0, .inr (8, [.ref ae0, .int 0, .ref ae1, .ref ae2, .ref ae3, .ref ae4, .ref ae5, .ref ae6, .ref ae7, .ref ae8, .ref ae9, .int (-1), .int (-1)])), (ae0, .inl (ae10, 3000, .inl f0))] U.heap ∧ va_K (dC, dI) vwCl [(ae10, .byte)] U ∧ va_D (fun _ => True) [(ah0, .inr (8, [.ref ae0, .int 0, .ref ae1, .ref ae2, .ref ae3, .ref ae4, .ref ae5, .ref ae6, .ref ae7, .ref ae8, .ref ae9, .int (-1), .int (-1)])), (ae0, .inl (ae10, 3000, .inl f0))])) (va_Qv (fun _ : Unit => True) (fun _ t => ∃ (e0 : Nat → Int32), va_P (dC, dI) vwCl [(ah0, .inr (8, [.ref ae0, .int 4, .ref ae1, .ref ae2, .ref ae3, .ref ae4, .ref ae5, .ref ae6, .ref ae7, .ref ae8, .ref ae9, .int (-1), .int (-1)])), (ae0, .inl (ae10, 3000, .inl e0))] t.heap ∧ va_K (dC, dI) vwCl [(ae10, .byte)] t ∧ va_D (va_A [(ah0, .inr (8, [.ref ae0, .int 0, .ref ae1, .ref ae2, .ref ae3, .ref ae4, .ref ae5, .ref ae6, .ref ae7, .ref ae8, .ref ae9, .int (-1), .int (-1)])), (ae0, .inl (ae10, 3000, .inl f0))] sz) [(ah0, .inr (8, [.ref ae0, .int 4, .ref ae1, .ref ae2, .ref ae3, .ref ae4, .ref ae5, .ref ae6, .ref ae7, .ref ae8, .ref ae9, .int (-1), .int (-1)])), (ae0, .inl (ae10, 3000, .inl e0))]) (va_A [(ah0, .inr (8, [.ref ae0, .int 0, .ref ae1, .ref ae2, .ref ae3, .ref ae4, .ref ae5, .ref ae6, .ref ae7, .ref ae8, .ref ae9, .int (-1), .int (-1)])), (ae0, .inl (ae10, 3000, .inl f0))] sz)) 0 0 (va_A [(ah0, .inr (8, [.ref ae0, .int 0, .ref ae1, .ref ae2, .ref ae3, .ref ae4, .ref ae5, .ref ae6, .ref ae7, .ref ae8, .ref ae9, .int (-1), .int (-1)])), (ae0, .inl (ae10, 3000, .inl f0))] sz) := by
  refine Met.ofW (cc := cX8_putWord) (maxL := 3) (ret := none) (by decide) rfl ?_
  intro p e s m args below meth c s₁ B hml hv
  obtain ⟨rfl, hsz, hP, hK, hD0⟩ := hv
  have hx := B.exec
  have hb := B.bytes
  have hr := B.returns
  have hts := atoms_spec (ws := wyX8_putWord) B.pre
  have hg : ∀ w ∈ lw_G, w.before _ s = true := fun w h => hts w (List.mem_cons_of_mem _ h)
  have hown : s.vm.findClass RX8 = some m.cls := findClass_of_methodNamed B.named
  have hlocks := B.notSynchronized
  subst hsz
  have hD := hD0.self (sz := s.heap.size)
  generalize hAe : va_A [(ah0, .inr (8, [.ref ae0, .int 0, .ref ae1, .ref ae2, .ref ae3, .ref ae4, .ref ae5, .ref ae6, .ref ae7, .ref ae8, .ref ae9, .int (-1), .int (-1)])), (ae0, .inl (ae10, 3000, .inl f0))] s.heap.size = A at hD ⊢
  have hA : ∀ q : Nat, s.heap.size ≤ q → A q := fun q h => by rw [← hAe]; exact Or.inr h
  have hS : va_S A s.heap s.heap [] := va_S.rf
  have hP : va_P (dC, dI) vwCl [(ah0, .inr (8, [.ref ae0, .int 0, .ref ae1, .ref ae2, .ref ae3, .ref ae4, .ref ae5, .ref ae6, .ref ae7, .ref ae8, .ref ae9, .int (-1), .int (-1)])), (ae0, .inl (ae10, 3000, .inl f0))] s.heap := hP
  have hl := lv_entry ([.ref ah0, .int p0]) (n := 3) (Nat.le_of_ble_eq_true rfl)
  rw [lg_entry_eq]
  generalize (lg_sl ([.ref ah0, .int p0]) ++ List.replicate (3 - (lg_sl ([.ref ah0, .int p0])).length) Slot.unset).toArray = ls at hl ⊢
  have hl : lv_has ls 3 [(0, .ref ah0), (1, .int p0)] := hl
  refine lv_bipush (v := 24) hx hb dX8_putWord_0 (by decide) ?_
  refine lv_istore_n (lv' := [(2, .int 24), (0, .ref ah0), (1, .int p0)]) hx hb dX8_putWord_2 rfl hl (by decide) rfl (fun ls hl => ?_)
  refine lv_iload_n hx hb dX8_putWord_3 rfl (lv_at hl 0 rfl) ?_
  refine lv_if_lt (tgt := 46) hx hb dX8_putWord_4 (by decide) (fun c1 => absurd c1 (by decide)) (fun _ => ?_)
  refine lv_aload_n hx hb dX8_putWord_7 rfl (lv_at hl 1 rfl) ?_
  refine va_get (D := (dC, dI)) (ci := 8) (v := .int 0) (C := RX8) (T := TX8) (N := 13) hx hb hg inG_X8 hown hK hP 0 rfl rfl 1 (by decide) (hg (.fieldLink RX8 13 "AttributeDesk" "tapeSize" "I") gw_2_161) (fun _ h9 => h9) rfl dX8_putWord_8 ?_
  refine lv_sipush (v := 3000) hx hb dX8_putWord_11 (by decide) ?_
  refine lv_icmp_ge (tgt := 46) hx hb dX8_putWord_14 (by decide) (fun c2 => absurd c2 (by decide)) (fun _ => ?_)
  refine lv_aload_n hx hb dX8_putWord_17 rfl (lv_at hl 1 rfl) ?_
  refine va_get (D := (dC, dI)) (ci := 8) (v := .ref ae0) (C := RX8) (T := TX8) (N := 13) hx hb hg inG_X8 hown hK hP 0 rfl rfl 0 (by decide) (hg (.fieldLink RX8 9 "AttributeDesk" "tape" "[B") gw_2_160) (fun _ h9 => h9) rfl dX8_putWord_18 ?_
  refine lv_aload_n hx hb dX8_putWord_21 rfl (lv_at hl 1 rfl) ?_
  refine va_get (D := (dC, dI)) (ci := 8) (v := .int 0) (C := RX8) (T := TX8) (N := 13) hx hb hg inG_X8 hown hK hP 0 rfl rfl 1 (by decide) (hg (.fieldLink RX8 13 "AttributeDesk" "tapeSize" "I") gw_2_161) (fun _ h9 => h9) rfl dX8_putWord_22 ?_
  refine lv_iload_n hx hb dX8_putWord_25 rfl (lv_at hl 2 rfl) ?_
  refine lv_iload_n hx hb dX8_putWord_26 rfl (lv_at hl 0 rfl) ?_
  refine lv_ishr hx hb dX8_putWord_27 ?_
  refine lv_topi (fun x3 ex3 => ?_)
  refine lv_i2b hx hb dX8_putWord_28 rfl ?_
  refine lv_topi (fun x4 ex4 => ?_)
  refine va_bast (D := (dC, dI)) hx hb hK hP hD hS 1 0 rfl rfl (by unfold vp_in; decide) dX8_putWord_29 (fun H locs hP hD hS => ?_)
  obtain ⟨f5, ef5⟩ : ∃ g : Nat → Int32, g = upd f0 (0 : Int32).toNatClampNeg (vp_nar .byte x4) := ⟨_, rfl⟩
  have hP : va_P (dC, dI) vwCl [(ah0, .inr (8, [.ref ae0, .int 0, .ref ae1, .ref ae2, .ref ae3, .ref ae4, .ref ae5, .ref ae6, .ref ae7, .ref ae8, .ref ae9, .int (-1), .int (-1)])), (ae0, .inl (ae10, 3000, .inl f5))] H := by rw [ef5]; exact hP
  have hD : va_D A [(ah0, .inr (8, [.ref ae0, .int 0, .ref ae1, .ref ae2, .ref ae3, .ref ae4, .ref ae5, .ref ae6, .ref ae7, .ref ae8, .ref ae9, .int (-1), .int (-1)])), (ae0, .inl (ae10, 3000, .inl f5))] := by rw [ef5]; exact hD
  refine lv_aload_n hx hb dX8_putWord_30 rfl (lv_at hl 1 rfl) ?_
  refine lv_dup hx hb dX8_putWord_31 rfl ?_
  refine va_get (D := (dC, dI)) (ci := 8) (v := .int 0) (C := RX8) (T := TX8) (N := 13) hx hb hg inG_X8 hown hK hP 0 rfl rfl 1 (by decide) (hg (.fieldLink RX8 13 "AttributeDesk" "tapeSize" "I") gw_2_161) (fun _ h9 => h9) rfl dX8_putWord_32 ?_
  refine lv_iconst (v := 1) hx hb dX8_putWord_35 (by decide) ?_
  refine lv_iadd hx hb dX8_putWord_36 ?_
  refine lv_topi (fun x6 ex6 => ?_)
  obtain rfl : x6 = 1 := ex6.trans (by decide)
  refine va_put (D := (dC, dI)) (ci := 8) (v := .int 1) (ty := .int) (C := RX8) (T := TX8) (N := 13) hx hb hg inG_X8 tyX8 tyX8_ok nmX8 hown hK hP hD hS 0 rfl rfl 1 (by decide) (hg (.fieldLink RX8 13 "AttributeDesk" "tapeSize" "I") gw_2_161) (fun _ h9 => h9) rfl (by decide +kernel) rfl rfl (Nat.le_of_ble_eq_true rfl) dX8_putWord_37 (fun H locs hP hD hS => ?_)
  have hP : va_P (dC, dI) vwCl [(ah0, .inr (8, [.ref ae0, .int 1, .ref ae1, .ref ae2, .ref ae3, .ref ae4, .ref ae5, .ref ae6, .ref ae7, .ref ae8, .ref ae9, .int (-1), .int (-1)])), (ae0, .inl (ae10, 3000, .inl f5))] H := hP
  have hD : va_D A [(ah0, .inr (8, [.ref ae0, .int 1, .ref ae1, .ref ae2, .ref ae3, .ref ae4, .ref ae5, .ref ae6, .ref ae7, .ref ae8, .ref ae9, .int (-1), .int (-1)])), (ae0, .inl (ae10, 3000, .inl f5))] := hD
  refine lv_iinc (v := 16) (lv' := [(2, .int 16), (0, .ref ah0), (1, .int p0)]) hx hb dX8_putWord_40 hl (k := 0) rfl (by decide) (by decide) rfl (fun ls hl => ?_)
  refine lv_goto (tgt := 3) hx hb dX8_putWord_43 (by decide) ?_
  refine lv_iload_n hx hb dX8_putWord_3 rfl (lv_at hl 0 rfl) ?_
  refine lv_if_lt (tgt := 46) hx hb dX8_putWord_4 (by decide) (fun c7 => absurd c7 (by decide)) (fun _ => ?_)
  refine lv_aload_n hx hb dX8_putWord_7 rfl (lv_at hl 1 rfl) ?_
  refine va_get (D := (dC, dI)) (ci := 8) (v := .int 1) (C := RX8) (T := TX8) (N := 13) hx hb hg inG_X8 hown hK hP 0 rfl rfl 1 (by decide) (hg (.fieldLink RX8 13 "AttributeDesk" "tapeSize" "I") gw_2_161) (fun _ h9 => h9) rfl dX8_putWord_8 ?_
  refine lv_sipush (v := 3000) hx hb dX8_putWord_11 (by decide) ?_
  refine lv_icmp_ge (tgt := 46) hx hb dX8_putWord_14 (by decide) (fun c8 => absurd c8 (by decide)) (fun _ => ?_)
  refine lv_aload_n hx hb dX8_putWord_17 rfl (lv_at hl 1 rfl) ?_
  refine va_get (D := (dC, dI)) (ci := 8) (v := .ref ae0) (C := RX8) (T := TX8) (N := 13) hx hb hg inG_X8 hown hK hP 0 rfl rfl 0 (by decide) (hg (.fieldLink RX8 9 "AttributeDesk" "tape" "[B") gw_2_160) (fun _ h9 => h9) rfl dX8_putWord_18 ?_
  refine lv_aload_n hx hb dX8_putWord_21 rfl (lv_at hl 1 rfl) ?_
  refine va_get (D := (dC, dI)) (ci := 8) (v := .int 1) (C := RX8) (T := TX8) (N := 13) hx hb hg inG_X8 hown hK hP 0 rfl rfl 1 (by decide) (hg (.fieldLink RX8 13 "AttributeDesk" "tapeSize" "I") gw_2_161) (fun _ h9 => h9) rfl dX8_putWord_22 ?_
  refine lv_iload_n hx hb dX8_putWord_25 rfl (lv_at hl 2 rfl) ?_
  refine lv_iload_n hx hb dX8_putWord_26 rfl (lv_at hl 0 rfl) ?_
  refine lv_ishr hx hb dX8_putWord_27 ?_
  refine lv_topi (fun x9 ex9 => ?_)
  refine lv_i2b hx hb dX8_putWord_28 rfl ?_
  refine lv_topi (fun x10 ex10 => ?_)
  refine va_bast (D := (dC, dI)) hx hb hK hP hD hS 1 0 rfl rfl (by unfold vp_in; decide) dX8_putWord_29 (fun H locs hP hD hS => ?_)
  obtain ⟨f11, ef11⟩ : ∃ g : Nat → Int32, g = upd f5 (1 : Int32).toNatClampNeg (vp_nar .byte x10) := ⟨_, rfl⟩
  have hP : va_P (dC, dI) vwCl [(ah0, .inr (8, [.ref ae0, .int 1, .ref ae1, .ref ae2, .ref ae3, .ref ae4, .ref ae5, .ref ae6, .ref ae7, .ref ae8, .ref ae9, .int (-1), .int (-1)])), (ae0, .inl (ae10, 3000, .inl f11))] H := by rw [ef11]; exact hP
  have hD : va_D A [(ah0, .inr (8, [.ref ae0, .int 1, .ref ae1, .ref ae2, .ref ae3, .ref ae4, .ref ae5, .ref ae6, .ref ae7, .ref ae8, .ref ae9, .int (-1), .int (-1)])), (ae0, .inl (ae10, 3000, .inl f11))] := by rw [ef11]; exact hD
  refine lv_aload_n hx hb dX8_putWord_30 rfl (lv_at hl 1 rfl) ?_
  refine lv_dup hx hb dX8_putWord_31 rfl ?_
  refine va_get (D := (dC, dI)) (ci := 8) (v := .int 1) (C := RX8) (T := TX8) (N := 13) hx hb hg inG_X8 hown hK hP 0 rfl rfl 1 (by decide) (hg (.fieldLink RX8 13 "AttributeDesk" "tapeSize" "I") gw_2_161) (fun _ h9 => h9) rfl dX8_putWord_32 ?_
  refine lv_iconst (v := 1) hx hb dX8_putWord_35 (by decide) ?_
  refine lv_iadd hx hb dX8_putWord_36 ?_
  refine lv_topi (fun x12 ex12 => ?_)
  obtain rfl : x12 = 2 := ex12.trans (by decide)
  refine va_put (D := (dC, dI)) (ci := 8) (v := .int 2) (ty := .int) (C := RX8) (T := TX8) (N := 13) hx hb hg inG_X8 tyX8 tyX8_ok nmX8 hown hK hP hD hS 0 rfl rfl 1 (by decide) (hg (.fieldLink RX8 13 "AttributeDesk" "tapeSize" "I") gw_2_161) (fun _ h9 => h9) rfl (by decide +kernel) rfl rfl (Nat.le_of_ble_eq_true rfl) dX8_putWord_37 (fun H locs hP hD hS => ?_)
  have hP : va_P (dC, dI) vwCl [(ah0, .inr (8, [.ref ae0, .int 2, .ref ae1, .ref ae2, .ref ae3, .ref ae4, .ref ae5, .ref ae6, .ref ae7, .ref ae8, .ref ae9, .int (-1), .int (-1)])), (ae0, .inl (ae10, 3000, .inl f11))] H := hP
  have hD : va_D A [(ah0, .inr (8, [.ref ae0, .int 2, .ref ae1, .ref ae2, .ref ae3, .ref ae4, .ref ae5, .ref ae6, .ref ae7, .ref ae8, .ref ae9, .int (-1), .int (-1)])), (ae0, .inl (ae10, 3000, .inl f11))] := hD
  refine lv_iinc (v := 8) (lv' := [(2, .int 8), (0, .ref ah0), (1, .int p0)]) hx hb dX8_putWord_40 hl (k := 0) rfl (by decide) (by decide) rfl (fun ls hl => ?_)
  refine lv_goto (tgt := 3) hx hb dX8_putWord_43 (by decide) ?_
  refine lv_iload_n hx hb dX8_putWord_3 rfl (lv_at hl 0 rfl) ?_
  refine lv_if_lt (tgt := 46) hx hb dX8_putWord_4 (by decide) (fun c13 => absurd c13 (by decide)) (fun _ => ?_)
  refine lv_aload_n hx hb dX8_putWord_7 rfl (lv_at hl 1 rfl) ?_
  refine va_get (D := (dC, dI)) (ci := 8) (v := .int 2) (C := RX8) (T := TX8) (N := 13) hx hb hg inG_X8 hown hK hP 0 rfl rfl 1 (by decide) (hg (.fieldLink RX8 13 "AttributeDesk" "tapeSize" "I") gw_2_161) (fun _ h9 => h9) rfl dX8_putWord_8 ?_
  refine lv_sipush (v := 3000) hx hb dX8_putWord_11 (by decide) ?_
  refine lv_icmp_ge (tgt := 46) hx hb dX8_putWord_14 (by decide) (fun c14 => absurd c14 (by decide)) (fun _ => ?_)
  refine lv_aload_n hx hb dX8_putWord_17 rfl (lv_at hl 1 rfl) ?_
  refine va_get (D := (dC, dI)) (ci := 8) (v := .ref ae0) (C := RX8) (T := TX8) (N := 13) hx hb hg inG_X8 hown hK hP 0 rfl rfl 0 (by decide) (hg (.fieldLink RX8 9 "AttributeDesk" "tape" "[B") gw_2_160) (fun _ h9 => h9) rfl dX8_putWord_18 ?_
  refine lv_aload_n hx hb dX8_putWord_21 rfl (lv_at hl 1 rfl) ?_
  refine va_get (D := (dC, dI)) (ci := 8) (v := .int 2) (C := RX8) (T := TX8) (N := 13) hx hb hg inG_X8 hown hK hP 0 rfl rfl 1 (by decide) (hg (.fieldLink RX8 13 "AttributeDesk" "tapeSize" "I") gw_2_161) (fun _ h9 => h9) rfl dX8_putWord_22 ?_
  refine lv_iload_n hx hb dX8_putWord_25 rfl (lv_at hl 2 rfl) ?_
  refine lv_iload_n hx hb dX8_putWord_26 rfl (lv_at hl 0 rfl) ?_
  refine lv_ishr hx hb dX8_putWord_27 ?_
  refine lv_topi (fun x15 ex15 => ?_)
  refine lv_i2b hx hb dX8_putWord_28 rfl ?_
  refine lv_topi (fun x16 ex16 => ?_)
  refine va_bast (D := (dC, dI)) hx hb hK hP hD hS 1 0 rfl rfl (by unfold vp_in; decide) dX8_putWord_29 (fun H locs hP hD hS => ?_)
  obtain ⟨f17, ef17⟩ : ∃ g : Nat → Int32, g = upd f11 (2 : Int32).toNatClampNeg (vp_nar .byte x16) := ⟨_, rfl⟩
  have hP : va_P (dC, dI) vwCl [(ah0, .inr (8, [.ref ae0, .int 2, .ref ae1, .ref ae2, .ref ae3, .ref ae4, .ref ae5, .ref ae6, .ref ae7, .ref ae8, .ref ae9, .int (-1), .int (-1)])), (ae0, .inl (ae10, 3000, .inl f17))] H := by rw [ef17]; exact hP
  have hD : va_D A [(ah0, .inr (8, [.ref ae0, .int 2, .ref ae1, .ref ae2, .ref ae3, .ref ae4, .ref ae5, .ref ae6, .ref ae7, .ref ae8, .ref ae9, .int (-1), .int (-1)])), (ae0, .inl (ae10, 3000, .inl f17))] := by rw [ef17]; exact hD
  refine lv_aload_n hx hb dX8_putWord_30 rfl (lv_at hl 1 rfl) ?_
  refine lv_dup hx hb dX8_putWord_31 rfl ?_
  refine va_get (D := (dC, dI)) (ci := 8) (v := .int 2) (C := RX8) (T := TX8) (N := 13) hx hb hg inG_X8 hown hK hP 0 rfl rfl 1 (by decide) (hg (.fieldLink RX8 13 "AttributeDesk" "tapeSize" "I") gw_2_161) (fun _ h9 => h9) rfl dX8_putWord_32 ?_
  refine lv_iconst (v := 1) hx hb dX8_putWord_35 (by decide) ?_
  refine lv_iadd hx hb dX8_putWord_36 ?_
  refine lv_topi (fun x18 ex18 => ?_)
  obtain rfl : x18 = 3 := ex18.trans (by decide)
  refine va_put (D := (dC, dI)) (ci := 8) (v := .int 3) (ty := .int) (C := RX8) (T := TX8) (N := 13) hx hb hg inG_X8 tyX8 tyX8_ok nmX8 hown hK hP hD hS 0 rfl rfl 1 (by decide) (hg (.fieldLink RX8 13 "AttributeDesk" "tapeSize" "I") gw_2_161) (fun _ h9 => h9) rfl (by decide +kernel) rfl rfl (Nat.le_of_ble_eq_true rfl) dX8_putWord_37 (fun H locs hP hD hS => ?_)
  have hP : va_P (dC, dI) vwCl [(ah0, .inr (8, [.ref ae0, .int 3, .ref ae1, .ref ae2, .ref ae3, .ref ae4, .ref ae5, .ref ae6, .ref ae7, .ref ae8, .ref ae9, .int (-1), .int (-1)])), (ae0, .inl (ae10, 3000, .inl f17))] H := hP
  have hD : va_D A [(ah0, .inr (8, [.ref ae0, .int 3, .ref ae1, .ref ae2, .ref ae3, .ref ae4, .ref ae5, .ref ae6, .ref ae7, .ref ae8, .ref ae9, .int (-1), .int (-1)])), (ae0, .inl (ae10, 3000, .inl f17))] := hD
  refine lv_iinc (v := 0) (lv' := [(2, .int 0), (0, .ref ah0), (1, .int p0)]) hx hb dX8_putWord_40 hl (k := 0) rfl (by decide) (by decide) rfl (fun ls hl => ?_)
  refine lv_goto (tgt := 3) hx hb dX8_putWord_43 (by decide) ?_
  refine lv_iload_n hx hb dX8_putWord_3 rfl (lv_at hl 0 rfl) ?_
  refine lv_if_lt (tgt := 46) hx hb dX8_putWord_4 (by decide) (fun c19 => absurd c19 (by decide)) (fun _ => ?_)
  refine lv_aload_n hx hb dX8_putWord_7 rfl (lv_at hl 1 rfl) ?_
  refine va_get (D := (dC, dI)) (ci := 8) (v := .int 3) (C := RX8) (T := TX8) (N := 13) hx hb hg inG_X8 hown hK hP 0 rfl rfl 1 (by decide) (hg (.fieldLink RX8 13 "AttributeDesk" "tapeSize" "I") gw_2_161) (fun _ h9 => h9) rfl dX8_putWord_8 ?_
  refine lv_sipush (v := 3000) hx hb dX8_putWord_11 (by decide) ?_
  refine lv_icmp_ge (tgt := 46) hx hb dX8_putWord_14 (by decide) (fun c20 => absurd c20 (by decide)) (fun _ => ?_)
  refine lv_aload_n hx hb dX8_putWord_17 rfl (lv_at hl 1 rfl) ?_
  refine va_get (D := (dC, dI)) (ci := 8) (v := .ref ae0) (C := RX8) (T := TX8) (N := 13) hx hb hg inG_X8 hown hK hP 0 rfl rfl 0 (by decide) (hg (.fieldLink RX8 9 "AttributeDesk" "tape" "[B") gw_2_160) (fun _ h9 => h9) rfl dX8_putWord_18 ?_
  refine lv_aload_n hx hb dX8_putWord_21 rfl (lv_at hl 1 rfl) ?_
  refine va_get (D := (dC, dI)) (ci := 8) (v := .int 3) (C := RX8) (T := TX8) (N := 13) hx hb hg inG_X8 hown hK hP 0 rfl rfl 1 (by decide) (hg (.fieldLink RX8 13 "AttributeDesk" "tapeSize" "I") gw_2_161) (fun _ h9 => h9) rfl dX8_putWord_22 ?_
  refine lv_iload_n hx hb dX8_putWord_25 rfl (lv_at hl 2 rfl) ?_
  refine lv_iload_n hx hb dX8_putWord_26 rfl (lv_at hl 0 rfl) ?_
  refine lv_ishr hx hb dX8_putWord_27 ?_
  refine lv_topi (fun x21 ex21 => ?_)
  refine lv_i2b hx hb dX8_putWord_28 rfl ?_
  refine lv_topi (fun x22 ex22 => ?_)
  refine va_bast (D := (dC, dI)) hx hb hK hP hD hS 1 0 rfl rfl (by unfold vp_in; decide) dX8_putWord_29 (fun H locs hP hD hS => ?_)
  obtain ⟨f23, ef23⟩ : ∃ g : Nat → Int32, g = upd f17 (3 : Int32).toNatClampNeg (vp_nar .byte x22) := ⟨_, rfl⟩
  have hP : va_P (dC, dI) vwCl [(ah0, .inr (8, [.ref ae0, .int 3, .ref ae1, .ref ae2, .ref ae3, .ref ae4, .ref ae5, .ref ae6, .ref ae7, .ref ae8, .ref ae9, .int (-1), .int (-1)])), (ae0, .inl (ae10, 3000, .inl f23))] H := by rw [ef23]; exact hP
  have hD : va_D A [(ah0, .inr (8, [.ref ae0, .int 3, .ref ae1, .ref ae2, .ref ae3, .ref ae4, .ref ae5, .ref ae6, .ref ae7, .ref ae8, .ref ae9, .int (-1), .int (-1)])), (ae0, .inl (ae10, 3000, .inl f23))] := by rw [ef23]; exact hD
  refine lv_aload_n hx hb dX8_putWord_30 rfl (lv_at hl 1 rfl) ?_
  refine lv_dup hx hb dX8_putWord_31 rfl ?_
  refine va_get (D := (dC, dI)) (ci := 8) (v := .int 3) (C := RX8) (T := TX8) (N := 13) hx hb hg inG_X8 hown hK hP 0 rfl rfl 1 (by decide) (hg (.fieldLink RX8 13 "AttributeDesk" "tapeSize" "I") gw_2_161) (fun _ h9 => h9) rfl dX8_putWord_32 ?_
  refine lv_iconst (v := 1) hx hb dX8_putWord_35 (by decide) ?_
  refine lv_iadd hx hb dX8_putWord_36 ?_
  refine lv_topi (fun x24 ex24 => ?_)
  obtain rfl : x24 = 4 := ex24.trans (by decide)
  refine va_put (D := (dC, dI)) (ci := 8) (v := .int 4) (ty := .int) (C := RX8) (T := TX8) (N := 13) hx hb hg inG_X8 tyX8 tyX8_ok nmX8 hown hK hP hD hS 0 rfl rfl 1 (by decide) (hg (.fieldLink RX8 13 "AttributeDesk" "tapeSize" "I") gw_2_161) (fun _ h9 => h9) rfl (by decide +kernel) rfl rfl (Nat.le_of_ble_eq_true rfl) dX8_putWord_37 (fun H locs hP hD hS => ?_)
  have hP : va_P (dC, dI) vwCl [(ah0, .inr (8, [.ref ae0, .int 4, .ref ae1, .ref ae2, .ref ae3, .ref ae4, .ref ae5, .ref ae6, .ref ae7, .ref ae8, .ref ae9, .int (-1), .int (-1)])), (ae0, .inl (ae10, 3000, .inl f23))] H := hP
  have hD : va_D A [(ah0, .inr (8, [.ref ae0, .int 4, .ref ae1, .ref ae2, .ref ae3, .ref ae4, .ref ae5, .ref ae6, .ref ae7, .ref ae8, .ref ae9, .int (-1), .int (-1)])), (ae0, .inl (ae10, 3000, .inl f23))] := hD
  refine lv_iinc (v := (-8)) (lv' := [(2, .int (-8)), (0, .ref ah0), (1, .int p0)]) hx hb dX8_putWord_40 hl (k := 0) rfl (by decide) (by decide) rfl (fun ls hl => ?_)
  refine lv_goto (tgt := 3) hx hb dX8_putWord_43 (by decide) ?_
  refine lv_iload_n hx hb dX8_putWord_3 rfl (lv_at hl 0 rfl) ?_
  refine lv_if_lt (tgt := 46) hx hb dX8_putWord_4 (by decide) (fun _ => ?_) (fun c25 => absurd c25 (by decide))
  have hP9 := hP.sub (ws' := [(ah0, .inr (8, [.ref ae0, .int 4, .ref ae1, .ref ae2, .ref ae3, .ref ae4, .ref ae5, .ref ae6, .ref ae7, .ref ae8, .ref ae9, .int (-1), .int (-1)])), (ae0, .inl (ae10, 3000, .inl f23))]) [0, 1] rfl
  have hD9 := hD.sub (ws' := [(ah0, .inr (8, [.ref ae0, .int 4, .ref ae1, .ref ae2, .ref ae3, .ref ae4, .ref ae5, .ref ae6, .ref ae7, .ref ae8, .ref ae9, .int (-1), .int (-1)])), (ae0, .inl (ae10, 3000, .inl f23))]) [0, 1] (by decide) rfl
  have hK9 := hK.sub (tys' := [(ae10, .byte)]) [0] rfl
  refine W.widen (k := 0) (n := 0) (Nat.le_of_ble_eq_true rfl) (Nat.le_of_ble_eq_true rfl) ?_
  exact W.vret hx hb hr (fun t ht hW => ⟨⟨(), rfl, trivial, f23, by rw [ht]; exact hP9, va_K.moved hW.alike hK9, hD9⟩, hS.F ht⟩) hS.2.2 dX8_putWord_46

set_option maxHeartbeats 4000000 in
set_option maxRecDepth 100000 in
theorem c_X8_putWord_4 (l : Launch) (dC : Nat → ClassId) (dI : Nat → Nat → Nat) (ah0 ae0 ae1 ae2 ae3 ae4 ae5 ae6 ae7 ae8 ae9 : Nat) (ae10 : ClassId) (sz : Nat) (p0 : Int32) (f0 : Nat → Int32) : Met l yX8_putWord wyX8_putWord ({ frames := 0, cells := 0, slots := 0, locals := 0 }) (va_Pc [.ref ah0, .int p0] (fun U => U.heap.size = sz ∧ va_P (dC, dI) vwCl [(ah0, .inr (8, [.ref ae0, .int 4, .ref ae1, .ref ae2, .ref ae3, .ref ae4, .ref ae5, .ref ae6, .ref ae7, .ref ae8, .ref ae9, .int (-1), .int (-1)])), (ae0, .inl (ae10, 3000, .inl f0))] U.heap ∧ va_K (dC, dI) vwCl [(ae10, .byte)] U ∧ va_D (fun _ => True) [(ah0, .inr (8, [.ref ae0, .int 4, .ref ae1, .ref ae2, .ref ae3, .ref ae4, .ref ae5, .ref ae6, .ref ae7, .ref ae8, .ref ae9, .int (-1), .int (-1)])), (ae0, .inl (ae10, 3000, .inl f0))])) (va_Qv (fun _ : Unit => True) (fun _ t => ∃ (e0 : Nat → Int32), va_P (dC, dI) vwCl [(ah0, .inr (8, [.ref ae0, .int 8, .ref ae1, .ref ae2, .ref ae3, .ref ae4, .ref ae5, .ref ae6, .ref ae7, .ref ae8, .ref ae9, .int (-1), .int (-1)])), (ae0, .inl (ae10, 3000, .inl e0))] t.heap ∧ va_K (dC, dI) vwCl [(ae10, .byte)] t ∧ va_D (va_A [(ah0, .inr (8, [.ref ae0, .int 4, .ref ae1, .ref ae2, .ref ae3, .ref ae4, .ref ae5, .ref ae6, .ref ae7, .ref ae8, .ref ae9, .int (-1), .int (-1)])), (ae0, .inl (ae10, 3000, .inl f0))] sz) [(ah0, .inr (8, [.ref ae0, .int 8, .ref ae1, .ref ae2, .ref ae3, .ref ae4, .ref ae5, .ref ae6, .ref ae7, .ref ae8, .ref ae9, .int (-1), .int (-1)])), (ae0, .inl (ae10, 3000, .inl e0))]) (va_A [(ah0, .inr (8, [.ref ae0, .int 4, .ref ae1, .ref ae2, .ref ae3, .ref ae4, .ref ae5, .ref ae6, .ref ae7, .ref ae8, .ref ae9, .int (-1), .int (-1)])), (ae0, .inl (ae10, 3000, .inl f0))] sz)) 0 0 (va_A [(ah0, .inr (8, [.ref ae0, .int 4, .ref ae1, .ref ae2, .ref ae3, .ref ae4, .ref ae5, .ref ae6, .ref ae7, .ref ae8, .ref ae9, .int (-1), .int (-1)])), (ae0, .inl (ae10, 3000, .inl f0))] sz) := by
  refine Met.ofW (cc := cX8_putWord) (maxL := 3) (ret := none) (by decide) rfl ?_
  intro p e s m args below meth c s₁ B hml hv
  obtain ⟨rfl, hsz, hP, hK, hD0⟩ := hv
  have hx := B.exec
  have hb := B.bytes
  have hr := B.returns
  have hts := atoms_spec (ws := wyX8_putWord) B.pre
  have hg : ∀ w ∈ lw_G, w.before _ s = true := fun w h => hts w (List.mem_cons_of_mem _ h)
  have hown : s.vm.findClass RX8 = some m.cls := findClass_of_methodNamed B.named
  have hlocks := B.notSynchronized
  subst hsz
  have hD := hD0.self (sz := s.heap.size)
  generalize hAe : va_A [(ah0, .inr (8, [.ref ae0, .int 4, .ref ae1, .ref ae2, .ref ae3, .ref ae4, .ref ae5, .ref ae6, .ref ae7, .ref ae8, .ref ae9, .int (-1), .int (-1)])), (ae0, .inl (ae10, 3000, .inl f0))] s.heap.size = A at hD ⊢
  have hA : ∀ q : Nat, s.heap.size ≤ q → A q := fun q h => by rw [← hAe]; exact Or.inr h
  have hS : va_S A s.heap s.heap [] := va_S.rf
  have hP : va_P (dC, dI) vwCl [(ah0, .inr (8, [.ref ae0, .int 4, .ref ae1, .ref ae2, .ref ae3, .ref ae4, .ref ae5, .ref ae6, .ref ae7, .ref ae8, .ref ae9, .int (-1), .int (-1)])), (ae0, .inl (ae10, 3000, .inl f0))] s.heap := hP
  have hl := lv_entry ([.ref ah0, .int p0]) (n := 3) (Nat.le_of_ble_eq_true rfl)
  rw [lg_entry_eq]
  generalize (lg_sl ([.ref ah0, .int p0]) ++ List.replicate (3 - (lg_sl ([.ref ah0, .int p0])).length) Slot.unset).toArray = ls at hl ⊢
  have hl : lv_has ls 3 [(0, .ref ah0), (1, .int p0)] := hl
  refine lv_bipush (v := 24) hx hb dX8_putWord_0 (by decide) ?_
  refine lv_istore_n (lv' := [(2, .int 24), (0, .ref ah0), (1, .int p0)]) hx hb dX8_putWord_2 rfl hl (by decide) rfl (fun ls hl => ?_)
  refine lv_iload_n hx hb dX8_putWord_3 rfl (lv_at hl 0 rfl) ?_
  refine lv_if_lt (tgt := 46) hx hb dX8_putWord_4 (by decide) (fun c1 => absurd c1 (by decide)) (fun _ => ?_)
  refine lv_aload_n hx hb dX8_putWord_7 rfl (lv_at hl 1 rfl) ?_
  refine va_get (D := (dC, dI)) (ci := 8) (v := .int 4) (C := RX8) (T := TX8) (N := 13) hx hb hg inG_X8 hown hK hP 0 rfl rfl 1 (by decide) (hg (.fieldLink RX8 13 "AttributeDesk" "tapeSize" "I") gw_2_161) (fun _ h9 => h9) rfl dX8_putWord_8 ?_
  refine lv_sipush (v := 3000) hx hb dX8_putWord_11 (by decide) ?_
  refine lv_icmp_ge (tgt := 46) hx hb dX8_putWord_14 (by decide) (fun c2 => absurd c2 (by decide)) (fun _ => ?_)
  refine lv_aload_n hx hb dX8_putWord_17 rfl (lv_at hl 1 rfl) ?_
  refine va_get (D := (dC, dI)) (ci := 8) (v := .ref ae0) (C := RX8) (T := TX8) (N := 13) hx hb hg inG_X8 hown hK hP 0 rfl rfl 0 (by decide) (hg (.fieldLink RX8 9 "AttributeDesk" "tape" "[B") gw_2_160) (fun _ h9 => h9) rfl dX8_putWord_18 ?_
  refine lv_aload_n hx hb dX8_putWord_21 rfl (lv_at hl 1 rfl) ?_
  refine va_get (D := (dC, dI)) (ci := 8) (v := .int 4) (C := RX8) (T := TX8) (N := 13) hx hb hg inG_X8 hown hK hP 0 rfl rfl 1 (by decide) (hg (.fieldLink RX8 13 "AttributeDesk" "tapeSize" "I") gw_2_161) (fun _ h9 => h9) rfl dX8_putWord_22 ?_
  refine lv_iload_n hx hb dX8_putWord_25 rfl (lv_at hl 2 rfl) ?_
  refine lv_iload_n hx hb dX8_putWord_26 rfl (lv_at hl 0 rfl) ?_
  refine lv_ishr hx hb dX8_putWord_27 ?_
  refine lv_topi (fun x3 ex3 => ?_)
  refine lv_i2b hx hb dX8_putWord_28 rfl ?_
  refine lv_topi (fun x4 ex4 => ?_)
  refine va_bast (D := (dC, dI)) hx hb hK hP hD hS 1 0 rfl rfl (by unfold vp_in; decide) dX8_putWord_29 (fun H locs hP hD hS => ?_)
  obtain ⟨f5, ef5⟩ : ∃ g : Nat → Int32, g = upd f0 (4 : Int32).toNatClampNeg (vp_nar .byte x4) := ⟨_, rfl⟩
  have hP : va_P (dC, dI) vwCl [(ah0, .inr (8, [.ref ae0, .int 4, .ref ae1, .ref ae2, .ref ae3, .ref ae4, .ref ae5, .ref ae6, .ref ae7, .ref ae8, .ref ae9, .int (-1), .int (-1)])), (ae0, .inl (ae10, 3000, .inl f5))] H := by rw [ef5]; exact hP
  have hD : va_D A [(ah0, .inr (8, [.ref ae0, .int 4, .ref ae1, .ref ae2, .ref ae3, .ref ae4, .ref ae5, .ref ae6, .ref ae7, .ref ae8, .ref ae9, .int (-1), .int (-1)])), (ae0, .inl (ae10, 3000, .inl f5))] := by rw [ef5]; exact hD
  refine lv_aload_n hx hb dX8_putWord_30 rfl (lv_at hl 1 rfl) ?_
  refine lv_dup hx hb dX8_putWord_31 rfl ?_
  refine va_get (D := (dC, dI)) (ci := 8) (v := .int 4) (C := RX8) (T := TX8) (N := 13) hx hb hg inG_X8 hown hK hP 0 rfl rfl 1 (by decide) (hg (.fieldLink RX8 13 "AttributeDesk" "tapeSize" "I") gw_2_161) (fun _ h9 => h9) rfl dX8_putWord_32 ?_
  refine lv_iconst (v := 1) hx hb dX8_putWord_35 (by decide) ?_
  refine lv_iadd hx hb dX8_putWord_36 ?_
  refine lv_topi (fun x6 ex6 => ?_)
  obtain rfl : x6 = 5 := ex6.trans (by decide)
  refine va_put (D := (dC, dI)) (ci := 8) (v := .int 5) (ty := .int) (C := RX8) (T := TX8) (N := 13) hx hb hg inG_X8 tyX8 tyX8_ok nmX8 hown hK hP hD hS 0 rfl rfl 1 (by decide) (hg (.fieldLink RX8 13 "AttributeDesk" "tapeSize" "I") gw_2_161) (fun _ h9 => h9) rfl (by decide +kernel) rfl rfl (Nat.le_of_ble_eq_true rfl) dX8_putWord_37 (fun H locs hP hD hS => ?_)
  have hP : va_P (dC, dI) vwCl [(ah0, .inr (8, [.ref ae0, .int 5, .ref ae1, .ref ae2, .ref ae3, .ref ae4, .ref ae5, .ref ae6, .ref ae7, .ref ae8, .ref ae9, .int (-1), .int (-1)])), (ae0, .inl (ae10, 3000, .inl f5))] H := hP
  have hD : va_D A [(ah0, .inr (8, [.ref ae0, .int 5, .ref ae1, .ref ae2, .ref ae3, .ref ae4, .ref ae5, .ref ae6, .ref ae7, .ref ae8, .ref ae9, .int (-1), .int (-1)])), (ae0, .inl (ae10, 3000, .inl f5))] := hD
  refine lv_iinc (v := 16) (lv' := [(2, .int 16), (0, .ref ah0), (1, .int p0)]) hx hb dX8_putWord_40 hl (k := 0) rfl (by decide) (by decide) rfl (fun ls hl => ?_)
  refine lv_goto (tgt := 3) hx hb dX8_putWord_43 (by decide) ?_
  refine lv_iload_n hx hb dX8_putWord_3 rfl (lv_at hl 0 rfl) ?_
  refine lv_if_lt (tgt := 46) hx hb dX8_putWord_4 (by decide) (fun c7 => absurd c7 (by decide)) (fun _ => ?_)
  refine lv_aload_n hx hb dX8_putWord_7 rfl (lv_at hl 1 rfl) ?_
  refine va_get (D := (dC, dI)) (ci := 8) (v := .int 5) (C := RX8) (T := TX8) (N := 13) hx hb hg inG_X8 hown hK hP 0 rfl rfl 1 (by decide) (hg (.fieldLink RX8 13 "AttributeDesk" "tapeSize" "I") gw_2_161) (fun _ h9 => h9) rfl dX8_putWord_8 ?_
  refine lv_sipush (v := 3000) hx hb dX8_putWord_11 (by decide) ?_
  refine lv_icmp_ge (tgt := 46) hx hb dX8_putWord_14 (by decide) (fun c8 => absurd c8 (by decide)) (fun _ => ?_)
  refine lv_aload_n hx hb dX8_putWord_17 rfl (lv_at hl 1 rfl) ?_
  refine va_get (D := (dC, dI)) (ci := 8) (v := .ref ae0) (C := RX8) (T := TX8) (N := 13) hx hb hg inG_X8 hown hK hP 0 rfl rfl 0 (by decide) (hg (.fieldLink RX8 9 "AttributeDesk" "tape" "[B") gw_2_160) (fun _ h9 => h9) rfl dX8_putWord_18 ?_
  refine lv_aload_n hx hb dX8_putWord_21 rfl (lv_at hl 1 rfl) ?_
  refine va_get (D := (dC, dI)) (ci := 8) (v := .int 5) (C := RX8) (T := TX8) (N := 13) hx hb hg inG_X8 hown hK hP 0 rfl rfl 1 (by decide) (hg (.fieldLink RX8 13 "AttributeDesk" "tapeSize" "I") gw_2_161) (fun _ h9 => h9) rfl dX8_putWord_22 ?_
  refine lv_iload_n hx hb dX8_putWord_25 rfl (lv_at hl 2 rfl) ?_
  refine lv_iload_n hx hb dX8_putWord_26 rfl (lv_at hl 0 rfl) ?_
  refine lv_ishr hx hb dX8_putWord_27 ?_
  refine lv_topi (fun x9 ex9 => ?_)
  refine lv_i2b hx hb dX8_putWord_28 rfl ?_
  refine lv_topi (fun x10 ex10 => ?_)
  refine va_bast (D := (dC, dI)) hx hb hK hP hD hS 1 0 rfl rfl (by unfold vp_in; decide) dX8_putWord_29 (fun H locs hP hD hS => ?_)
  obtain ⟨f11, ef11⟩ : ∃ g : Nat → Int32, g = upd f5 (5 : Int32).toNatClampNeg (vp_nar .byte x10) := ⟨_, rfl⟩
  have hP : va_P (dC, dI) vwCl [(ah0, .inr (8, [.ref ae0, .int 5, .ref ae1, .ref ae2, .ref ae3, .ref ae4, .ref ae5, .ref ae6, .ref ae7, .ref ae8, .ref ae9, .int (-1), .int (-1)])), (ae0, .inl (ae10, 3000, .inl f11))] H := by rw [ef11]; exact hP
  have hD : va_D A [(ah0, .inr (8, [.ref ae0, .int 5, .ref ae1, .ref ae2, .ref ae3, .ref ae4, .ref ae5, .ref ae6, .ref ae7, .ref ae8, .ref ae9, .int (-1), .int (-1)])), (ae0, .inl (ae10, 3000, .inl f11))] := by rw [ef11]; exact hD
  refine lv_aload_n hx hb dX8_putWord_30 rfl (lv_at hl 1 rfl) ?_
  refine lv_dup hx hb dX8_putWord_31 rfl ?_
  refine va_get (D := (dC, dI)) (ci := 8) (v := .int 5) (C := RX8) (T := TX8) (N := 13) hx hb hg inG_X8 hown hK hP 0 rfl rfl 1 (by decide) (hg (.fieldLink RX8 13 "AttributeDesk" "tapeSize" "I") gw_2_161) (fun _ h9 => h9) rfl dX8_putWord_32 ?_
  refine lv_iconst (v := 1) hx hb dX8_putWord_35 (by decide) ?_
  refine lv_iadd hx hb dX8_putWord_36 ?_
  refine lv_topi (fun x12 ex12 => ?_)
  obtain rfl : x12 = 6 := ex12.trans (by decide)
  refine va_put (D := (dC, dI)) (ci := 8) (v := .int 6) (ty := .int) (C := RX8) (T := TX8) (N := 13) hx hb hg inG_X8 tyX8 tyX8_ok nmX8 hown hK hP hD hS 0 rfl rfl 1 (by decide) (hg (.fieldLink RX8 13 "AttributeDesk" "tapeSize" "I") gw_2_161) (fun _ h9 => h9) rfl (by decide +kernel) rfl rfl (Nat.le_of_ble_eq_true rfl) dX8_putWord_37 (fun H locs hP hD hS => ?_)
  have hP : va_P (dC, dI) vwCl [(ah0, .inr (8, [.ref ae0, .int 6, .ref ae1, .ref ae2, .ref ae3, .ref ae4, .ref ae5, .ref ae6, .ref ae7, .ref ae8, .ref ae9, .int (-1), .int (-1)])), (ae0, .inl (ae10, 3000, .inl f11))] H := hP
  have hD : va_D A [(ah0, .inr (8, [.ref ae0, .int 6, .ref ae1, .ref ae2, .ref ae3, .ref ae4, .ref ae5, .ref ae6, .ref ae7, .ref ae8, .ref ae9, .int (-1), .int (-1)])), (ae0, .inl (ae10, 3000, .inl f11))] := hD
  refine lv_iinc (v := 8) (lv' := [(2, .int 8), (0, .ref ah0), (1, .int p0)]) hx hb dX8_putWord_40 hl (k := 0) rfl (by decide) (by decide) rfl (fun ls hl => ?_)
  refine lv_goto (tgt := 3) hx hb dX8_putWord_43 (by decide) ?_
  refine lv_iload_n hx hb dX8_putWord_3 rfl (lv_at hl 0 rfl) ?_
  refine lv_if_lt (tgt := 46) hx hb dX8_putWord_4 (by decide) (fun c13 => absurd c13 (by decide)) (fun _ => ?_)
  refine lv_aload_n hx hb dX8_putWord_7 rfl (lv_at hl 1 rfl) ?_
  refine va_get (D := (dC, dI)) (ci := 8) (v := .int 6) (C := RX8) (T := TX8) (N := 13) hx hb hg inG_X8 hown hK hP 0 rfl rfl 1 (by decide) (hg (.fieldLink RX8 13 "AttributeDesk" "tapeSize" "I") gw_2_161) (fun _ h9 => h9) rfl dX8_putWord_8 ?_
  refine lv_sipush (v := 3000) hx hb dX8_putWord_11 (by decide) ?_
  refine lv_icmp_ge (tgt := 46) hx hb dX8_putWord_14 (by decide) (fun c14 => absurd c14 (by decide)) (fun _ => ?_)
  refine lv_aload_n hx hb dX8_putWord_17 rfl (lv_at hl 1 rfl) ?_
  refine va_get (D := (dC, dI)) (ci := 8) (v := .ref ae0) (C := RX8) (T := TX8) (N := 13) hx hb hg inG_X8 hown hK hP 0 rfl rfl 0 (by decide) (hg (.fieldLink RX8 9 "AttributeDesk" "tape" "[B") gw_2_160) (fun _ h9 => h9) rfl dX8_putWord_18 ?_
  refine lv_aload_n hx hb dX8_putWord_21 rfl (lv_at hl 1 rfl) ?_
  refine va_get (D := (dC, dI)) (ci := 8) (v := .int 6) (C := RX8) (T := TX8) (N := 13) hx hb hg inG_X8 hown hK hP 0 rfl rfl 1 (by decide) (hg (.fieldLink RX8 13 "AttributeDesk" "tapeSize" "I") gw_2_161) (fun _ h9 => h9) rfl dX8_putWord_22 ?_
  refine lv_iload_n hx hb dX8_putWord_25 rfl (lv_at hl 2 rfl) ?_
  refine lv_iload_n hx hb dX8_putWord_26 rfl (lv_at hl 0 rfl) ?_
  refine lv_ishr hx hb dX8_putWord_27 ?_
  refine lv_topi (fun x15 ex15 => ?_)
  refine lv_i2b hx hb dX8_putWord_28 rfl ?_
  refine lv_topi (fun x16 ex16 => ?_)
  refine va_bast (D := (dC, dI)) hx hb hK hP hD hS 1 0 rfl rfl (by unfold vp_in; decide) dX8_putWord_29 (fun H locs hP hD hS => ?_)
  obtain ⟨f17, ef17⟩ : ∃ g : Nat → Int32, g = upd f11 (6 : Int32).toNatClampNeg (vp_nar .byte x16) := ⟨_, rfl⟩
  have hP : va_P (dC, dI) vwCl [(ah0, .inr (8, [.ref ae0, .int 6, .ref ae1, .ref ae2, .ref ae3, .ref ae4, .ref ae5, .ref ae6, .ref ae7, .ref ae8, .ref ae9, .int (-1), .int (-1)])), (ae0, .inl (ae10, 3000, .inl f17))] H := by rw [ef17]; exact hP
  have hD : va_D A [(ah0, .inr (8, [.ref ae0, .int 6, .ref ae1, .ref ae2, .ref ae3, .ref ae4, .ref ae5, .ref ae6, .ref ae7, .ref ae8, .ref ae9, .int (-1), .int (-1)])), (ae0, .inl (ae10, 3000, .inl f17))] := by rw [ef17]; exact hD
  refine lv_aload_n hx hb dX8_putWord_30 rfl (lv_at hl 1 rfl) ?_
  refine lv_dup hx hb dX8_putWord_31 rfl ?_
  refine va_get (D := (dC, dI)) (ci := 8) (v := .int 6) (C := RX8) (T := TX8) (N := 13) hx hb hg inG_X8 hown hK hP 0 rfl rfl 1 (by decide) (hg (.fieldLink RX8 13 "AttributeDesk" "tapeSize" "I") gw_2_161) (fun _ h9 => h9) rfl dX8_putWord_32 ?_
  refine lv_iconst (v := 1) hx hb dX8_putWord_35 (by decide) ?_
  refine lv_iadd hx hb dX8_putWord_36 ?_
  refine lv_topi (fun x18 ex18 => ?_)
  obtain rfl : x18 = 7 := ex18.trans (by decide)
  refine va_put (D := (dC, dI)) (ci := 8) (v := .int 7) (ty := .int) (C := RX8) (T := TX8) (N := 13) hx hb hg inG_X8 tyX8 tyX8_ok nmX8 hown hK hP hD hS 0 rfl rfl 1 (by decide) (hg (.fieldLink RX8 13 "AttributeDesk" "tapeSize" "I") gw_2_161) (fun _ h9 => h9) rfl (by decide +kernel) rfl rfl (Nat.le_of_ble_eq_true rfl) dX8_putWord_37 (fun H locs hP hD hS => ?_)
  have hP : va_P (dC, dI) vwCl [(ah0, .inr (8, [.ref ae0, .int 7, .ref ae1, .ref ae2, .ref ae3, .ref ae4, .ref ae5, .ref ae6, .ref ae7, .ref ae8, .ref ae9, .int (-1), .int (-1)])), (ae0, .inl (ae10, 3000, .inl f17))] H := hP
  have hD : va_D A [(ah0, .inr (8, [.ref ae0, .int 7, .ref ae1, .ref ae2, .ref ae3, .ref ae4, .ref ae5, .ref ae6, .ref ae7, .ref ae8, .ref ae9, .int (-1), .int (-1)])), (ae0, .inl (ae10, 3000, .inl f17))] := hD
  refine lv_iinc (v := 0) (lv' := [(2, .int 0), (0, .ref ah0), (1, .int p0)]) hx hb dX8_putWord_40 hl (k := 0) rfl (by decide) (by decide) rfl (fun ls hl => ?_)
  refine lv_goto (tgt := 3) hx hb dX8_putWord_43 (by decide) ?_
  refine lv_iload_n hx hb dX8_putWord_3 rfl (lv_at hl 0 rfl) ?_
  refine lv_if_lt (tgt := 46) hx hb dX8_putWord_4 (by decide) (fun c19 => absurd c19 (by decide)) (fun _ => ?_)
  refine lv_aload_n hx hb dX8_putWord_7 rfl (lv_at hl 1 rfl) ?_
  refine va_get (D := (dC, dI)) (ci := 8) (v := .int 7) (C := RX8) (T := TX8) (N := 13) hx hb hg inG_X8 hown hK hP 0 rfl rfl 1 (by decide) (hg (.fieldLink RX8 13 "AttributeDesk" "tapeSize" "I") gw_2_161) (fun _ h9 => h9) rfl dX8_putWord_8 ?_
  refine lv_sipush (v := 3000) hx hb dX8_putWord_11 (by decide) ?_
  refine lv_icmp_ge (tgt := 46) hx hb dX8_putWord_14 (by decide) (fun c20 => absurd c20 (by decide)) (fun _ => ?_)
  refine lv_aload_n hx hb dX8_putWord_17 rfl (lv_at hl 1 rfl) ?_
  refine va_get (D := (dC, dI)) (ci := 8) (v := .ref ae0) (C := RX8) (T := TX8) (N := 13) hx hb hg inG_X8 hown hK hP 0 rfl rfl 0 (by decide) (hg (.fieldLink RX8 9 "AttributeDesk" "tape" "[B") gw_2_160) (fun _ h9 => h9) rfl dX8_putWord_18 ?_
  refine lv_aload_n hx hb dX8_putWord_21 rfl (lv_at hl 1 rfl) ?_
  refine va_get (D := (dC, dI)) (ci := 8) (v := .int 7) (C := RX8) (T := TX8) (N := 13) hx hb hg inG_X8 hown hK hP 0 rfl rfl 1 (by decide) (hg (.fieldLink RX8 13 "AttributeDesk" "tapeSize" "I") gw_2_161) (fun _ h9 => h9) rfl dX8_putWord_22 ?_
  refine lv_iload_n hx hb dX8_putWord_25 rfl (lv_at hl 2 rfl) ?_
  refine lv_iload_n hx hb dX8_putWord_26 rfl (lv_at hl 0 rfl) ?_
  refine lv_ishr hx hb dX8_putWord_27 ?_
  refine lv_topi (fun x21 ex21 => ?_)
  refine lv_i2b hx hb dX8_putWord_28 rfl ?_
  refine lv_topi (fun x22 ex22 => ?_)
  refine va_bast (D := (dC, dI)) hx hb hK hP hD hS 1 0 rfl rfl (by unfold vp_in; decide) dX8_putWord_29 (fun H locs hP hD hS => ?_)
  obtain ⟨f23, ef23⟩ : ∃ g : Nat → Int32, g = upd f17 (7 : Int32).toNatClampNeg (vp_nar .byte x22) := ⟨_, rfl⟩
  have hP : va_P (dC, dI) vwCl [(ah0, .inr (8, [.ref ae0, .int 7, .ref ae1, .ref ae2, .ref ae3, .ref ae4, .ref ae5, .ref ae6, .ref ae7, .ref ae8, .ref ae9, .int (-1), .int (-1)])), (ae0, .inl (ae10, 3000, .inl f23))] H := by rw [ef23]; exact hP
  have hD : va_D A [(ah0, .inr (8, [.ref ae0, .int 7, .ref ae1, .ref ae2, .ref ae3, .ref ae4, .ref ae5, .ref ae6, .ref ae7, .ref ae8, .ref ae9, .int (-1), .int (-1)])), (ae0, .inl (ae10, 3000, .inl f23))] := by rw [ef23]; exact hD
  refine lv_aload_n hx hb dX8_putWord_30 rfl (lv_at hl 1 rfl) ?_
  refine lv_dup hx hb dX8_putWord_31 rfl ?_
  refine va_get (D := (dC, dI)) (ci := 8) (v := .int 7) (C := RX8) (T := TX8) (N := 13) hx hb hg inG_X8 hown hK hP 0 rfl rfl 1 (by decide) (hg (.fieldLink RX8 13 "AttributeDesk" "tapeSize" "I") gw_2_161) (fun _ h9 => h9) rfl dX8_putWord_32 ?_
  refine lv_iconst (v := 1) hx hb dX8_putWord_35 (by decide) ?_
  refine lv_iadd hx hb dX8_putWord_36 ?_
  refine lv_topi (fun x24 ex24 => ?_)
  obtain rfl : x24 = 8 := ex24.trans (by decide)
  refine va_put (D := (dC, dI)) (ci := 8) (v := .int 8) (ty := .int) (C := RX8) (T := TX8) (N := 13) hx hb hg inG_X8 tyX8 tyX8_ok nmX8 hown hK hP hD hS 0 rfl rfl 1 (by decide) (hg (.fieldLink RX8 13 "AttributeDesk" "tapeSize" "I") gw_2_161) (fun _ h9 => h9) rfl (by decide +kernel) rfl rfl (Nat.le_of_ble_eq_true rfl) dX8_putWord_37 (fun H locs hP hD hS => ?_)
  have hP : va_P (dC, dI) vwCl [(ah0, .inr (8, [.ref ae0, .int 8, .ref ae1, .ref ae2, .ref ae3, .ref ae4, .ref ae5, .ref ae6, .ref ae7, .ref ae8, .ref ae9, .int (-1), .int (-1)])), (ae0, .inl (ae10, 3000, .inl f23))] H := hP
  have hD : va_D A [(ah0, .inr (8, [.ref ae0, .int 8, .ref ae1, .ref ae2, .ref ae3, .ref ae4, .ref ae5, .ref ae6, .ref ae7, .ref ae8, .ref ae9, .int (-1), .int (-1)])), (ae0, .inl (ae10, 3000, .inl f23))] := hD
  refine lv_iinc (v := (-8)) (lv' := [(2, .int (-8)), (0, .ref ah0), (1, .int p0)]) hx hb dX8_putWord_40 hl (k := 0) rfl (by decide) (by decide) rfl (fun ls hl => ?_)
  refine lv_goto (tgt := 3) hx hb dX8_putWord_43 (by decide) ?_
  refine lv_iload_n hx hb dX8_putWord_3 rfl (lv_at hl 0 rfl) ?_
  refine lv_if_lt (tgt := 46) hx hb dX8_putWord_4 (by decide) (fun _ => ?_) (fun c25 => absurd c25 (by decide))
  have hP9 := hP.sub (ws' := [(ah0, .inr (8, [.ref ae0, .int 8, .ref ae1, .ref ae2, .ref ae3, .ref ae4, .ref ae5, .ref ae6, .ref ae7, .ref ae8, .ref ae9, .int (-1), .int (-1)])), (ae0, .inl (ae10, 3000, .inl f23))]) [0, 1] rfl
  have hD9 := hD.sub (ws' := [(ah0, .inr (8, [.ref ae0, .int 8, .ref ae1, .ref ae2, .ref ae3, .ref ae4, .ref ae5, .ref ae6, .ref ae7, .ref ae8, .ref ae9, .int (-1), .int (-1)])), (ae0, .inl (ae10, 3000, .inl f23))]) [0, 1] (by decide) rfl
  have hK9 := hK.sub (tys' := [(ae10, .byte)]) [0] rfl
  refine W.widen (k := 0) (n := 0) (Nat.le_of_ble_eq_true rfl) (Nat.le_of_ble_eq_true rfl) ?_
  exact W.vret hx hb hr (fun t ht hW => ⟨⟨(), rfl, trivial, f23, by rw [ht]; exact hP9, va_K.moved hW.alike hK9, hD9⟩, hS.F ht⟩) hS.2.2 dX8_putWord_46

set_option maxHeartbeats 4000000 in
set_option maxRecDepth 100000 in
theorem c_X8_putWord_8 (l : Launch) (dC : Nat → ClassId) (dI : Nat → Nat → Nat) (ah0 ae0 ae1 ae2 ae3 ae4 ae5 ae6 ae7 ae8 ae9 : Nat) (ae10 : ClassId) (sz : Nat) (p0 : Int32) (f0 : Nat → Int32) : Met l yX8_putWord wyX8_putWord ({ frames := 0, cells := 0, slots := 0, locals := 0 }) (va_Pc [.ref ah0, .int p0] (fun U => U.heap.size = sz ∧ va_P (dC, dI) vwCl [(ah0, .inr (8, [.ref ae0, .int 8, .ref ae1, .ref ae2, .ref ae3, .ref ae4, .ref ae5, .ref ae6, .ref ae7, .ref ae8, .ref ae9, .int (-1), .int (-1)])), (ae0, .inl (ae10, 3000, .inl f0))] U.heap ∧ va_K (dC, dI) vwCl [(ae10, .byte)] U ∧ va_D (fun _ => True) [(ah0, .inr (8, [.ref ae0, .int 8, .ref ae1, .ref ae2, .ref ae3, .ref ae4, .ref ae5, .ref ae6, .ref ae7, .ref ae8, .ref ae9, .int (-1), .int (-1)])), (ae0, .inl (ae10, 3000, .inl f0))])) (va_Qv (fun _ : Unit => True) (fun _ t => ∃ (e0 : Nat → Int32), va_P (dC, dI) vwCl [(ah0, .inr (8, [.ref ae0, .int 12, .ref ae1, .ref ae2, .ref ae3, .ref ae4, .ref ae5, .ref ae6, .ref ae7, .ref ae8, .ref ae9, .int (-1), .int (-1)])), (ae0, .inl (ae10, 3000, .inl e0))] t.heap ∧ va_K (dC, dI) vwCl [(ae10, .byte)] t ∧ va_D (va_A [(ah0, .inr (8, [.ref ae0, .int 8, .ref ae1, .ref ae2, .ref ae3, .ref ae4, .ref ae5, .ref ae6, .ref ae7, .ref ae8, .ref ae9, .int (-1), .int (-1)])), (ae0, .inl (ae10, 3000, .inl f0))] sz) [(ah0, .inr (8, [.ref ae0, .int 12, .ref ae1, .ref ae2, .ref ae3, .ref ae4, .ref ae5, .ref ae6, .ref ae7, .ref ae8, .ref ae9, .int (-1), .int (-1)])), (ae0, .inl (ae10, 3000, .inl e0))]) (va_A [(ah0, .inr (8, [.ref ae0, .int 8, .ref ae1, .ref ae2, .ref ae3, .ref ae4, .ref ae5, .ref ae6, .ref ae7, .ref ae8, .ref ae9, .int (-1), .int (-1)])), (ae0, .inl (ae10, 3000, .inl f0))] sz)) 0 0 (va_A [(ah0, .inr (8, [.ref ae0, .int 8, .ref ae1, .ref ae2, .ref ae3, .ref ae4, .ref ae5, .ref ae6, .ref ae7, .ref ae8, .ref ae9, .int (-1), .int (-1)])), (ae0, .inl (ae10, 3000, .inl f0))] sz) := by
  refine Met.ofW (cc := cX8_putWord) (maxL := 3) (ret := none) (by decide) rfl ?_
  intro p e s m args below meth c s₁ B hml hv
  obtain ⟨rfl, hsz, hP, hK, hD0⟩ := hv
  have hx := B.exec
  have hb := B.bytes
  have hr := B.returns
  have hts := atoms_spec (ws := wyX8_putWord) B.pre
  have hg : ∀ w ∈ lw_G, w.before _ s = true := fun w h => hts w (List.mem_cons_of_mem _ h)
  have hown : s.vm.findClass RX8 = some m.cls := findClass_of_methodNamed B.named
  have hlocks := B.notSynchronized
  subst hsz
  have hD := hD0.self (sz := s.heap.size)
  generalize hAe : va_A [(ah0, .inr (8, [.ref ae0, .int 8, .ref ae1, .ref ae2, .ref ae3, .ref ae4, .ref ae5, .ref ae6, .ref ae7, .ref ae8, .ref ae9, .int (-1), .int (-1)])), (ae0, .inl (ae10, 3000, .inl f0))] s.heap.size = A at hD ⊢
  have hA : ∀ q : Nat, s.heap.size ≤ q → A q := fun q h => by rw [← hAe]; exact Or.inr h
  have hS : va_S A s.heap s.heap [] := va_S.rf
  have hP : va_P (dC, dI) vwCl [(ah0, .inr (8, [.ref ae0, .int 8, .ref ae1, .ref ae2, .ref ae3, .ref ae4, .ref ae5, .ref ae6, .ref ae7, .ref ae8, .ref ae9, .int (-1), .int (-1)])), (ae0, .inl (ae10, 3000, .inl f0))] s.heap := hP
  have hl := lv_entry ([.ref ah0, .int p0]) (n := 3) (Nat.le_of_ble_eq_true rfl)
  rw [lg_entry_eq]
  generalize (lg_sl ([.ref ah0, .int p0]) ++ List.replicate (3 - (lg_sl ([.ref ah0, .int p0])).length) Slot.unset).toArray = ls at hl ⊢
  have hl : lv_has ls 3 [(0, .ref ah0), (1, .int p0)] := hl
  refine lv_bipush (v := 24) hx hb dX8_putWord_0 (by decide) ?_
  refine lv_istore_n (lv' := [(2, .int 24), (0, .ref ah0), (1, .int p0)]) hx hb dX8_putWord_2 rfl hl (by decide) rfl (fun ls hl => ?_)
  refine lv_iload_n hx hb dX8_putWord_3 rfl (lv_at hl 0 rfl) ?_
  refine lv_if_lt (tgt := 46) hx hb dX8_putWord_4 (by decide) (fun c1 => absurd c1 (by decide)) (fun _ => ?_)
  refine lv_aload_n hx hb dX8_putWord_7 rfl (lv_at hl 1 rfl) ?_
  refine va_get (D := (dC, dI)) (ci := 8) (v := .int 8) (C := RX8) (T := TX8) (N := 13) hx hb hg inG_X8 hown hK hP 0 rfl rfl 1 (by decide) (hg (.fieldLink RX8 13 "AttributeDesk" "tapeSize" "I") gw_2_161) (fun _ h9 => h9) rfl dX8_putWord_8 ?_
  refine lv_sipush (v := 3000) hx hb dX8_putWord_11 (by decide) ?_
  refine lv_icmp_ge (tgt := 46) hx hb dX8_putWord_14 (by decide) (fun c2 => absurd c2 (by decide)) (fun _ => ?_)
  refine lv_aload_n hx hb dX8_putWord_17 rfl (lv_at hl 1 rfl) ?_
  refine va_get (D := (dC, dI)) (ci := 8) (v := .ref ae0) (C := RX8) (T := TX8) (N := 13) hx hb hg inG_X8 hown hK hP 0 rfl rfl 0 (by decide) (hg (.fieldLink RX8 9 "AttributeDesk" "tape" "[B") gw_2_160) (fun _ h9 => h9) rfl dX8_putWord_18 ?_
  refine lv_aload_n hx hb dX8_putWord_21 rfl (lv_at hl 1 rfl) ?_
  refine va_get (D := (dC, dI)) (ci := 8) (v := .int 8) (C := RX8) (T := TX8) (N := 13) hx hb hg inG_X8 hown hK hP 0 rfl rfl 1 (by decide) (hg (.fieldLink RX8 13 "AttributeDesk" "tapeSize" "I") gw_2_161) (fun _ h9 => h9) rfl dX8_putWord_22 ?_
  refine lv_iload_n hx hb dX8_putWord_25 rfl (lv_at hl 2 rfl) ?_
  refine lv_iload_n hx hb dX8_putWord_26 rfl (lv_at hl 0 rfl) ?_
  refine lv_ishr hx hb dX8_putWord_27 ?_
  refine lv_topi (fun x3 ex3 => ?_)
  refine lv_i2b hx hb dX8_putWord_28 rfl ?_
  refine lv_topi (fun x4 ex4 => ?_)
  refine va_bast (D := (dC, dI)) hx hb hK hP hD hS 1 0 rfl rfl (by unfold vp_in; decide) dX8_putWord_29 (fun H locs hP hD hS => ?_)
  obtain ⟨f5, ef5⟩ : ∃ g : Nat → Int32, g = upd f0 (8 : Int32).toNatClampNeg (vp_nar .byte x4) := ⟨_, rfl⟩
  have hP : va_P (dC, dI) vwCl [(ah0, .inr (8, [.ref ae0, .int 8, .ref ae1, .ref ae2, .ref ae3, .ref ae4, .ref ae5, .ref ae6, .ref ae7, .ref ae8, .ref ae9, .int (-1), .int (-1)])), (ae0, .inl (ae10, 3000, .inl f5))] H := by rw [ef5]; exact hP
  have hD : va_D A [(ah0, .inr (8, [.ref ae0, .int 8, .ref ae1, .ref ae2, .ref ae3, .ref ae4, .ref ae5, .ref ae6, .ref ae7, .ref ae8, .ref ae9, .int (-1), .int (-1)])), (ae0, .inl (ae10, 3000, .inl f5))] := by rw [ef5]; exact hD
  refine lv_aload_n hx hb dX8_putWord_30 rfl (lv_at hl 1 rfl) ?_
  refine lv_dup hx hb dX8_putWord_31 rfl ?_
  refine va_get (D := (dC, dI)) (ci := 8) (v := .int 8) (C := RX8) (T := TX8) (N := 13) hx hb hg inG_X8 hown hK hP 0 rfl rfl 1 (by decide) (hg (.fieldLink RX8 13 "AttributeDesk" "tapeSize" "I") gw_2_161) (fun _ h9 => h9) rfl dX8_putWord_32 ?_
  refine lv_iconst (v := 1) hx hb dX8_putWord_35 (by decide) ?_
  refine lv_iadd hx hb dX8_putWord_36 ?_
  refine lv_topi (fun x6 ex6 => ?_)
  obtain rfl : x6 = 9 := ex6.trans (by decide)
  refine va_put (D := (dC, dI)) (ci := 8) (v := .int 9) (ty := .int) (C := RX8) (T := TX8) (N := 13) hx hb hg inG_X8 tyX8 tyX8_ok nmX8 hown hK hP hD hS 0 rfl rfl 1 (by decide) (hg (.fieldLink RX8 13 "AttributeDesk" "tapeSize" "I") gw_2_161) (fun _ h9 => h9) rfl (by decide +kernel) rfl rfl (Nat.le_of_ble_eq_true rfl) dX8_putWord_37 (fun H locs hP hD hS => ?_)
  have hP : va_P (dC, dI) vwCl [(ah0, .inr (8, [.ref ae0, .int 9, .ref ae1, .ref ae2, .ref ae3, .ref ae4, .ref ae5, .ref ae6, .ref ae7, .ref ae8, .ref ae9, .int (-1), .int (-1)])), (ae0, .inl (ae10, 3000, .inl f5))] H := hP
  have hD : va_D A [(ah0, .inr (8, [.ref ae0, .int 9, .ref ae1, .ref ae2, .ref ae3, .ref ae4, .ref ae5, .ref ae6, .ref ae7, .ref ae8, .ref ae9, .int (-1), .int (-1)])), (ae0, .inl (ae10, 3000, .inl f5))] := hD
  refine lv_iinc (v := 16) (lv' := [(2, .int 16), (0, .ref ah0), (1, .int p0)]) hx hb dX8_putWord_40 hl (k := 0) rfl (by decide) (by decide) rfl (fun ls hl => ?_)
  refine lv_goto (tgt := 3) hx hb dX8_putWord_43 (by decide) ?_
  refine lv_iload_n hx hb dX8_putWord_3 rfl (lv_at hl 0 rfl) ?_
  refine lv_if_lt (tgt := 46) hx hb dX8_putWord_4 (by decide) (fun c7 => absurd c7 (by decide)) (fun _ => ?_)
  refine lv_aload_n hx hb dX8_putWord_7 rfl (lv_at hl 1 rfl) ?_
  refine va_get (D := (dC, dI)) (ci := 8) (v := .int 9) (C := RX8) (T := TX8) (N := 13) hx hb hg inG_X8 hown hK hP 0 rfl rfl 1 (by decide) (hg (.fieldLink RX8 13 "AttributeDesk" "tapeSize" "I") gw_2_161) (fun _ h9 => h9) rfl dX8_putWord_8 ?_
  refine lv_sipush (v := 3000) hx hb dX8_putWord_11 (by decide) ?_
  refine lv_icmp_ge (tgt := 46) hx hb dX8_putWord_14 (by decide) (fun c8 => absurd c8 (by decide)) (fun _ => ?_)
  refine lv_aload_n hx hb dX8_putWord_17 rfl (lv_at hl 1 rfl) ?_
  refine va_get (D := (dC, dI)) (ci := 8) (v := .ref ae0) (C := RX8) (T := TX8) (N := 13) hx hb hg inG_X8 hown hK hP 0 rfl rfl 0 (by decide) (hg (.fieldLink RX8 9 "AttributeDesk" "tape" "[B") gw_2_160) (fun _ h9 => h9) rfl dX8_putWord_18 ?_
  refine lv_aload_n hx hb dX8_putWord_21 rfl (lv_at hl 1 rfl) ?_
  refine va_get (D := (dC, dI)) (ci := 8) (v := .int 9) (C := RX8) (T := TX8) (N := 13) hx hb hg inG_X8 hown hK hP 0 rfl rfl 1 (by decide) (hg (.fieldLink RX8 13 "AttributeDesk" "tapeSize" "I") gw_2_161) (fun _ h9 => h9) rfl dX8_putWord_22 ?_
  refine lv_iload_n hx hb dX8_putWord_25 rfl (lv_at hl 2 rfl) ?_
  refine lv_iload_n hx hb dX8_putWord_26 rfl (lv_at hl 0 rfl) ?_
  refine lv_ishr hx hb dX8_putWord_27 ?_
  refine lv_topi (fun x9 ex9 => ?_)
  refine lv_i2b hx hb dX8_putWord_28 rfl ?_
  refine lv_topi (fun x10 ex10 => ?_)
  refine va_bast (D := (dC, dI)) hx hb hK hP hD hS 1 0 rfl rfl (by unfold vp_in; decide) dX8_putWord_29 (fun H locs hP hD hS => ?_)
  obtain ⟨f11, ef11⟩ : ∃ g : Nat → Int32, g = upd f5 (9 : Int32).toNatClampNeg (vp_nar .byte x10) := ⟨_, rfl⟩
  have hP : va_P (dC, dI) vwCl [(ah0, .inr (8, [.ref ae0, .int 9, .ref ae1, .ref ae2, .ref ae3, .ref ae4, .ref ae5, .ref ae6, .ref ae7, .ref ae8, .ref ae9, .int (-1), .int (-1)])), (ae0, .inl (ae10, 3000, .inl f11))] H := by rw [ef11]; exact hP
  have hD : va_D A [(ah0, .inr (8, [.ref ae0, .int 9, .ref ae1, .ref ae2, .ref ae3, .ref ae4, .ref ae5, .ref ae6, .ref ae7, .ref ae8, .ref ae9, .int (-1), .int (-1)])), (ae0, .inl (ae10, 3000, .inl f11))] := by rw [ef11]; exact hD
  refine lv_aload_n hx hb dX8_putWord_30 rfl (lv_at hl 1 rfl) ?_
  refine lv_dup hx hb dX8_putWord_31 rfl ?_
  refine va_get (D := (dC, dI)) (ci := 8) (v := .int 9) (C := RX8) (T := TX8) (N := 13) hx hb hg inG_X8 hown hK hP 0 rfl rfl 1 (by decide) (hg (.fieldLink RX8 13 "AttributeDesk" "tapeSize" "I") gw_2_161) (fun _ h9 => h9) rfl dX8_putWord_32 ?_
  refine lv_iconst (v := 1) hx hb dX8_putWord_35 (by decide) ?_
  refine lv_iadd hx hb dX8_putWord_36 ?_
  refine lv_topi (fun x12 ex12 => ?_)
  obtain rfl : x12 = 10 := ex12.trans (by decide)
  refine va_put (D := (dC, dI)) (ci := 8) (v := .int 10) (ty := .int) (C := RX8) (T := TX8) (N := 13) hx hb hg inG_X8 tyX8 tyX8_ok nmX8 hown hK hP hD hS 0 rfl rfl 1 (by decide) (hg (.fieldLink RX8 13 "AttributeDesk" "tapeSize" "I") gw_2_161) (fun _ h9 => h9) rfl (by decide +kernel) rfl rfl (Nat.le_of_ble_eq_true rfl) dX8_putWord_37 (fun H locs hP hD hS => ?_)
  have hP : va_P (dC, dI) vwCl [(ah0, .inr (8, [.ref ae0, .int 10, .ref ae1, .ref ae2, .ref ae3, .ref ae4, .ref ae5, .ref ae6, .ref ae7, .ref ae8, .ref ae9, .int (-1), .int (-1)])), (ae0, .inl (ae10, 3000, .inl f11))] H := hP
  have hD : va_D A [(ah0, .inr (8, [.ref ae0, .int 10, .ref ae1, .ref ae2, .ref ae3, .ref ae4, .ref ae5, .ref ae6, .ref ae7, .ref ae8, .ref ae9, .int (-1), .int (-1)])), (ae0, .inl (ae10, 3000, .inl f11))] := hD
  refine lv_iinc (v := 8) (lv' := [(2, .int 8), (0, .ref ah0), (1, .int p0)]) hx hb dX8_putWord_40 hl (k := 0) rfl (by decide) (by decide) rfl (fun ls hl => ?_)
  refine lv_goto (tgt := 3) hx hb dX8_putWord_43 (by decide) ?_
  refine lv_iload_n hx hb dX8_putWord_3 rfl (lv_at hl 0 rfl) ?_
  refine lv_if_lt (tgt := 46) hx hb dX8_putWord_4 (by decide) (fun c13 => absurd c13 (by decide)) (fun _ => ?_)
  refine lv_aload_n hx hb dX8_putWord_7 rfl (lv_at hl 1 rfl) ?_
  refine va_get (D := (dC, dI)) (ci := 8) (v := .int 10) (C := RX8) (T := TX8) (N := 13) hx hb hg inG_X8 hown hK hP 0 rfl rfl 1 (by decide) (hg (.fieldLink RX8 13 "AttributeDesk" "tapeSize" "I") gw_2_161) (fun _ h9 => h9) rfl dX8_putWord_8 ?_
  refine lv_sipush (v := 3000) hx hb dX8_putWord_11 (by decide) ?_
  refine lv_icmp_ge (tgt := 46) hx hb dX8_putWord_14 (by decide) (fun c14 => absurd c14 (by decide)) (fun _ => ?_)
  refine lv_aload_n hx hb dX8_putWord_17 rfl (lv_at hl 1 rfl) ?_
  refine va_get (D := (dC, dI)) (ci := 8) (v := .ref ae0) (C := RX8) (T := TX8) (N := 13) hx hb hg inG_X8 hown hK hP 0 rfl rfl 0 (by decide) (hg (.fieldLink RX8 9 "AttributeDesk" "tape" "[B") gw_2_160) (fun _ h9 => h9) rfl dX8_putWord_18 ?_
  refine lv_aload_n hx hb dX8_putWord_21 rfl (lv_at hl 1 rfl) ?_
  refine va_get (D := (dC, dI)) (ci := 8) (v := .int 10) (C := RX8) (T := TX8) (N := 13) hx hb hg inG_X8 hown hK hP 0 rfl rfl 1 (by decide) (hg (.fieldLink RX8 13 "AttributeDesk" "tapeSize" "I") gw_2_161) (fun _ h9 => h9) rfl dX8_putWord_22 ?_
  refine lv_iload_n hx hb dX8_putWord_25 rfl (lv_at hl 2 rfl) ?_
  refine lv_iload_n hx hb dX8_putWord_26 rfl (lv_at hl 0 rfl) ?_
  refine lv_ishr hx hb dX8_putWord_27 ?_
  refine lv_topi (fun x15 ex15 => ?_)
  refine lv_i2b hx hb dX8_putWord_28 rfl ?_
  refine lv_topi (fun x16 ex16 => ?_)
  refine va_bast (D := (dC, dI)) hx hb hK hP hD hS 1 0 rfl rfl (by unfold vp_in; decide) dX8_putWord_29 (fun H locs hP hD hS => ?_)
  obtain ⟨f17, ef17⟩ : ∃ g : Nat → Int32, g = upd f11 (10 : Int32).toNatClampNeg (vp_nar .byte x16) := ⟨_, rfl⟩
  have hP : va_P (dC, dI) vwCl [(ah0, .inr (8, [.ref ae0, .int 10, .ref ae1, .ref ae2, .ref ae3, .ref ae4, .ref ae5, .ref ae6, .ref ae7, .ref ae8, .ref ae9, .int (-1), .int (-1)])), (ae0, .inl (ae10, 3000, .inl f17))] H := by rw [ef17]; exact hP
  have hD : va_D A [(ah0, .inr (8, [.ref ae0, .int 10, .ref ae1, .ref ae2, .ref ae3, .ref ae4, .ref ae5, .ref ae6, .ref ae7, .ref ae8, .ref ae9, .int (-1), .int (-1)])), (ae0, .inl (ae10, 3000, .inl f17))] := by rw [ef17]; exact hD
  refine lv_aload_n hx hb dX8_putWord_30 rfl (lv_at hl 1 rfl) ?_
  refine lv_dup hx hb dX8_putWord_31 rfl ?_
  refine va_get (D := (dC, dI)) (ci := 8) (v := .int 10) (C := RX8) (T := TX8) (N := 13) hx hb hg inG_X8 hown hK hP 0 rfl rfl 1 (by decide) (hg (.fieldLink RX8 13 "AttributeDesk" "tapeSize" "I") gw_2_161) (fun _ h9 => h9) rfl dX8_putWord_32 ?_
  refine lv_iconst (v := 1) hx hb dX8_putWord_35 (by decide) ?_
  refine lv_iadd hx hb dX8_putWord_36 ?_
  refine lv_topi (fun x18 ex18 => ?_)
  obtain rfl : x18 = 11 := ex18.trans (by decide)
  refine va_put (D := (dC, dI)) (ci := 8) (v := .int 11) (ty := .int) (C := RX8) (T := TX8) (N := 13) hx hb hg inG_X8 tyX8 tyX8_ok nmX8 hown hK hP hD hS 0 rfl rfl 1 (by decide) (hg (.fieldLink RX8 13 "AttributeDesk" "tapeSize" "I") gw_2_161) (fun _ h9 => h9) rfl (by decide +kernel) rfl rfl (Nat.le_of_ble_eq_true rfl) dX8_putWord_37 (fun H locs hP hD hS => ?_)
  have hP : va_P (dC, dI) vwCl [(ah0, .inr (8, [.ref ae0, .int 11, .ref ae1, .ref ae2, .ref ae3, .ref ae4, .ref ae5, .ref ae6, .ref ae7, .ref ae8, .ref ae9, .int (-1), .int (-1)])), (ae0, .inl (ae10, 3000, .inl f17))] H := hP
  have hD : va_D A [(ah0, .inr (8, [.ref ae0, .int 11, .ref ae1, .ref ae2, .ref ae3, .ref ae4, .ref ae5, .ref ae6, .ref ae7, .ref ae8, .ref ae9, .int (-1), .int (-1)])), (ae0, .inl (ae10, 3000, .inl f17))] := hD
  refine lv_iinc (v := 0) (lv' := [(2, .int 0), (0, .ref ah0), (1, .int p0)]) hx hb dX8_putWord_40 hl (k := 0) rfl (by decide) (by decide) rfl (fun ls hl => ?_)
  refine lv_goto (tgt := 3) hx hb dX8_putWord_43 (by decide) ?_
  refine lv_iload_n hx hb dX8_putWord_3 rfl (lv_at hl 0 rfl) ?_
  refine lv_if_lt (tgt := 46) hx hb dX8_putWord_4 (by decide) (fun c19 => absurd c19 (by decide)) (fun _ => ?_)
  refine lv_aload_n hx hb dX8_putWord_7 rfl (lv_at hl 1 rfl) ?_
  refine va_get (D := (dC, dI)) (ci := 8) (v := .int 11) (C := RX8) (T := TX8) (N := 13) hx hb hg inG_X8 hown hK hP 0 rfl rfl 1 (by decide) (hg (.fieldLink RX8 13 "AttributeDesk" "tapeSize" "I") gw_2_161) (fun _ h9 => h9) rfl dX8_putWord_8 ?_
  refine lv_sipush (v := 3000) hx hb dX8_putWord_11 (by decide) ?_
  refine lv_icmp_ge (tgt := 46) hx hb dX8_putWord_14 (by decide) (fun c20 => absurd c20 (by decide)) (fun _ => ?_)
  refine lv_aload_n hx hb dX8_putWord_17 rfl (lv_at hl 1 rfl) ?_
  refine va_get (D := (dC, dI)) (ci := 8) (v := .ref ae0) (C := RX8) (T := TX8) (N := 13) hx hb hg inG_X8 hown hK hP 0 rfl rfl 0 (by decide) (hg (.fieldLink RX8 9 "AttributeDesk" "tape" "[B") gw_2_160) (fun _ h9 => h9) rfl dX8_putWord_18 ?_
  refine lv_aload_n hx hb dX8_putWord_21 rfl (lv_at hl 1 rfl) ?_
  refine va_get (D := (dC, dI)) (ci := 8) (v := .int 11) (C := RX8) (T := TX8) (N := 13) hx hb hg inG_X8 hown hK hP 0 rfl rfl 1 (by decide) (hg (.fieldLink RX8 13 "AttributeDesk" "tapeSize" "I") gw_2_161) (fun _ h9 => h9) rfl dX8_putWord_22 ?_
  refine lv_iload_n hx hb dX8_putWord_25 rfl (lv_at hl 2 rfl) ?_
  refine lv_iload_n hx hb dX8_putWord_26 rfl (lv_at hl 0 rfl) ?_
  refine lv_ishr hx hb dX8_putWord_27 ?_
  refine lv_topi (fun x21 ex21 => ?_)
  refine lv_i2b hx hb dX8_putWord_28 rfl ?_
  refine lv_topi (fun x22 ex22 => ?_)
  refine va_bast (D := (dC, dI)) hx hb hK hP hD hS 1 0 rfl rfl (by unfold vp_in; decide) dX8_putWord_29 (fun H locs hP hD hS => ?_)
  obtain ⟨f23, ef23⟩ : ∃ g : Nat → Int32, g = upd f17 (11 : Int32).toNatClampNeg (vp_nar .byte x22) := ⟨_, rfl⟩
  have hP : va_P (dC, dI) vwCl [(ah0, .inr (8, [.ref ae0, .int 11, .ref ae1, .ref ae2, .ref ae3, .ref ae4, .ref ae5, .ref ae6, .ref ae7, .ref ae8, .ref ae9, .int (-1), .int (-1)])), (ae0, .inl (ae10, 3000, .inl f23))] H := by rw [ef23]; exact hP
  have hD : va_D A [(ah0, .inr (8, [.ref ae0, .int 11, .ref ae1, .ref ae2, .ref ae3, .ref ae4, .ref ae5, .ref ae6, .ref ae7, .ref ae8, .ref ae9, .int (-1), .int (-1)])), (ae0, .inl (ae10, 3000, .inl f23))] := by rw [ef23]; exact hD
  refine lv_aload_n hx hb dX8_putWord_30 rfl (lv_at hl 1 rfl) ?_
  refine lv_dup hx hb dX8_putWord_31 rfl ?_
  refine va_get (D := (dC, dI)) (ci := 8) (v := .int 11) (C := RX8) (T := TX8) (N := 13) hx hb hg inG_X8 hown hK hP 0 rfl rfl 1 (by decide) (hg (.fieldLink RX8 13 "AttributeDesk" "tapeSize" "I") gw_2_161) (fun _ h9 => h9) rfl dX8_putWord_32 ?_
  refine lv_iconst (v := 1) hx hb dX8_putWord_35 (by decide) ?_
  refine lv_iadd hx hb dX8_putWord_36 ?_
  refine lv_topi (fun x24 ex24 => ?_)
  obtain rfl : x24 = 12 := ex24.trans (by decide)
  refine va_put (D := (dC, dI)) (ci := 8) (v := .int 12) (ty := .int) (C := RX8) (T := TX8) (N := 13) hx hb hg inG_X8 tyX8 tyX8_ok nmX8 hown hK hP hD hS 0 rfl rfl 1 (by decide) (hg (.fieldLink RX8 13 "AttributeDesk" "tapeSize" "I") gw_2_161) (fun _ h9 => h9) rfl (by decide +kernel) rfl rfl (Nat.le_of_ble_eq_true rfl) dX8_putWord_37 (fun H locs hP hD hS => ?_)
  have hP : va_P (dC, dI) vwCl [(ah0, .inr (8, [.ref ae0, .int 12, .ref ae1, .ref ae2, .ref ae3, .ref ae4, .ref ae5, .ref ae6, .ref ae7, .ref ae8, .ref ae9, .int (-1), .int (-1)])), (ae0, .inl (ae10, 3000, .inl f23))] H := hP
  have hD : va_D A [(ah0, .inr (8, [.ref ae0, .int 12, .ref ae1, .ref ae2, .ref ae3, .ref ae4, .ref ae5, .ref ae6, .ref ae7, .ref ae8, .ref ae9, .int (-1), .int (-1)])), (ae0, .inl (ae10, 3000, .inl f23))] := hD
  refine lv_iinc (v := (-8)) (lv' := [(2, .int (-8)), (0, .ref ah0), (1, .int p0)]) hx hb dX8_putWord_40 hl (k := 0) rfl (by decide) (by decide) rfl (fun ls hl => ?_)
  refine lv_goto (tgt := 3) hx hb dX8_putWord_43 (by decide) ?_
  refine lv_iload_n hx hb dX8_putWord_3 rfl (lv_at hl 0 rfl) ?_
  refine lv_if_lt (tgt := 46) hx hb dX8_putWord_4 (by decide) (fun _ => ?_) (fun c25 => absurd c25 (by decide))
  have hP9 := hP.sub (ws' := [(ah0, .inr (8, [.ref ae0, .int 12, .ref ae1, .ref ae2, .ref ae3, .ref ae4, .ref ae5, .ref ae6, .ref ae7, .ref ae8, .ref ae9, .int (-1), .int (-1)])), (ae0, .inl (ae10, 3000, .inl f23))]) [0, 1] rfl
  have hD9 := hD.sub (ws' := [(ah0, .inr (8, [.ref ae0, .int 12, .ref ae1, .ref ae2, .ref ae3, .ref ae4, .ref ae5, .ref ae6, .ref ae7, .ref ae8, .ref ae9, .int (-1), .int (-1)])), (ae0, .inl (ae10, 3000, .inl f23))]) [0, 1] (by decide) rfl
  have hK9 := hK.sub (tys' := [(ae10, .byte)]) [0] rfl
  refine W.widen (k := 0) (n := 0) (Nat.le_of_ble_eq_true rfl) (Nat.le_of_ble_eq_true rfl) ?_
  exact W.vret hx hb hr (fun t ht hW => ⟨⟨(), rfl, trivial, f23, by rw [ht]; exact hP9, va_K.moved hW.alike hK9, hD9⟩, hS.F ht⟩) hS.2.2 dX8_putWord_46

set_option maxHeartbeats 4000000 in
set_option maxRecDepth 100000 in
theorem c_X8_putWord_12 (l : Launch) (dC : Nat → ClassId) (dI : Nat → Nat → Nat) (ah0 ae0 ae1 ae2 ae3 ae4 ae5 ae6 ae7 ae8 ae9 : Nat) (ae10 : ClassId) (sz : Nat) (p0 : Int32) (f0 : Nat → Int32) : Met l yX8_putWord wyX8_putWord ({ frames := 0, cells := 0, slots := 0, locals := 0 }) (va_Pc [.ref ah0, .int p0] (fun U => U.heap.size = sz ∧ va_P (dC, dI) vwCl [(ah0, .inr (8, [.ref ae0, .int 12, .ref ae1, .ref ae2, .ref ae3, .ref ae4, .ref ae5, .ref ae6, .ref ae7, .ref ae8, .ref ae9, .int (-1), .int (-1)])), (ae0, .inl (ae10, 3000, .inl f0))] U.heap ∧ va_K (dC, dI) vwCl [(ae10, .byte)] U ∧ va_D (fun _ => True) [(ah0, .inr (8, [.ref ae0, .int 12, .ref ae1, .ref ae2, .ref ae3, .ref ae4, .ref ae5, .ref ae6, .ref ae7, .ref ae8, .ref ae9, .int (-1), .int (-1)])), (ae0, .inl (ae10, 3000, .inl f0))])) (va_Qv (fun _ : Unit => True) (fun _ t => ∃ (e0 : Nat → Int32), va_P (dC, dI) vwCl [(ah0, .inr (8, [.ref ae0, .int 16, .ref ae1, .ref ae2, .ref ae3, .ref ae4, .ref ae5, .ref ae6, .ref ae7, .ref ae8, .ref ae9, .int (-1), .int (-1)])), (ae0, .inl (ae10, 3000, .inl e0))] t.heap ∧ va_K (dC, dI) vwCl [(ae10, .byte)] t ∧ va_D (va_A [(ah0, .inr (8, [.ref ae0, .int 12, .ref ae1, .ref ae2, .ref ae3, .ref ae4, .ref ae5, .ref ae6, .ref ae7, .ref ae8, .ref ae9, .int (-1), .int (-1)])), (ae0, .inl (ae10, 3000, .inl f0))] sz) [(ah0, .inr (8, [.ref ae0, .int 16, .ref ae1, .ref ae2, .ref ae3, .ref ae4, .ref ae5, .ref ae6, .ref ae7, .ref ae8, .ref ae9, .int (-1), .int (-1)])), (ae0, .inl (ae10, 3000, .inl e0))]) (va_A [(ah0, .inr (8, [.ref ae0, .int 12, .ref ae1, .ref ae2, .ref ae3, .ref ae4, .ref ae5, .ref ae6, .ref ae7, .ref ae8, .ref ae9, .int (-1), .int (-1)])), (ae0, .inl (ae10, 3000, .inl f0))] sz)) 0 0 (va_A [(ah0, .inr (8, [.ref ae0, .int 12, .ref ae1, .ref ae2, .ref ae3, .ref ae4, .ref ae5, .ref ae6, .ref ae7, .ref ae8, .ref ae9, .int (-1), .int (-1)])), (ae0, .inl (ae10, 3000, .inl f0))] sz) := by
  refine Met.ofW (cc := cX8_putWord) (maxL := 3) (ret := none) (by decide) rfl ?_
  intro p e s m args below meth c s₁ B hml hv
  obtain ⟨rfl, hsz, hP, hK, hD0⟩ := hv
  have hx := B.exec
  have hb := B.bytes
  have hr := B.returns
  have hts := atoms_spec (ws := wyX8_putWord) B.pre
  have hg : ∀ w ∈ lw_G, w.before _ s = true := fun w h => hts w (List.mem_cons_of_mem _ h)
  have hown : s.vm.findClass RX8 = some m.cls := findClass_of_methodNamed B.named
  have hlocks := B.notSynchronized
  subst hsz
  have hD := hD0.self (sz := s.heap.size)
  generalize hAe : va_A [(ah0, .inr (8, [.ref ae0, .int 12, .ref ae1, .ref ae2, .ref ae3, .ref ae4, .ref ae5, .ref ae6, .ref ae7, .ref ae8, .ref ae9, .int (-1), .int (-1)])), (ae0, .inl (ae10, 3000, .inl f0))] s.heap.size = A at hD ⊢
  have hA : ∀ q : Nat, s.heap.size ≤ q → A q := fun q h => by rw [← hAe]; exact Or.inr h
  have hS : va_S A s.heap s.heap [] := va_S.rf
  have hP : va_P (dC, dI) vwCl [(ah0, .inr (8, [.ref ae0, .int 12, .ref ae1, .ref ae2, .ref ae3, .ref ae4, .ref ae5, .ref ae6, .ref ae7, .ref ae8, .ref ae9, .int (-1), .int (-1)])), (ae0, .inl (ae10, 3000, .inl f0))] s.heap := hP
  have hl := lv_entry ([.ref ah0, .int p0]) (n := 3) (Nat.le_of_ble_eq_true rfl)
  rw [lg_entry_eq]
  generalize (lg_sl ([.ref ah0, .int p0]) ++ List.replicate (3 - (lg_sl ([.ref ah0, .int p0])).length) Slot.unset).toArray = ls at hl ⊢
  have hl : lv_has ls 3 [(0, .ref ah0), (1, .int p0)] := hl
  refine lv_bipush (v := 24) hx hb dX8_putWord_0 (by decide) ?_
  refine lv_istore_n (lv' := [(2, .int 24), (0, .ref ah0), (1, .int p0)]) hx hb dX8_putWord_2 rfl hl (by decide) rfl (fun ls hl => ?_)
  refine lv_iload_n hx hb dX8_putWord_3 rfl (lv_at hl 0 rfl) ?_
  refine lv_if_lt (tgt := 46) hx hb dX8_putWord_4 (by decide) (fun c1 => absurd c1 (by decide)) (fun _ => ?_)
  refine lv_aload_n hx hb dX8_putWord_7 rfl (lv_at hl 1 rfl) ?_
  refine va_get (D := (dC, dI)) (ci := 8) (v := .int 12) (C := RX8) (T := TX8) (N := 13) hx hb hg inG_X8 hown hK hP 0 rfl rfl 1 (by decide) (hg (.fieldLink RX8 13 "AttributeDesk" "tapeSize" "I") gw_2_161) (fun _ h9 => h9) rfl dX8_putWord_8 ?_
  refine lv_sipush (v := 3000) hx hb dX8_putWord_11 (by decide) ?_
  refine lv_icmp_ge (tgt := 46) hx hb dX8_putWord_14 (by decide) (fun c2 => absurd c2 (by decide)) (fun _ => ?_)
  refine lv_aload_n hx hb dX8_putWord_17 rfl (lv_at hl 1 rfl) ?_
  refine va_get (D := (dC, dI)) (ci := 8) (v := .ref ae0) (C := RX8) (T := TX8) (N := 13) hx hb hg inG_X8 hown hK hP 0 rfl rfl 0 (by decide) (hg (.fieldLink RX8 9 "AttributeDesk" "tape" "[B") gw_2_160) (fun _ h9 => h9) rfl dX8_putWord_18 ?_
  refine lv_aload_n hx hb dX8_putWord_21 rfl (lv_at hl 1 rfl) ?_
  refine va_get (D := (dC, dI)) (ci := 8) (v := .int 12) (C := RX8) (T := TX8) (N := 13) hx hb hg inG_X8 hown hK hP 0 rfl rfl 1 (by decide) (hg (.fieldLink RX8 13 "AttributeDesk" "tapeSize" "I") gw_2_161) (fun _ h9 => h9) rfl dX8_putWord_22 ?_
  refine lv_iload_n hx hb dX8_putWord_25 rfl (lv_at hl 2 rfl) ?_
  refine lv_iload_n hx hb dX8_putWord_26 rfl (lv_at hl 0 rfl) ?_
  refine lv_ishr hx hb dX8_putWord_27 ?_
  refine lv_topi (fun x3 ex3 => ?_)
  refine lv_i2b hx hb dX8_putWord_28 rfl ?_
  refine lv_topi (fun x4 ex4 => ?_)
  refine va_bast (D := (dC, dI)) hx hb hK hP hD hS 1 0 rfl rfl (by unfold vp_in; decide) dX8_putWord_29 (fun H locs hP hD hS => ?_)
  obtain ⟨f5, ef5⟩ : ∃ g : Nat → Int32, g = upd f0 (12 : Int32).toNatClampNeg (vp_nar .byte x4) := ⟨_, rfl⟩
  have hP : va_P (dC, dI) vwCl [(ah0, .inr (8, [.ref ae0, .int 12, .ref ae1, .ref ae2, .ref ae3, .ref ae4, .ref ae5, .ref ae6, .ref ae7, .ref ae8, .ref ae9, .int (-1), .int (-1)])), (ae0, .inl (ae10, 3000, .inl f5))] H := by rw [ef5]; exact hP
  have hD : va_D A [(ah0, .inr (8, [.ref ae0, .int 12, .ref ae1, .ref ae2, .ref ae3, .ref ae4, .ref ae5, .ref ae6, .ref ae7, .ref ae8, .ref ae9, .int (-1), .int (-1)])), (ae0, .inl (ae10, 3000, .inl f5))] := by rw [ef5]; exact hD
  refine lv_aload_n hx hb dX8_putWord_30 rfl (lv_at hl 1 rfl) ?_
  refine lv_dup hx hb dX8_putWord_31 rfl ?_
  refine va_get (D := (dC, dI)) (ci := 8) (v := .int 12) (C := RX8) (T := TX8) (N := 13) hx hb hg inG_X8 hown hK hP 0 rfl rfl 1 (by decide) (hg (.fieldLink RX8 13 "AttributeDesk" "tapeSize" "I") gw_2_161) (fun _ h9 => h9) rfl dX8_putWord_32 ?_
  refine lv_iconst (v := 1) hx hb dX8_putWord_35 (by decide) ?_
  refine lv_iadd hx hb dX8_putWord_36 ?_
  refine lv_topi (fun x6 ex6 => ?_)
  obtain rfl : x6 = 13 := ex6.trans (by decide)
  refine va_put (D := (dC, dI)) (ci := 8) (v := .int 13) (ty := .int) (C := RX8) (T := TX8) (N := 13) hx hb hg inG_X8 tyX8 tyX8_ok nmX8 hown hK hP hD hS 0 rfl rfl 1 (by decide) (hg (.fieldLink RX8 13 "AttributeDesk" "tapeSize" "I") gw_2_161) (fun _ h9 => h9) rfl (by decide +kernel) rfl rfl (Nat.le_of_ble_eq_true rfl) dX8_putWord_37 (fun H locs hP hD hS => ?_)
  have hP : va_P (dC, dI) vwCl [(ah0, .inr (8, [.ref ae0, .int 13, .ref ae1, .ref ae2, .ref ae3, .ref ae4, .ref ae5, .ref ae6, .ref ae7, .ref ae8, .ref ae9, .int (-1), .int (-1)])), (ae0, .inl (ae10, 3000, .inl f5))] H := hP
  have hD : va_D A [(ah0, .inr (8, [.ref ae0, .int 13, .ref ae1, .ref ae2, .ref ae3, .ref ae4, .ref ae5, .ref ae6, .ref ae7, .ref ae8, .ref ae9, .int (-1), .int (-1)])), (ae0, .inl (ae10, 3000, .inl f5))] := hD
  refine lv_iinc (v := 16) (lv' := [(2, .int 16), (0, .ref ah0), (1, .int p0)]) hx hb dX8_putWord_40 hl (k := 0) rfl (by decide) (by decide) rfl (fun ls hl => ?_)
  refine lv_goto (tgt := 3) hx hb dX8_putWord_43 (by decide) ?_
  refine lv_iload_n hx hb dX8_putWord_3 rfl (lv_at hl 0 rfl) ?_
  refine lv_if_lt (tgt := 46) hx hb dX8_putWord_4 (by decide) (fun c7 => absurd c7 (by decide)) (fun _ => ?_)
  refine lv_aload_n hx hb dX8_putWord_7 rfl (lv_at hl 1 rfl) ?_
  refine va_get (D := (dC, dI)) (ci := 8) (v := .int 13) (C := RX8) (T := TX8) (N := 13) hx hb hg inG_X8 hown hK hP 0 rfl rfl 1 (by decide) (hg (.fieldLink RX8 13 "AttributeDesk" "tapeSize" "I") gw_2_161) (fun _ h9 => h9) rfl dX8_putWord_8 ?_
  refine lv_sipush (v := 3000) hx hb dX8_putWord_11 (by decide) ?_
  refine lv_icmp_ge (tgt := 46) hx hb dX8_putWord_14 (by decide) (fun c8 => absurd c8 (by decide)) (fun _ => ?_)
  refine lv_aload_n hx hb dX8_putWord_17 rfl (lv_at hl 1 rfl) ?_
  refine va_get (D := (dC, dI)) (ci := 8) (v := .ref ae0) (C := RX8) (T := TX8) (N := 13) hx hb hg inG_X8 hown hK hP 0 rfl rfl 0 (by decide) (hg (.fieldLink RX8 9 "AttributeDesk" "tape" "[B") gw_2_160) (fun _ h9 => h9) rfl dX8_putWord_18 ?_
  refine lv_aload_n hx hb dX8_putWord_21 rfl (lv_at hl 1 rfl) ?_
  refine va_get (D := (dC, dI)) (ci := 8) (v := .int 13) (C := RX8) (T := TX8) (N := 13) hx hb hg inG_X8 hown hK hP 0 rfl rfl 1 (by decide) (hg (.fieldLink RX8 13 "AttributeDesk" "tapeSize" "I") gw_2_161) (fun _ h9 => h9) rfl dX8_putWord_22 ?_
  refine lv_iload_n hx hb dX8_putWord_25 rfl (lv_at hl 2 rfl) ?_
  refine lv_iload_n hx hb dX8_putWord_26 rfl (lv_at hl 0 rfl) ?_
  refine lv_ishr hx hb dX8_putWord_27 ?_
  refine lv_topi (fun x9 ex9 => ?_)
  refine lv_i2b hx hb dX8_putWord_28 rfl ?_
  refine lv_topi (fun x10 ex10 => ?_)
  refine va_bast (D := (dC, dI)) hx hb hK hP hD hS 1 0 rfl rfl (by unfold vp_in; decide) dX8_putWord_29 (fun H locs hP hD hS => ?_)
  obtain ⟨f11, ef11⟩ : ∃ g : Nat → Int32, g = upd f5 (13 : Int32).toNatClampNeg (vp_nar .byte x10) := ⟨_, rfl⟩
  have hP : va_P (dC, dI) vwCl [(ah0, .inr (8, [.ref ae0, .int 13, .ref ae1, .ref ae2, .ref ae3, .ref ae4, .ref ae5, .ref ae6, .ref ae7, .ref ae8, .ref ae9, .int (-1), .int (-1)])), (ae0, .inl (ae10, 3000, .inl f11))] H := by rw [ef11]; exact hP
  have hD : va_D A [(ah0, .inr (8, [.ref ae0, .int 13, .ref ae1, .ref ae2, .ref ae3, .ref ae4, .ref ae5, .ref ae6, .ref ae7, .ref ae8, .ref ae9, .int (-1), .int (-1)])), (ae0, .inl (ae10, 3000, .inl f11))] := by rw [ef11]; exact hD
  refine lv_aload_n hx hb dX8_putWord_30 rfl (lv_at hl 1 rfl) ?_
  refine lv_dup hx hb dX8_putWord_31 rfl ?_
  refine va_get (D := (dC, dI)) (ci := 8) (v := .int 13) (C := RX8) (T := TX8) (N := 13) hx hb hg inG_X8 hown hK hP 0 rfl rfl 1 (by decide) (hg (.fieldLink RX8 13 "AttributeDesk" "tapeSize" "I") gw_2_161) (fun _ h9 => h9) rfl dX8_putWord_32 ?_
  refine lv_iconst (v := 1) hx hb dX8_putWord_35 (by decide) ?_
  refine lv_iadd hx hb dX8_putWord_36 ?_
  refine lv_topi (fun x12 ex12 => ?_)
  obtain rfl : x12 = 14 := ex12.trans (by decide)
  refine va_put (D := (dC, dI)) (ci := 8) (v := .int 14) (ty := .int) (C := RX8) (T := TX8) (N := 13) hx hb hg inG_X8 tyX8 tyX8_ok nmX8 hown hK hP hD hS 0 rfl rfl 1 (by decide) (hg (.fieldLink RX8 13 "AttributeDesk" "tapeSize" "I") gw_2_161) (fun _ h9 => h9) rfl (by decide +kernel) rfl rfl (Nat.le_of_ble_eq_true rfl) dX8_putWord_37 (fun H locs hP hD hS => ?_)
  have hP : va_P (dC, dI) vwCl [(ah0, .inr (8, [.ref ae0, .int 14, .ref ae1, .ref ae2, .ref ae3, .ref ae4, .ref ae5, .ref ae6, .ref ae7, .ref ae8, .ref ae9, .int (-1), .int (-1)])), (ae0, .inl (ae10, 3000, .inl f11))] H := hP
  have hD : va_D A [(ah0, .inr (8, [.ref ae0, .int 14, .ref ae1, .ref ae2, .ref ae3, .ref ae4, .ref ae5, .ref ae6, .ref ae7, .ref ae8, .ref ae9, .int (-1), .int (-1)])), (ae0, .inl (ae10, 3000, .inl f11))] := hD
  refine lv_iinc (v := 8) (lv' := [(2, .int 8), (0, .ref ah0), (1, .int p0)]) hx hb dX8_putWord_40 hl (k := 0) rfl (by decide) (by decide) rfl (fun ls hl => ?_)
  refine lv_goto (tgt := 3) hx hb dX8_putWord_43 (by decide) ?_
  refine lv_iload_n hx hb dX8_putWord_3 rfl (lv_at hl 0 rfl) ?_
  refine lv_if_lt (tgt := 46) hx hb dX8_putWord_4 (by decide) (fun c13 => absurd c13 (by decide)) (fun _ => ?_)
  refine lv_aload_n hx hb dX8_putWord_7 rfl (lv_at hl 1 rfl) ?_
  refine va_get (D := (dC, dI)) (ci := 8) (v := .int 14) (C := RX8) (T := TX8) (N := 13) hx hb hg inG_X8 hown hK hP 0 rfl rfl 1 (by decide) (hg (.fieldLink RX8 13 "AttributeDesk" "tapeSize" "I") gw_2_161) (fun _ h9 => h9) rfl dX8_putWord_8 ?_
  refine lv_sipush (v := 3000) hx hb dX8_putWord_11 (by decide) ?_
  refine lv_icmp_ge (tgt := 46) hx hb dX8_putWord_14 (by decide) (fun c14 => absurd c14 (by decide)) (fun _ => ?_)
  refine lv_aload_n hx hb dX8_putWord_17 rfl (lv_at hl 1 rfl) ?_
  refine va_get (D := (dC, dI)) (ci := 8) (v := .ref ae0) (C := RX8) (T := TX8) (N := 13) hx hb hg inG_X8 hown hK hP 0 rfl rfl 0 (by decide) (hg (.fieldLink RX8 9 "AttributeDesk" "tape" "[B") gw_2_160) (fun _ h9 => h9) rfl dX8_putWord_18 ?_
  refine lv_aload_n hx hb dX8_putWord_21 rfl (lv_at hl 1 rfl) ?_
  refine va_get (D := (dC, dI)) (ci := 8) (v := .int 14) (C := RX8) (T := TX8) (N := 13) hx hb hg inG_X8 hown hK hP 0 rfl rfl 1 (by decide) (hg (.fieldLink RX8 13 "AttributeDesk" "tapeSize" "I") gw_2_161) (fun _ h9 => h9) rfl dX8_putWord_22 ?_
  refine lv_iload_n hx hb dX8_putWord_25 rfl (lv_at hl 2 rfl) ?_
  refine lv_iload_n hx hb dX8_putWord_26 rfl (lv_at hl 0 rfl) ?_
  refine lv_ishr hx hb dX8_putWord_27 ?_
  refine lv_topi (fun x15 ex15 => ?_)
  refine lv_i2b hx hb dX8_putWord_28 rfl ?_
  refine lv_topi (fun x16 ex16 => ?_)
  refine va_bast (D := (dC, dI)) hx hb hK hP hD hS 1 0 rfl rfl (by unfold vp_in; decide) dX8_putWord_29 (fun H locs hP hD hS => ?_)
  obtain ⟨f17, ef17⟩ : ∃ g : Nat → Int32, g = upd f11 (14 : Int32).toNatClampNeg (vp_nar .byte x16) := ⟨_, rfl⟩
  have hP : va_P (dC, dI) vwCl [(ah0, .inr (8, [.ref ae0, .int 14, .ref ae1, .ref ae2, .ref ae3, .ref ae4, .ref ae5, .ref ae6, .ref ae7, .ref ae8, .ref ae9, .int (-1), .int (-1)])), (ae0, .inl (ae10, 3000, .inl f17))] H := by rw [ef17]; exact hP
  have hD : va_D A [(ah0, .inr (8, [.ref ae0, .int 14, .ref ae1, .ref ae2, .ref ae3, .ref ae4, .ref ae5, .ref ae6, .ref ae7, .ref ae8, .ref ae9, .int (-1), .int (-1)])), (ae0, .inl (ae10, 3000, .inl f17))] := by rw [ef17]; exact hD
  refine lv_aload_n hx hb dX8_putWord_30 rfl (lv_at hl 1 rfl) ?_
  refine lv_dup hx hb dX8_putWord_31 rfl ?_
  refine va_get (D := (dC, dI)) (ci := 8) (v := .int 14) (C := RX8) (T := TX8) (N := 13) hx hb hg inG_X8 hown hK hP 0 rfl rfl 1 (by decide) (hg (.fieldLink RX8 13 "AttributeDesk" "tapeSize" "I") gw_2_161) (fun _ h9 => h9) rfl dX8_putWord_32 ?_
  refine lv_iconst (v := 1) hx hb dX8_putWord_35 (by decide) ?_
  refine lv_iadd hx hb dX8_putWord_36 ?_
  refine lv_topi (fun x18 ex18 => ?_)
  obtain rfl : x18 = 15 := ex18.trans (by decide)
  refine va_put (D := (dC, dI)) (ci := 8) (v := .int 15) (ty := .int) (C := RX8) (T := TX8) (N := 13) hx hb hg inG_X8 tyX8 tyX8_ok nmX8 hown hK hP hD hS 0 rfl rfl 1 (by decide) (hg (.fieldLink RX8 13 "AttributeDesk" "tapeSize" "I") gw_2_161) (fun _ h9 => h9) rfl (by decide +kernel) rfl rfl (Nat.le_of_ble_eq_true rfl) dX8_putWord_37 (fun H locs hP hD hS => ?_)
  have hP : va_P (dC, dI) vwCl [(ah0, .inr (8, [.ref ae0, .int 15, .ref ae1, .ref ae2, .ref ae3, .ref ae4, .ref ae5, .ref ae6, .ref ae7, .ref ae8, .ref ae9, .int (-1), .int (-1)])), (ae0, .inl (ae10, 3000, .inl f17))] H := hP
  have hD : va_D A [(ah0, .inr (8, [.ref ae0, .int 15, .ref ae1, .ref ae2, .ref ae3, .ref ae4, .ref ae5, .ref ae6, .ref ae7, .ref ae8, .ref ae9, .int (-1), .int (-1)])), (ae0, .inl (ae10, 3000, .inl f17))] := hD
  refine lv_iinc (v := 0) (lv' := [(2, .int 0), (0, .ref ah0), (1, .int p0)]) hx hb dX8_putWord_40 hl (k := 0) rfl (by decide) (by decide) rfl (fun ls hl => ?_)
  refine lv_goto (tgt := 3) hx hb dX8_putWord_43 (by decide) ?_
  refine lv_iload_n hx hb dX8_putWord_3 rfl (lv_at hl 0 rfl) ?_
  refine lv_if_lt (tgt := 46) hx hb dX8_putWord_4 (by decide) (fun c19 => absurd c19 (by decide)) (fun _ => ?_)
  refine lv_aload_n hx hb dX8_putWord_7 rfl (lv_at hl 1 rfl) ?_
  refine va_get (D := (dC, dI)) (ci := 8) (v := .int 15) (C := RX8) (T := TX8) (N := 13) hx hb hg inG_X8 hown hK hP 0 rfl rfl 1 (by decide) (hg (.fieldLink RX8 13 "AttributeDesk" "tapeSize" "I") gw_2_161) (fun _ h9 => h9) rfl dX8_putWord_8 ?_
  refine lv_sipush (v := 3000) hx hb dX8_putWord_11 (by decide) ?_
  refine lv_icmp_ge (tgt := 46) hx hb dX8_putWord_14 (by decide) (fun c20 => absurd c20 (by decide)) (fun _ => ?_)
  refine lv_aload_n hx hb dX8_putWord_17 rfl (lv_at hl 1 rfl) ?_
  refine va_get (D := (dC, dI)) (ci := 8) (v := .ref ae0) (C := RX8) (T := TX8) (N := 13) hx hb hg inG_X8 hown hK hP 0 rfl rfl 0 (by decide) (hg (.fieldLink RX8 9 "AttributeDesk" "tape" "[B") gw_2_160) (fun _ h9 => h9) rfl dX8_putWord_18 ?_
  refine lv_aload_n hx hb dX8_putWord_21 rfl (lv_at hl 1 rfl) ?_
  refine va_get (D := (dC, dI)) (ci := 8) (v := .int 15) (C := RX8) (T := TX8) (N := 13) hx hb hg inG_X8 hown hK hP 0 rfl rfl 1 (by decide) (hg (.fieldLink RX8 13 "AttributeDesk" "tapeSize" "I") gw_2_161) (fun _ h9 => h9) rfl dX8_putWord_22 ?_
  refine lv_iload_n hx hb dX8_putWord_25 rfl (lv_at hl 2 rfl) ?_
  refine lv_iload_n hx hb dX8_putWord_26 rfl (lv_at hl 0 rfl) ?_
  refine lv_ishr hx hb dX8_putWord_27 ?_
  refine lv_topi (fun x21 ex21 => ?_)
  refine lv_i2b hx hb dX8_putWord_28 rfl ?_
  refine lv_topi (fun x22 ex22 => ?_)
  refine va_bast (D := (dC, dI)) hx hb hK hP hD hS 1 0 rfl rfl (by unfold vp_in; decide) dX8_putWord_29 (fun H locs hP hD hS => ?_)
  obtain ⟨f23, ef23⟩ : ∃ g : Nat → Int32, g = upd f17 (15 : Int32).toNatClampNeg (vp_nar .byte x22) := ⟨_, rfl⟩
  have hP : va_P (dC, dI) vwCl [(ah0, .inr (8, [.ref ae0, .int 15, .ref ae1, .ref ae2, .ref ae3, .ref ae4, .ref ae5, .ref ae6, .ref ae7, .ref ae8, .ref ae9, .int (-1), .int (-1)])), (ae0, .inl (ae10, 3000, .inl f23))] H := by rw [ef23]; exact hP
  have hD : va_D A [(ah0, .inr (8, [.ref ae0, .int 15, .ref ae1, .ref ae2, .ref ae3, .ref ae4, .ref ae5, .ref ae6, .ref ae7, .ref ae8, .ref ae9, .int (-1), .int (-1)])), (ae0, .inl (ae10, 3000, .inl f23))] := by rw [ef23]; exact hD
  refine lv_aload_n hx hb dX8_putWord_30 rfl (lv_at hl 1 rfl) ?_
  refine lv_dup hx hb dX8_putWord_31 rfl ?_
  refine va_get (D := (dC, dI)) (ci := 8) (v := .int 15) (C := RX8) (T := TX8) (N := 13) hx hb hg inG_X8 hown hK hP 0 rfl rfl 1 (by decide) (hg (.fieldLink RX8 13 "AttributeDesk" "tapeSize" "I") gw_2_161) (fun _ h9 => h9) rfl dX8_putWord_32 ?_
  refine lv_iconst (v := 1) hx hb dX8_putWord_35 (by decide) ?_
  refine lv_iadd hx hb dX8_putWord_36 ?_
  refine lv_topi (fun x24 ex24 => ?_)
  obtain rfl : x24 = 16 := ex24.trans (by decide)
  refine va_put (D := (dC, dI)) (ci := 8) (v := .int 16) (ty := .int) (C := RX8) (T := TX8) (N := 13) hx hb hg inG_X8 tyX8 tyX8_ok nmX8 hown hK hP hD hS 0 rfl rfl 1 (by decide) (hg (.fieldLink RX8 13 "AttributeDesk" "tapeSize" "I") gw_2_161) (fun _ h9 => h9) rfl (by decide +kernel) rfl rfl (Nat.le_of_ble_eq_true rfl) dX8_putWord_37 (fun H locs hP hD hS => ?_)
  have hP : va_P (dC, dI) vwCl [(ah0, .inr (8, [.ref ae0, .int 16, .ref ae1, .ref ae2, .ref ae3, .ref ae4, .ref ae5, .ref ae6, .ref ae7, .ref ae8, .ref ae9, .int (-1), .int (-1)])), (ae0, .inl (ae10, 3000, .inl f23))] H := hP
  have hD : va_D A [(ah0, .inr (8, [.ref ae0, .int 16, .ref ae1, .ref ae2, .ref ae3, .ref ae4, .ref ae5, .ref ae6, .ref ae7, .ref ae8, .ref ae9, .int (-1), .int (-1)])), (ae0, .inl (ae10, 3000, .inl f23))] := hD
  refine lv_iinc (v := (-8)) (lv' := [(2, .int (-8)), (0, .ref ah0), (1, .int p0)]) hx hb dX8_putWord_40 hl (k := 0) rfl (by decide) (by decide) rfl (fun ls hl => ?_)
  refine lv_goto (tgt := 3) hx hb dX8_putWord_43 (by decide) ?_
  refine lv_iload_n hx hb dX8_putWord_3 rfl (lv_at hl 0 rfl) ?_
  refine lv_if_lt (tgt := 46) hx hb dX8_putWord_4 (by decide) (fun _ => ?_) (fun c25 => absurd c25 (by decide))
  have hP9 := hP.sub (ws' := [(ah0, .inr (8, [.ref ae0, .int 16, .ref ae1, .ref ae2, .ref ae3, .ref ae4, .ref ae5, .ref ae6, .ref ae7, .ref ae8, .ref ae9, .int (-1), .int (-1)])), (ae0, .inl (ae10, 3000, .inl f23))]) [0, 1] rfl
  have hD9 := hD.sub (ws' := [(ah0, .inr (8, [.ref ae0, .int 16, .ref ae1, .ref ae2, .ref ae3, .ref ae4, .ref ae5, .ref ae6, .ref ae7, .ref ae8, .ref ae9, .int (-1), .int (-1)])), (ae0, .inl (ae10, 3000, .inl f23))]) [0, 1] (by decide) rfl
  have hK9 := hK.sub (tys' := [(ae10, .byte)]) [0] rfl
  refine W.widen (k := 0) (n := 0) (Nat.le_of_ble_eq_true rfl) (Nat.le_of_ble_eq_true rfl) ?_
  exact W.vret hx hb hr (fun t ht hW => ⟨⟨(), rfl, trivial, f23, by rw [ht]; exact hP9, va_K.moved hW.alike hK9, hD9⟩, hS.F ht⟩) hS.2.2 dX8_putWord_46

set_option maxHeartbeats 4000000 in
set_option maxRecDepth 100000 in
theorem c_X8_putWord_16 (l : Launch) (dC : Nat → ClassId) (dI : Nat → Nat → Nat) (ah0 ae0 ae1 ae2 ae3 ae4 ae5 ae6 ae7 ae8 ae9 : Nat) (ae10 : ClassId) (sz : Nat) (p0 : Int32) (f0 : Nat → Int32) : Met l yX8_putWord wyX8_putWord ({ frames := 0, cells := 0, slots := 0, locals := 0 }) (va_Pc [.ref ah0, .int p0] (fun U => U.heap.size = sz ∧ va_P (dC, dI) vwCl [(ah0, .inr (8, [.ref ae0, .int 16, .ref ae1, .ref ae2, .ref ae3, .ref ae4, .ref ae5, .ref ae6, .ref ae7, .ref ae8, .ref ae9, .int (-1), .int (-1)])), (ae0, .inl (ae10, 3000, .inl f0))] U.heap ∧ va_K (dC, dI) vwCl [(ae10, .byte)] U ∧ va_D (fun _ => True) [(ah0, .inr (8, [.ref ae0, .int 16, .ref ae1, .ref ae2, .ref ae3, .ref ae4, .ref ae5, .ref ae6, .ref ae7, .ref ae8, .ref ae9, .int (-1), .int (-1)])), (ae0, .inl (ae10, 3000, .inl f0))])) (va_Qv (fun _ : Unit => True) (fun _ t => ∃ (e0 : Nat → Int32), va_P (dC, dI) vwCl [(ah0, .inr (8, [.ref ae0, .int 20, .ref ae1, .ref ae2, .ref ae3, .ref ae4, .ref ae5, .ref ae6, .ref ae7, .ref ae8, .ref ae9, .int (-1), .int (-1)])), (ae0, .inl (ae10, 3000, .inl e0))] t.heap ∧ va_K (dC, dI) vwCl [(ae10, .byte)] t ∧ va_D (va_A [(ah0, .inr (8, [.ref ae0, .int 16, .ref ae1, .ref ae2, .ref ae3, .ref ae4, .ref ae5, .ref ae6, .ref ae7, .ref ae8, .ref ae9, .int (-1), .int (-1)])), (ae0, .inl (ae10, 3000, .inl f0))] sz) [(ah0, .inr (8, [.ref ae0, .int 20, .ref ae1, .ref ae2, .ref ae3, .ref ae4, .ref ae5, .ref ae6, .ref ae7, .ref ae8, .ref ae9, .int (-1), .int (-1)])), (ae0, .inl (ae10, 3000, .inl e0))]) (va_A [(ah0, .inr (8, [.ref ae0, .int 16, .ref ae1, .ref ae2, .ref ae3, .ref ae4, .ref ae5, .ref ae6, .ref ae7, .ref ae8, .ref ae9, .int (-1), .int (-1)])), (ae0, .inl (ae10, 3000, .inl f0))] sz)) 0 0 (va_A [(ah0, .inr (8, [.ref ae0, .int 16, .ref ae1, .ref ae2, .ref ae3, .ref ae4, .ref ae5, .ref ae6, .ref ae7, .ref ae8, .ref ae9, .int (-1), .int (-1)])), (ae0, .inl (ae10, 3000, .inl f0))] sz) := by
  refine Met.ofW (cc := cX8_putWord) (maxL := 3) (ret := none) (by decide) rfl ?_
  intro p e s m args below meth c s₁ B hml hv
  obtain ⟨rfl, hsz, hP, hK, hD0⟩ := hv
  have hx := B.exec
  have hb := B.bytes
  have hr := B.returns
  have hts := atoms_spec (ws := wyX8_putWord) B.pre
  have hg : ∀ w ∈ lw_G, w.before _ s = true := fun w h => hts w (List.mem_cons_of_mem _ h)
  have hown : s.vm.findClass RX8 = some m.cls := findClass_of_methodNamed B.named
  have hlocks := B.notSynchronized
  subst hsz
  have hD := hD0.self (sz := s.heap.size)
  generalize hAe : va_A [(ah0, .inr (8, [.ref ae0, .int 16, .ref ae1, .ref ae2, .ref ae3, .ref ae4, .ref ae5, .ref ae6, .ref ae7, .ref ae8, .ref ae9, .int (-1), .int (-1)])), (ae0, .inl (ae10, 3000, .inl f0))] s.heap.size = A at hD ⊢
  have hA : ∀ q : Nat, s.heap.size ≤ q → A q := fun q h => by rw [← hAe]; exact Or.inr h
  have hS : va_S A s.heap s.heap [] := va_S.rf
  have hP : va_P (dC, dI) vwCl [(ah0, .inr (8, [.ref ae0, .int 16, .ref ae1, .ref ae2, .ref ae3, .ref ae4, .ref ae5, .ref ae6, .ref ae7, .ref ae8, .ref ae9, .int (-1), .int (-1)])), (ae0, .inl (ae10, 3000, .inl f0))] s.heap := hP
  have hl := lv_entry ([.ref ah0, .int p0]) (n := 3) (Nat.le_of_ble_eq_true rfl)
  rw [lg_entry_eq]
  generalize (lg_sl ([.ref ah0, .int p0]) ++ List.replicate (3 - (lg_sl ([.ref ah0, .int p0])).length) Slot.unset).toArray = ls at hl ⊢
  have hl : lv_has ls 3 [(0, .ref ah0), (1, .int p0)] := hl
  refine lv_bipush (v := 24) hx hb dX8_putWord_0 (by decide) ?_
  refine lv_istore_n (lv' := [(2, .int 24), (0, .ref ah0), (1, .int p0)]) hx hb dX8_putWord_2 rfl hl (by decide) rfl (fun ls hl => ?_)
  refine lv_iload_n hx hb dX8_putWord_3 rfl (lv_at hl 0 rfl) ?_
  refine lv_if_lt (tgt := 46) hx hb dX8_putWord_4 (by decide) (fun c1 => absurd c1 (by decide)) (fun _ => ?_)
  refine lv_aload_n hx hb dX8_putWord_7 rfl (lv_at hl 1 rfl) ?_
  refine va_get (D := (dC, dI)) (ci := 8) (v := .int 16) (C := RX8) (T := TX8) (N := 13) hx hb hg inG_X8 hown hK hP 0 rfl rfl 1 (by decide) (hg (.fieldLink RX8 13 "AttributeDesk" "tapeSize" "I") gw_2_161) (fun _ h9 => h9) rfl dX8_putWord_8 ?_
  refine lv_sipush (v := 3000) hx hb dX8_putWord_11 (by decide) ?_
  refine lv_icmp_ge (tgt := 46) hx hb dX8_putWord_14 (by decide) (fun c2 => absurd c2 (by decide)) (fun _ => ?_)
  refine lv_aload_n hx hb dX8_putWord_17 rfl (lv_at hl 1 rfl) ?_
  refine va_get (D := (dC, dI)) (ci := 8) (v := .ref ae0) (C := RX8) (T := TX8) (N := 13) hx hb hg inG_X8 hown hK hP 0 rfl rfl 0 (by decide) (hg (.fieldLink RX8 9 "AttributeDesk" "tape" "[B") gw_2_160) (fun _ h9 => h9) rfl dX8_putWord_18 ?_
  refine lv_aload_n hx hb dX8_putWord_21 rfl (lv_at hl 1 rfl) ?_
  refine va_get (D := (dC, dI)) (ci := 8) (v := .int 16) (C := RX8) (T := TX8) (N := 13) hx hb hg inG_X8 hown hK hP 0 rfl rfl 1 (by decide) (hg (.fieldLink RX8 13 "AttributeDesk" "tapeSize" "I") gw_2_161) (fun _ h9 => h9) rfl dX8_putWord_22 ?_
  refine lv_iload_n hx hb dX8_putWord_25 rfl (lv_at hl 2 rfl) ?_
  refine lv_iload_n hx hb dX8_putWord_26 rfl (lv_at hl 0 rfl) ?_
  refine lv_ishr hx hb dX8_putWord_27 ?_
  refine lv_topi (fun x3 ex3 => ?_)
  refine lv_i2b hx hb dX8_putWord_28 rfl ?_
  refine lv_topi (fun x4 ex4 => ?_)
  refine va_bast (D := (dC, dI)) hx hb hK hP hD hS 1 0 rfl rfl (by unfold vp_in; decide) dX8_putWord_29 (fun H locs hP hD hS => ?_)
  obtain ⟨f5, ef5⟩ : ∃ g : Nat → Int32, g = upd f0 (16 : Int32).toNatClampNeg (vp_nar .byte x4) := ⟨_, rfl⟩
  have hP : va_P (dC, dI) vwCl [(ah0, .inr (8, [.ref ae0, .int 16, .ref ae1, .ref ae2, .ref ae3, .ref ae4, .ref ae5, .ref ae6, .ref ae7, .ref ae8, .ref ae9, .int (-1), .int (-1)])), (ae0, .inl (ae10, 3000, .inl f5))] H := by rw [ef5]; exact hP
  have hD : va_D A [(ah0, .inr (8, [.ref ae0, .int 16, .ref ae1, .ref ae2, .ref ae3, .ref ae4, .ref ae5, .ref ae6, .ref ae7, .ref ae8, .ref ae9, .int (-1), .int (-1)])), (ae0, .inl (ae10, 3000, .inl f5))] := by rw [ef5]; exact hD
  refine lv_aload_n hx hb dX8_putWord_30 rfl (lv_at hl 1 rfl) ?_
  refine lv_dup hx hb dX8_putWord_31 rfl ?_
  refine va_get (D := (dC, dI)) (ci := 8) (v := .int 16) (C := RX8) (T := TX8) (N := 13) hx hb hg inG_X8 hown hK hP 0 rfl rfl 1 (by decide) (hg (.fieldLink RX8 13 "AttributeDesk" "tapeSize" "I") gw_2_161) (fun _ h9 => h9) rfl dX8_putWord_32 ?_
  refine lv_iconst (v := 1) hx hb dX8_putWord_35 (by decide) ?_
  refine lv_iadd hx hb dX8_putWord_36 ?_
  refine lv_topi (fun x6 ex6 => ?_)
  obtain rfl : x6 = 17 := ex6.trans (by decide)
  refine va_put (D := (dC, dI)) (ci := 8) (v := .int 17) (ty := .int) (C := RX8) (T := TX8) (N := 13) hx hb hg inG_X8 tyX8 tyX8_ok nmX8 hown hK hP hD hS 0 rfl rfl 1 (by decide) (hg (.fieldLink RX8 13 "AttributeDesk" "tapeSize" "I") gw_2_161) (fun _ h9 => h9) rfl (by decide +kernel) rfl rfl (Nat.le_of_ble_eq_true rfl) dX8_putWord_37 (fun H locs hP hD hS => ?_)
  have hP : va_P (dC, dI) vwCl [(ah0, .inr (8, [.ref ae0, .int 17, .ref ae1, .ref ae2, .ref ae3, .ref ae4, .ref ae5, .ref ae6, .ref ae7, .ref ae8, .ref ae9, .int (-1), .int (-1)])), (ae0, .inl (ae10, 3000, .inl f5))] H := hP
  have hD : va_D A [(ah0, .inr (8, [.ref ae0, .int 17, .ref ae1, .ref ae2, .ref ae3, .ref ae4, .ref ae5, .ref ae6, .ref ae7, .ref ae8, .ref ae9, .int (-1), .int (-1)])), (ae0, .inl (ae10, 3000, .inl f5))] := hD
  refine lv_iinc (v := 16) (lv' := [(2, .int 16), (0, .ref ah0), (1, .int p0)]) hx hb dX8_putWord_40 hl (k := 0) rfl (by decide) (by decide) rfl (fun ls hl => ?_)
  refine lv_goto (tgt := 3) hx hb dX8_putWord_43 (by decide) ?_
  refine lv_iload_n hx hb dX8_putWord_3 rfl (lv_at hl 0 rfl) ?_
  refine lv_if_lt (tgt := 46) hx hb dX8_putWord_4 (by decide) (fun c7 => absurd c7 (by decide)) (fun _ => ?_)
  refine lv_aload_n hx hb dX8_putWord_7 rfl (lv_at hl 1 rfl) ?_
  refine va_get (D := (dC, dI)) (ci := 8) (v := .int 17) (C := RX8) (T := TX8) (N := 13) hx hb hg inG_X8 hown hK hP 0 rfl rfl 1 (by decide) (hg (.fieldLink RX8 13 "AttributeDesk" "tapeSize" "I") gw_2_161) (fun _ h9 => h9) rfl dX8_putWord_8 ?_
  refine lv_sipush (v := 3000) hx hb dX8_putWord_11 (by decide) ?_
  refine lv_icmp_ge (tgt := 46) hx hb dX8_putWord_14 (by decide) (fun c8 => absurd c8 (by decide)) (fun _ => ?_)
  refine lv_aload_n hx hb dX8_putWord_17 rfl (lv_at hl 1 rfl) ?_
  refine va_get (D := (dC, dI)) (ci := 8) (v := .ref ae0) (C := RX8) (T := TX8) (N := 13) hx hb hg inG_X8 hown hK hP 0 rfl rfl 0 (by decide) (hg (.fieldLink RX8 9 "AttributeDesk" "tape" "[B") gw_2_160) (fun _ h9 => h9) rfl dX8_putWord_18 ?_
  refine lv_aload_n hx hb dX8_putWord_21 rfl (lv_at hl 1 rfl) ?_
  refine va_get (D := (dC, dI)) (ci := 8) (v := .int 17) (C := RX8) (T := TX8) (N := 13) hx hb hg inG_X8 hown hK hP 0 rfl rfl 1 (by decide) (hg (.fieldLink RX8 13 "AttributeDesk" "tapeSize" "I") gw_2_161) (fun _ h9 => h9) rfl dX8_putWord_22 ?_
  refine lv_iload_n hx hb dX8_putWord_25 rfl (lv_at hl 2 rfl) ?_
  refine lv_iload_n hx hb dX8_putWord_26 rfl (lv_at hl 0 rfl) ?_
  refine lv_ishr hx hb dX8_putWord_27 ?_
  refine lv_topi (fun x9 ex9 => ?_)
  refine lv_i2b hx hb dX8_putWord_28 rfl ?_
  refine lv_topi (fun x10 ex10 => ?_)
  refine va_bast (D := (dC, dI)) hx hb hK hP hD hS 1 0 rfl rfl (by unfold vp_in; decide) dX8_putWord_29 (fun H locs hP hD hS => ?_)
  obtain ⟨f11, ef11⟩ : ∃ g : Nat → Int32, g = upd f5 (17 : Int32).toNatClampNeg (vp_nar .byte x10) := ⟨_, rfl⟩
  have hP : va_P (dC, dI) vwCl [(ah0, .inr (8, [.ref ae0, .int 17, .ref ae1, .ref ae2, .ref ae3, .ref ae4, .ref ae5, .ref ae6, .ref ae7, .ref ae8, .ref ae9, .int (-1), .int (-1)])), (ae0, .inl (ae10, 3000, .inl f11))] H := by rw [ef11]; exact hP
  have hD : va_D A [(ah0, .inr (8, [.ref ae0, .int 17, .ref ae1, .ref ae2, .ref ae3, .ref ae4, .ref ae5, .ref ae6, .ref ae7, .ref ae8, .ref ae9, .int (-1), .int (-1)])), (ae0, .inl (ae10, 3000, .inl f11))] := by rw [ef11]; exact hD
  refine lv_aload_n hx hb dX8_putWord_30 rfl (lv_at hl 1 rfl) ?_
  refine lv_dup hx hb dX8_putWord_31 rfl ?_
  refine va_get (D := (dC, dI)) (ci := 8) (v := .int 17) (C := RX8) (T := TX8) (N := 13) hx hb hg inG_X8 hown hK hP 0 rfl rfl 1 (by decide) (hg (.fieldLink RX8 13 "AttributeDesk" "tapeSize" "I") gw_2_161) (fun _ h9 => h9) rfl dX8_putWord_32 ?_
  refine lv_iconst (v := 1) hx hb dX8_putWord_35 (by decide) ?_
  refine lv_iadd hx hb dX8_putWord_36 ?_
  refine lv_topi (fun x12 ex12 => ?_)
  obtain rfl : x12 = 18 := ex12.trans (by decide)
  refine va_put (D := (dC, dI)) (ci := 8) (v := .int 18) (ty := .int) (C := RX8) (T := TX8) (N := 13) hx hb hg inG_X8 tyX8 tyX8_ok nmX8 hown hK hP hD hS 0 rfl rfl 1 (by decide) (hg (.fieldLink RX8 13 "AttributeDesk" "tapeSize" "I") gw_2_161) (fun _ h9 => h9) rfl (by decide +kernel) rfl rfl (Nat.le_of_ble_eq_true rfl) dX8_putWord_37 (fun H locs hP hD hS => ?_)
  have hP : va_P (dC, dI) vwCl [(ah0, .inr (8, [.ref ae0, .int 18, .ref ae1, .ref ae2, .ref ae3, .ref ae4, .ref ae5, .ref ae6, .ref ae7, .ref ae8, .ref ae9, .int (-1), .int (-1)])), (ae0, .inl (ae10, 3000, .inl f11))] H := hP
  have hD : va_D A [(ah0, .inr (8, [.ref ae0, .int 18, .ref ae1, .ref ae2, .ref ae3, .ref ae4, .ref ae5, .ref ae6, .ref ae7, .ref ae8, .ref ae9, .int (-1), .int (-1)])), (ae0, .inl (ae10, 3000, .inl f11))] := hD
  refine lv_iinc (v := 8) (lv' := [(2, .int 8), (0, .ref ah0), (1, .int p0)]) hx hb dX8_putWord_40 hl (k := 0) rfl (by decide) (by decide) rfl (fun ls hl => ?_)
  refine lv_goto (tgt := 3) hx hb dX8_putWord_43 (by decide) ?_
  refine lv_iload_n hx hb dX8_putWord_3 rfl (lv_at hl 0 rfl) ?_
  refine lv_if_lt (tgt := 46) hx hb dX8_putWord_4 (by decide) (fun c13 => absurd c13 (by decide)) (fun _ => ?_)
  refine lv_aload_n hx hb dX8_putWord_7 rfl (lv_at hl 1 rfl) ?_
  refine va_get (D := (dC, dI)) (ci := 8) (v := .int 18) (C := RX8) (T := TX8) (N := 13) hx hb hg inG_X8 hown hK hP 0 rfl rfl 1 (by decide) (hg (.fieldLink RX8 13 "AttributeDesk" "tapeSize" "I") gw_2_161) (fun _ h9 => h9) rfl dX8_putWord_8 ?_
  refine lv_sipush (v := 3000) hx hb dX8_putWord_11 (by decide) ?_
  refine lv_icmp_ge (tgt := 46) hx hb dX8_putWord_14 (by decide) (fun c14 => absurd c14 (by decide)) (fun _ => ?_)
  refine lv_aload_n hx hb dX8_putWord_17 rfl (lv_at hl 1 rfl) ?_
  refine va_get (D := (dC, dI)) (ci := 8) (v := .ref ae0) (C := RX8) (T := TX8) (N := 13) hx hb hg inG_X8 hown hK hP 0 rfl rfl 0 (by decide) (hg (.fieldLink RX8 9 "AttributeDesk" "tape" "[B") gw_2_160) (fun _ h9 => h9) rfl dX8_putWord_18 ?_
  refine lv_aload_n hx hb dX8_putWord_21 rfl (lv_at hl 1 rfl) ?_
  refine va_get (D := (dC, dI)) (ci := 8) (v := .int 18) (C := RX8) (T := TX8) (N := 13) hx hb hg inG_X8 hown hK hP 0 rfl rfl 1 (by decide) (hg (.fieldLink RX8 13 "AttributeDesk" "tapeSize" "I") gw_2_161) (fun _ h9 => h9) rfl dX8_putWord_22 ?_
  refine lv_iload_n hx hb dX8_putWord_25 rfl (lv_at hl 2 rfl) ?_
  refine lv_iload_n hx hb dX8_putWord_26 rfl (lv_at hl 0 rfl) ?_
  refine lv_ishr hx hb dX8_putWord_27 ?_
  refine lv_topi (fun x15 ex15 => ?_)
  refine lv_i2b hx hb dX8_putWord_28 rfl ?_
  refine lv_topi (fun x16 ex16 => ?_)
  refine va_bast (D := (dC, dI)) hx hb hK hP hD hS 1 0 rfl rfl (by unfold vp_in; decide) dX8_putWord_29 (fun H locs hP hD hS => ?_)
  obtain ⟨f17, ef17⟩ : ∃ g : Nat → Int32, g = upd f11 (18 : Int32).toNatClampNeg (vp_nar .byte x16) := ⟨_, rfl⟩
  have hP : va_P (dC, dI) vwCl [(ah0, .inr (8, [.ref ae0, .int 18, .ref ae1, .ref ae2, .ref ae3, .ref ae4, .ref ae5, .ref ae6, .ref ae7, .ref ae8, .ref ae9, .int (-1), .int (-1)])), (ae0, .inl (ae10, 3000, .inl f17))] H := by rw [ef17]; exact hP
  have hD : va_D A [(ah0, .inr (8, [.ref ae0, .int 18, .ref ae1, .ref ae2, .ref ae3, .ref ae4, .ref ae5, .ref ae6, .ref ae7, .ref ae8, .ref ae9, .int (-1), .int (-1)])), (ae0, .inl (ae10, 3000, .inl f17))] := by rw [ef17]; exact hD
  refine lv_aload_n hx hb dX8_putWord_30 rfl (lv_at hl 1 rfl) ?_
  refine lv_dup hx hb dX8_putWord_31 rfl ?_
  refine va_get (D := (dC, dI)) (ci := 8) (v := .int 18) (C := RX8) (T := TX8) (N := 13) hx hb hg inG_X8 hown hK hP 0 rfl rfl 1 (by decide) (hg (.fieldLink RX8 13 "AttributeDesk" "tapeSize" "I") gw_2_161) (fun _ h9 => h9) rfl dX8_putWord_32 ?_
  refine lv_iconst (v := 1) hx hb dX8_putWord_35 (by decide) ?_
  refine lv_iadd hx hb dX8_putWord_36 ?_
  refine lv_topi (fun x18 ex18 => ?_)
  obtain rfl : x18 = 19 := ex18.trans (by decide)
  refine va_put (D := (dC, dI)) (ci := 8) (v := .int 19) (ty := .int) (C := RX8) (T := TX8) (N := 13) hx hb hg inG_X8 tyX8 tyX8_ok nmX8 hown hK hP hD hS 0 rfl rfl 1 (by decide) (hg (.fieldLink RX8 13 "AttributeDesk" "tapeSize" "I") gw_2_161) (fun _ h9 => h9) rfl (by decide +kernel) rfl rfl (Nat.le_of_ble_eq_true rfl) dX8_putWord_37 (fun H locs hP hD hS => ?_)
  have hP : va_P (dC, dI) vwCl [(ah0, .inr (8, [.ref ae0, .int 19, .ref ae1, .ref ae2, .ref ae3, .ref ae4, .ref ae5, .ref ae6, .ref ae7, .ref ae8, .ref ae9, .int (-1), .int (-1)])), (ae0, .inl (ae10, 3000, .inl f17))] H := hP
  have hD : va_D A [(ah0, .inr (8, [.ref ae0, .int 19, .ref ae1, .ref ae2, .ref ae3, .ref ae4, .ref ae5, .ref ae6, .ref ae7, .ref ae8, .ref ae9, .int (-1), .int (-1)])), (ae0, .inl (ae10, 3000, .inl f17))] := hD
  refine lv_iinc (v := 0) (lv' := [(2, .int 0), (0, .ref ah0), (1, .int p0)]) hx hb dX8_putWord_40 hl (k := 0) rfl (by decide) (by decide) rfl (fun ls hl => ?_)
  refine lv_goto (tgt := 3) hx hb dX8_putWord_43 (by decide) ?_
  refine lv_iload_n hx hb dX8_putWord_3 rfl (lv_at hl 0 rfl) ?_
  refine lv_if_lt (tgt := 46) hx hb dX8_putWord_4 (by decide) (fun c19 => absurd c19 (by decide)) (fun _ => ?_)
  refine lv_aload_n hx hb dX8_putWord_7 rfl (lv_at hl 1 rfl) ?_
  refine va_get (D := (dC, dI)) (ci := 8) (v := .int 19) (C := RX8) (T := TX8) (N := 13) hx hb hg inG_X8 hown hK hP 0 rfl rfl 1 (by decide) (hg (.fieldLink RX8 13 "AttributeDesk" "tapeSize" "I") gw_2_161) (fun _ h9 => h9) rfl dX8_putWord_8 ?_
  refine lv_sipush (v := 3000) hx hb dX8_putWord_11 (by decide) ?_
  refine lv_icmp_ge (tgt := 46) hx hb dX8_putWord_14 (by decide) (fun c20 => absurd c20 (by decide)) (fun _ => ?_)
  refine lv_aload_n hx hb dX8_putWord_17 rfl (lv_at hl 1 rfl) ?_
  refine va_get (D := (dC, dI)) (ci := 8) (v := .ref ae0) (C := RX8) (T := TX8) (N := 13) hx hb hg inG_X8 hown hK hP 0 rfl rfl 0 (by decide) (hg (.fieldLink RX8 9 "AttributeDesk" "tape" "[B") gw_2_160) (fun _ h9 => h9) rfl dX8_putWord_18 ?_
  refine lv_aload_n hx hb dX8_putWord_21 rfl (lv_at hl 1 rfl) ?_
  refine va_get (D := (dC, dI)) (ci := 8) (v := .int 19) (C := RX8) (T := TX8) (N := 13) hx hb hg inG_X8 hown hK hP 0 rfl rfl 1 (by decide) (hg (.fieldLink RX8 13 "AttributeDesk" "tapeSize" "I") gw_2_161) (fun _ h9 => h9) rfl dX8_putWord_22 ?_
  refine lv_iload_n hx hb dX8_putWord_25 rfl (lv_at hl 2 rfl) ?_
  refine lv_iload_n hx hb dX8_putWord_26 rfl (lv_at hl 0 rfl) ?_
  refine lv_ishr hx hb dX8_putWord_27 ?_
  refine lv_topi (fun x21 ex21 => ?_)
  refine lv_i2b hx hb dX8_putWord_28 rfl ?_
  refine lv_topi (fun x22 ex22 => ?_)
  refine va_bast (D := (dC, dI)) hx hb hK hP hD hS 1 0 rfl rfl (by unfold vp_in; decide) dX8_putWord_29 (fun H locs hP hD hS => ?_)
  obtain ⟨f23, ef23⟩ : ∃ g : Nat → Int32, g = upd f17 (19 : Int32).toNatClampNeg (vp_nar .byte x22) := ⟨_, rfl⟩
  have hP : va_P (dC, dI) vwCl [(ah0, .inr (8, [.ref ae0, .int 19, .ref ae1, .ref ae2, .ref ae3, .ref ae4, .ref ae5, .ref ae6, .ref ae7, .ref ae8, .ref ae9, .int (-1), .int (-1)])), (ae0, .inl (ae10, 3000, .inl f23))] H := by rw [ef23]; exact hP
  have hD : va_D A [(ah0, .inr (8, [.ref ae0, .int 19, .ref ae1, .ref ae2, .ref ae3, .ref ae4, .ref ae5, .ref ae6, .ref ae7, .ref ae8, .ref ae9, .int (-1), .int (-1)])), (ae0, .inl (ae10, 3000, .inl f23))] := by rw [ef23]; exact hD
  refine lv_aload_n hx hb dX8_putWord_30 rfl (lv_at hl 1 rfl) ?_
  refine lv_dup hx hb dX8_putWord_31 rfl ?_
  refine va_get (D := (dC, dI)) (ci := 8) (v := .int 19) (C := RX8) (T := TX8) (N := 13) hx hb hg inG_X8 hown hK hP 0 rfl rfl 1 (by decide) (hg (.fieldLink RX8 13 "AttributeDesk" "tapeSize" "I") gw_2_161) (fun _ h9 => h9) rfl dX8_putWord_32 ?_
  refine lv_iconst (v := 1) hx hb dX8_putWord_35 (by decide) ?_
  refine lv_iadd hx hb dX8_putWord_36 ?_
  refine lv_topi (fun x24 ex24 => ?_)
  obtain rfl : x24 = 20 := ex24.trans (by decide)
  refine va_put (D := (dC, dI)) (ci := 8) (v := .int 20) (ty := .int) (C := RX8) (T := TX8) (N := 13) hx hb hg inG_X8 tyX8 tyX8_ok nmX8 hown hK hP hD hS 0 rfl rfl 1 (by decide) (hg (.fieldLink RX8 13 "AttributeDesk" "tapeSize" "I") gw_2_161) (fun _ h9 => h9) rfl (by decide +kernel) rfl rfl (Nat.le_of_ble_eq_true rfl) dX8_putWord_37 (fun H locs hP hD hS => ?_)
  have hP : va_P (dC, dI) vwCl [(ah0, .inr (8, [.ref ae0, .int 20, .ref ae1, .ref ae2, .ref ae3, .ref ae4, .ref ae5, .ref ae6, .ref ae7, .ref ae8, .ref ae9, .int (-1), .int (-1)])), (ae0, .inl (ae10, 3000, .inl f23))] H := hP
  have hD : va_D A [(ah0, .inr (8, [.ref ae0, .int 20, .ref ae1, .ref ae2, .ref ae3, .ref ae4, .ref ae5, .ref ae6, .ref ae7, .ref ae8, .ref ae9, .int (-1), .int (-1)])), (ae0, .inl (ae10, 3000, .inl f23))] := hD
  refine lv_iinc (v := (-8)) (lv' := [(2, .int (-8)), (0, .ref ah0), (1, .int p0)]) hx hb dX8_putWord_40 hl (k := 0) rfl (by decide) (by decide) rfl (fun ls hl => ?_)
  refine lv_goto (tgt := 3) hx hb dX8_putWord_43 (by decide) ?_
  refine lv_iload_n hx hb dX8_putWord_3 rfl (lv_at hl 0 rfl) ?_
  refine lv_if_lt (tgt := 46) hx hb dX8_putWord_4 (by decide) (fun _ => ?_) (fun c25 => absurd c25 (by decide))
  have hP9 := hP.sub (ws' := [(ah0, .inr (8, [.ref ae0, .int 20, .ref ae1, .ref ae2, .ref ae3, .ref ae4, .ref ae5, .ref ae6, .ref ae7, .ref ae8, .ref ae9, .int (-1), .int (-1)])), (ae0, .inl (ae10, 3000, .inl f23))]) [0, 1] rfl
  have hD9 := hD.sub (ws' := [(ah0, .inr (8, [.ref ae0, .int 20, .ref ae1, .ref ae2, .ref ae3, .ref ae4, .ref ae5, .ref ae6, .ref ae7, .ref ae8, .ref ae9, .int (-1), .int (-1)])), (ae0, .inl (ae10, 3000, .inl f23))]) [0, 1] (by decide) rfl
  have hK9 := hK.sub (tys' := [(ae10, .byte)]) [0] rfl
  refine W.widen (k := 0) (n := 0) (Nat.le_of_ble_eq_true rfl) (Nat.le_of_ble_eq_true rfl) ?_
  exact W.vret hx hb hr (fun t ht hW => ⟨⟨(), rfl, trivial, f23, by rw [ht]; exact hP9, va_K.moved hW.alike hK9, hD9⟩, hS.F ht⟩) hS.2.2 dX8_putWord_46

set_option maxHeartbeats 4000000 in
set_option maxRecDepth 100000 in
theorem c_X8_feed (l : Launch) (dC : Nat → ClassId) (dI : Nat → Nat → Nat) (ah0 ae0 ae1 ae2 ae3 ae4 ae5 ae6 ae7 ae8 ae9 : Nat) (ae10 : ClassId) (sz : Nat) (p0 : Int32) (p1 : Int32) (p2 : Int32) (p3 : Int32) (p4 : Int32) : Met l yX8_feed wyX8_feed ({ frames := 1, cells := 0, slots := 0, locals := 22 }) (va_Pc [.ref ah0, .int p0, .int p1, .int p2, .int p3, .int p4] (fun U => U.heap.size = sz ∧ va_P (dC, dI) vwCl [(ah0, .inr (8, [.ref ae0, .int 0, .ref ae1, .ref ae2, .ref ae3, .ref ae4, .ref ae5, .ref ae6, .ref ae7, .ref ae8, .ref ae9, .int (-1), .int (-1)])), (ae0, .inl (ae10, 3000, .inl (fun _ => 0)))] U.heap ∧ va_K (dC, dI) vwCl [(ae10, .byte)] U ∧ va_D (fun _ => True) [(ah0, .inr (8, [.ref ae0, .int 0, .ref ae1, .ref ae2, .ref ae3, .ref ae4, .ref ae5, .ref ae6, .ref ae7, .ref ae8, .ref ae9, .int (-1), .int (-1)])), (ae0, .inl (ae10, 3000, .inl (fun _ => 0)))])) (va_Qi (fun (r : Int32) (_ : Unit) => r = 20) (fun _ t => ∃ (e0 : Nat → Int32), va_P (dC, dI) vwCl [(ah0, .inr (8, [.ref ae0, .int 20, .ref ae1, .ref ae2, .ref ae3, .ref ae4, .ref ae5, .ref ae6, .ref ae7, .ref ae8, .ref ae9, .int (-1), .int (-1)])), (ae0, .inl (ae10, 3000, .inl e0))] t.heap ∧ va_K (dC, dI) vwCl [(ae10, .byte)] t ∧ va_D (va_A [(ah0, .inr (8, [.ref ae0, .int 0, .ref ae1, .ref ae2, .ref ae3, .ref ae4, .ref ae5, .ref ae6, .ref ae7, .ref ae8, .ref ae9, .int (-1), .int (-1)])), (ae0, .inl (ae10, 3000, .inl (fun _ => 0)))] sz) [(ah0, .inr (8, [.ref ae0, .int 20, .ref ae1, .ref ae2, .ref ae3, .ref ae4, .ref ae5, .ref ae6, .ref ae7, .ref ae8, .ref ae9, .int (-1), .int (-1)])), (ae0, .inl (ae10, 3000, .inl e0))]) (va_A [(ah0, .inr (8, [.ref ae0, .int 0, .ref ae1, .ref ae2, .ref ae3, .ref ae4, .ref ae5, .ref ae6, .ref ae7, .ref ae8, .ref ae9, .int (-1), .int (-1)])), (ae0, .inl (ae10, 3000, .inl (fun _ => 0)))] sz)) 0 0 (va_A [(ah0, .inr (8, [.ref ae0, .int 0, .ref ae1, .ref ae2, .ref ae3, .ref ae4, .ref ae5, .ref ae6, .ref ae7, .ref ae8, .ref ae9, .int (-1), .int (-1)])), (ae0, .inl (ae10, 3000, .inl (fun _ => 0)))] sz) := by
  refine Met.ofW (cc := cX8_feed) (maxL := 6) (ret := (some .int)) (by decide) rfl ?_
  intro p e s m args below meth c s₁ B hml hv
  obtain ⟨rfl, hsz, hP, hK, hD0⟩ := hv
  have hx := B.exec
  have hb := B.bytes
  have hr := B.returns
  have hts := atoms_spec (ws := wyX8_feed) B.pre
  have hg : ∀ w ∈ lw_G, w.before _ s = true := fun w h => hts w (List.mem_cons_of_mem _ h)
  have hown : s.vm.findClass RX8 = some m.cls := findClass_of_methodNamed B.named
  have hlocks := B.notSynchronized
  subst hsz
  have hD := hD0.self (sz := s.heap.size)
  generalize hAe : va_A [(ah0, .inr (8, [.ref ae0, .int 0, .ref ae1, .ref ae2, .ref ae3, .ref ae4, .ref ae5, .ref ae6, .ref ae7, .ref ae8, .ref ae9, .int (-1), .int (-1)])), (ae0, .inl (ae10, 3000, .inl (fun _ => 0)))] s.heap.size = A at hD ⊢
  have hA : ∀ q : Nat, s.heap.size ≤ q → A q := fun q h => by rw [← hAe]; exact Or.inr h
  have hS : va_S A s.heap s.heap [] := va_S.rf
  have hP : va_P (dC, dI) vwCl [(ah0, .inr (8, [.ref ae0, .int 0, .ref ae1, .ref ae2, .ref ae3, .ref ae4, .ref ae5, .ref ae6, .ref ae7, .ref ae8, .ref ae9, .int (-1), .int (-1)])), (ae0, .inl (ae10, 3000, .inl (fun _ => 0)))] s.heap := hP
  have hl := lv_entry ([.ref ah0, .int p0, .int p1, .int p2, .int p3, .int p4]) (n := 6) (Nat.le_of_ble_eq_true rfl)
  rw [lg_entry_eq]
  generalize (lg_sl ([.ref ah0, .int p0, .int p1, .int p2, .int p3, .int p4]) ++ List.replicate (6 - (lg_sl ([.ref ah0, .int p0, .int p1, .int p2, .int p3, .int p4])).length) Slot.unset).toArray = ls at hl ⊢
  have hl : lv_has ls 6 [(0, .ref ah0), (1, .int p0), (2, .int p1), (3, .int p2), (4, .int p3), (5, .int p4)] := hl
  refine lv_aload_n hx hb dX8_feed_0 rfl (lv_at hl 0 rfl) ?_
  refine va_get (D := (dC, dI)) (ci := 8) (v := .int 0) (C := RX8) (T := TX8) (N := 13) hx hb hg inG_X8 hown hK hP 0 rfl rfl 1 (by decide) (hg (.fieldLink RX8 13 "AttributeDesk" "tapeSize" "I") gw_2_161) (fun _ h9 => h9) rfl dX8_feed_1 ?_
  refine lv_sipush (v := 2980) hx hb dX8_feed_4 (by decide) ?_
  refine lv_icmp_le (tgt := 12) hx hb dX8_feed_7 (by decide) (fun _ => ?_) (fun c1 => absurd c1 (by decide))
  refine lv_aload_n hx hb dX8_feed_12 rfl (lv_at hl 0 rfl) ?_
  refine lv_iload_n hx hb dX8_feed_13 rfl (lv_at hl 1 rfl) ?_
  have hPc := hP.sub (ws' := [(ah0, .inr (8, [.ref ae0, .int 0, .ref ae1, .ref ae2, .ref ae3, .ref ae4, .ref ae5, .ref ae6, .ref ae7, .ref ae8, .ref ae9, .int (-1), .int (-1)])), (ae0, .inl (ae10, 3000, .inl (fun _ => 0)))]) [0, 1] rfl
  have hDc := hD.sub (ws' := [(ah0, .inr (8, [.ref ae0, .int 0, .ref ae1, .ref ae2, .ref ae3, .ref ae4, .ref ae5, .ref ae6, .ref ae7, .ref ae8, .ref ae9, .int (-1), .int (-1)])), (ae0, .inl (ae10, 3000, .inl (fun _ => 0)))]) [0, 1] (by decide) rfl
  have hKc := hK.sub (tys' := [(ae10, .byte)]) [0] rfl
  have hFc := va_free (wc := [(ah0, .inr (8, [.ref ae0, .int 0, .ref ae1, .ref ae2, .ref ae3, .ref ae4, .ref ae5, .ref ae6, .ref ae7, .ref ae8, .ref ae9, .int (-1), .int (-1)])), (ae0, .inl (ae10, 3000, .inl (fun _ => 0)))]) hD hS hA [0, 1] rfl
  refine va_callv (va_runV (As := [.int p0]) (rest := []) ⟨hx, hb, hml, hown, hg⟩ (c_X8_putWord_0 l dC dI ah0 ae0 ae1 ae2 ae3 ae4 ae5 ae6 ae7 ae8 ae9 ae10 s.heap.size p0 (fun _ => 0)) (cwV 1 hg gc_X8_88 rfl rfl rfl (by decide +kernel) ⟨Nat.le_of_ble_eq_true rfl, Nat.le_of_ble_eq_true rfl⟩) ⟨fun a U g mk q => by obtain ⟨q0, q1, qP, qK, qD⟩ := q; exact ⟨q0, q1, qP, va_K.moved (u := U) (U := U.calling g mk a) (Vm.Alike.refl U.vm) qK, qD⟩, va_recv hKc hPc (ci := 8) (q0 := 0) rfl rfl, fun U hU hW => ⟨rfl, by rw [hU], by rw [hU]; exact hPc, va_K.moved hW.alike hKc, hDc.weaken (fun _ _ _ _ => trivial)⟩⟩ rfl rfl hl.1 rfl (lv_room (Nat.le_of_ble_eq_true rfl)) dX8_feed_14 ⟨Nat.le_of_ble_eq_true rfl, Nat.le_of_ble_eq_true rfl⟩) hS (fun q _ h => hFc q h) hFc (fun u3 t H1 locs ht hvm hw3 hB hz1 hk1 hS => ?_)
  obtain ⟨e0_4, hP1, hK1, hD1⟩ := hB
  rw [ht] at hP1
  have hK1 := va_K.moved hvm.symm hK1
  obtain ⟨hP, hD⟩ := va_join (wr := []) (w1 := [(ah0, .inr (8, [.ref ae0, .int 4, .ref ae1, .ref ae2, .ref ae3, .ref ae4, .ref ae5, .ref ae6, .ref ae7, .ref ae8, .ref ae9, .int (-1), .int (-1)])), (ae0, .inl (ae10, 3000, .inl e0_4))]) hP hD [0, 1] [] rfl rfl (by decide) (by decide) hk1 hFc hP1 hD1
  have hK := (hK.sub (tys' := []) [] rfl).app hK1
  generalize H1 = H at hP hS ⊢
  have hP : va_P (dC, dI) vwCl [(ah0, .inr (8, [.ref ae0, .int 4, .ref ae1, .ref ae2, .ref ae3, .ref ae4, .ref ae5, .ref ae6, .ref ae7, .ref ae8, .ref ae9, .int (-1), .int (-1)])), (ae0, .inl (ae10, 3000, .inl e0_4))] H := hP
  have hD : va_D A [(ah0, .inr (8, [.ref ae0, .int 4, .ref ae1, .ref ae2, .ref ae3, .ref ae4, .ref ae5, .ref ae6, .ref ae7, .ref ae8, .ref ae9, .int (-1), .int (-1)])), (ae0, .inl (ae10, 3000, .inl e0_4))] := hD
  have hK : va_K (dC, dI) vwCl [(ae10, .byte)] s := hK
  refine lv_aload_n hx hb dX8_feed_17 rfl (lv_at hl 0 rfl) ?_
  refine lv_iload_n hx hb dX8_feed_18 rfl (lv_at hl 2 rfl) ?_
  have hPc := hP.sub (ws' := [(ah0, .inr (8, [.ref ae0, .int 4, .ref ae1, .ref ae2, .ref ae3, .ref ae4, .ref ae5, .ref ae6, .ref ae7, .ref ae8, .ref ae9, .int (-1), .int (-1)])), (ae0, .inl (ae10, 3000, .inl e0_4))]) [0, 1] rfl
  have hDc := hD.sub (ws' := [(ah0, .inr (8, [.ref ae0, .int 4, .ref ae1, .ref ae2, .ref ae3, .ref ae4, .ref ae5, .ref ae6, .ref ae7, .ref ae8, .ref ae9, .int (-1), .int (-1)])), (ae0, .inl (ae10, 3000, .inl e0_4))]) [0, 1] (by decide) rfl
  have hKc := hK.sub (tys' := [(ae10, .byte)]) [0] rfl
  have hFc := va_free (wc := [(ah0, .inr (8, [.ref ae0, .int 4, .ref ae1, .ref ae2, .ref ae3, .ref ae4, .ref ae5, .ref ae6, .ref ae7, .ref ae8, .ref ae9, .int (-1), .int (-1)])), (ae0, .inl (ae10, 3000, .inl e0_4))]) hD hS hA [0, 1] rfl
  refine va_callv (va_runV (As := [.int p1]) (rest := []) ⟨hx, hb, hml, hown, hg⟩ (c_X8_putWord_4 l dC dI ah0 ae0 ae1 ae2 ae3 ae4 ae5 ae6 ae7 ae8 ae9 ae10 H.size p1 e0_4) (cwV 1 hg gc_X8_88 rfl rfl rfl (by decide +kernel) ⟨Nat.le_of_ble_eq_true rfl, Nat.le_of_ble_eq_true rfl⟩) ⟨fun a U g mk q => by obtain ⟨q0, q1, qP, qK, qD⟩ := q; exact ⟨q0, q1, qP, va_K.moved (u := U) (U := U.calling g mk a) (Vm.Alike.refl U.vm) qK, qD⟩, va_recv hKc hPc (ci := 8) (q0 := 0) rfl rfl, fun U hU hW => ⟨rfl, by rw [hU], by rw [hU]; exact hPc, va_K.moved hW.alike hKc, hDc.weaken (fun _ _ _ _ => trivial)⟩⟩ rfl rfl hl.1 rfl (lv_room (Nat.le_of_ble_eq_true rfl)) dX8_feed_19 ⟨Nat.le_of_ble_eq_true rfl, Nat.le_of_ble_eq_true rfl⟩) hS (fun q _ h => hFc q h) hFc (fun u6 t H1 locs ht hvm hw6 hB hz1 hk1 hS => ?_)
  obtain ⟨e0_7, hP1, hK1, hD1⟩ := hB
  rw [ht] at hP1
  have hK1 := va_K.moved hvm.symm hK1
  obtain ⟨hP, hD⟩ := va_join (wr := []) (w1 := [(ah0, .inr (8, [.ref ae0, .int 8, .ref ae1, .ref ae2, .ref ae3, .ref ae4, .ref ae5, .ref ae6, .ref ae7, .ref ae8, .ref ae9, .int (-1), .int (-1)])), (ae0, .inl (ae10, 3000, .inl e0_7))]) hP hD [0, 1] [] rfl rfl (by decide) (by decide) hk1 hFc hP1 hD1
  have hK := (hK.sub (tys' := []) [] rfl).app hK1
  generalize H1 = H at hP hS ⊢
  have hP : va_P (dC, dI) vwCl [(ah0, .inr (8, [.ref ae0, .int 8, .ref ae1, .ref ae2, .ref ae3, .ref ae4, .ref ae5, .ref ae6, .ref ae7, .ref ae8, .ref ae9, .int (-1), .int (-1)])), (ae0, .inl (ae10, 3000, .inl e0_7))] H := hP
  have hD : va_D A [(ah0, .inr (8, [.ref ae0, .int 8, .ref ae1, .ref ae2, .ref ae3, .ref ae4, .ref ae5, .ref ae6, .ref ae7, .ref ae8, .ref ae9, .int (-1), .int (-1)])), (ae0, .inl (ae10, 3000, .inl e0_7))] := hD
  have hK : va_K (dC, dI) vwCl [(ae10, .byte)] s := hK
  refine lv_aload_n hx hb dX8_feed_22 rfl (lv_at hl 0 rfl) ?_
  refine lv_iload_n hx hb dX8_feed_23 rfl (lv_at hl 3 rfl) ?_
  have hPc := hP.sub (ws' := [(ah0, .inr (8, [.ref ae0, .int 8, .ref ae1, .ref ae2, .ref ae3, .ref ae4, .ref ae5, .ref ae6, .ref ae7, .ref ae8, .ref ae9, .int (-1), .int (-1)])), (ae0, .inl (ae10, 3000, .inl e0_7))]) [0, 1] rfl
  have hDc := hD.sub (ws' := [(ah0, .inr (8, [.ref ae0, .int 8, .ref ae1, .ref ae2, .ref ae3, .ref ae4, .ref ae5, .ref ae6, .ref ae7, .ref ae8, .ref ae9, .int (-1), .int (-1)])), (ae0, .inl (ae10, 3000, .inl e0_7))]) [0, 1] (by decide) rfl
  have hKc := hK.sub (tys' := [(ae10, .byte)]) [0] rfl
  have hFc := va_free (wc := [(ah0, .inr (8, [.ref ae0, .int 8, .ref ae1, .ref ae2, .ref ae3, .ref ae4, .ref ae5, .ref ae6, .ref ae7, .ref ae8, .ref ae9, .int (-1), .int (-1)])), (ae0, .inl (ae10, 3000, .inl e0_7))]) hD hS hA [0, 1] rfl
  refine va_callv (va_runV (As := [.int p2]) (rest := []) ⟨hx, hb, hml, hown, hg⟩ (c_X8_putWord_8 l dC dI ah0 ae0 ae1 ae2 ae3 ae4 ae5 ae6 ae7 ae8 ae9 ae10 H.size p2 e0_7) (cwV 1 hg gc_X8_88 rfl rfl rfl (by decide +kernel) ⟨Nat.le_of_ble_eq_true rfl, Nat.le_of_ble_eq_true rfl⟩) ⟨fun a U g mk q => by obtain ⟨q0, q1, qP, qK, qD⟩ := q; exact ⟨q0, q1, qP, va_K.moved (u := U) (U := U.calling g mk a) (Vm.Alike.refl U.vm) qK, qD⟩, va_recv hKc hPc (ci := 8) (q0 := 0) rfl rfl, fun U hU hW => ⟨rfl, by rw [hU], by rw [hU]; exact hPc, va_K.moved hW.alike hKc, hDc.weaken (fun _ _ _ _ => trivial)⟩⟩ rfl rfl hl.1 rfl (lv_room (Nat.le_of_ble_eq_true rfl)) dX8_feed_24 ⟨Nat.le_of_ble_eq_true rfl, Nat.le_of_ble_eq_true rfl⟩) hS (fun q _ h => hFc q h) hFc (fun u9 t H1 locs ht hvm hw9 hB hz1 hk1 hS => ?_)
  obtain ⟨e0_10, hP1, hK1, hD1⟩ := hB
  rw [ht] at hP1
  have hK1 := va_K.moved hvm.symm hK1
  obtain ⟨hP, hD⟩ := va_join (wr := []) (w1 := [(ah0, .inr (8, [.ref ae0, .int 12, .ref ae1, .ref ae2, .ref ae3, .ref ae4, .ref ae5, .ref ae6, .ref ae7, .ref ae8, .ref ae9, .int (-1), .int (-1)])), (ae0, .inl (ae10, 3000, .inl e0_10))]) hP hD [0, 1] [] rfl rfl (by decide) (by decide) hk1 hFc hP1 hD1
  have hK := (hK.sub (tys' := []) [] rfl).app hK1
  generalize H1 = H at hP hS ⊢
  have hP : va_P (dC, dI) vwCl [(ah0, .inr (8, [.ref ae0, .int 12, .ref ae1, .ref ae2, .ref ae3, .ref ae4, .ref ae5, .ref ae6, .ref ae7, .ref ae8, .ref ae9, .int (-1), .int (-1)])), (ae0, .inl (ae10, 3000, .inl e0_10))] H := hP
  have hD : va_D A [(ah0, .inr (8, [.ref ae0, .int 12, .ref ae1, .ref ae2, .ref ae3, .ref ae4, .ref ae5, .ref ae6, .ref ae7, .ref ae8, .ref ae9, .int (-1), .int (-1)])), (ae0, .inl (ae10, 3000, .inl e0_10))] := hD
  have hK : va_K (dC, dI) vwCl [(ae10, .byte)] s := hK
  refine lv_aload_n hx hb dX8_feed_27 rfl (lv_at hl 0 rfl) ?_
  refine lv_iload hx hb dX8_feed_28 (lv_at hl 4 rfl) ?_
  have hPc := hP.sub (ws' := [(ah0, .inr (8, [.ref ae0, .int 12, .ref ae1, .ref ae2, .ref ae3, .ref ae4, .ref ae5, .ref ae6, .ref ae7, .ref ae8, .ref ae9, .int (-1), .int (-1)])), (ae0, .inl (ae10, 3000, .inl e0_10))]) [0, 1] rfl
  have hDc := hD.sub (ws' := [(ah0, .inr (8, [.ref ae0, .int 12, .ref ae1, .ref ae2, .ref ae3, .ref ae4, .ref ae5, .ref ae6, .ref ae7, .ref ae8, .ref ae9, .int (-1), .int (-1)])), (ae0, .inl (ae10, 3000, .inl e0_10))]) [0, 1] (by decide) rfl
  have hKc := hK.sub (tys' := [(ae10, .byte)]) [0] rfl
  have hFc := va_free (wc := [(ah0, .inr (8, [.ref ae0, .int 12, .ref ae1, .ref ae2, .ref ae3, .ref ae4, .ref ae5, .ref ae6, .ref ae7, .ref ae8, .ref ae9, .int (-1), .int (-1)])), (ae0, .inl (ae10, 3000, .inl e0_10))]) hD hS hA [0, 1] rfl
  refine va_callv (va_runV (As := [.int p3]) (rest := []) ⟨hx, hb, hml, hown, hg⟩ (c_X8_putWord_12 l dC dI ah0 ae0 ae1 ae2 ae3 ae4 ae5 ae6 ae7 ae8 ae9 ae10 H.size p3 e0_10) (cwV 1 hg gc_X8_88 rfl rfl rfl (by decide +kernel) ⟨Nat.le_of_ble_eq_true rfl, Nat.le_of_ble_eq_true rfl⟩) ⟨fun a U g mk q => by obtain ⟨q0, q1, qP, qK, qD⟩ := q; exact ⟨q0, q1, qP, va_K.moved (u := U) (U := U.calling g mk a) (Vm.Alike.refl U.vm) qK, qD⟩, va_recv hKc hPc (ci := 8) (q0 := 0) rfl rfl, fun U hU hW => ⟨rfl, by rw [hU], by rw [hU]; exact hPc, va_K.moved hW.alike hKc, hDc.weaken (fun _ _ _ _ => trivial)⟩⟩ rfl rfl hl.1 rfl (lv_room (Nat.le_of_ble_eq_true rfl)) dX8_feed_30 ⟨Nat.le_of_ble_eq_true rfl, Nat.le_of_ble_eq_true rfl⟩) hS (fun q _ h => hFc q h) hFc (fun u12 t H1 locs ht hvm hw12 hB hz1 hk1 hS => ?_)
  obtain ⟨e0_13, hP1, hK1, hD1⟩ := hB
  rw [ht] at hP1
  have hK1 := va_K.moved hvm.symm hK1
  obtain ⟨hP, hD⟩ := va_join (wr := []) (w1 := [(ah0, .inr (8, [.ref ae0, .int 16, .ref ae1, .ref ae2, .ref ae3, .ref ae4, .ref ae5, .ref ae6, .ref ae7, .ref ae8, .ref ae9, .int (-1), .int (-1)])), (ae0, .inl (ae10, 3000, .inl e0_13))]) hP hD [0, 1] [] rfl rfl (by decide) (by decide) hk1 hFc hP1 hD1
  have hK := (hK.sub (tys' := []) [] rfl).app hK1
  generalize H1 = H at hP hS ⊢
  have hP : va_P (dC, dI) vwCl [(ah0, .inr (8, [.ref ae0, .int 16, .ref ae1, .ref ae2, .ref ae3, .ref ae4, .ref ae5, .ref ae6, .ref ae7, .ref ae8, .ref ae9, .int (-1), .int (-1)])), (ae0, .inl (ae10, 3000, .inl e0_13))] H := hP
  have hD : va_D A [(ah0, .inr (8, [.ref ae0, .int 16, .ref ae1, .ref ae2, .ref ae3, .ref ae4, .ref ae5, .ref ae6, .ref ae7, .ref ae8, .ref ae9, .int (-1), .int (-1)])), (ae0, .inl (ae10, 3000, .inl e0_13))] := hD
  have hK : va_K (dC, dI) vwCl [(ae10, .byte)] s := hK
  refine lv_aload_n hx hb dX8_feed_33 rfl (lv_at hl 0 rfl) ?_
  refine lv_iload hx hb dX8_feed_34 (lv_at hl 5 rfl) ?_
  have hPc := hP.sub (ws' := [(ah0, .inr (8, [.ref ae0, .int 16, .ref ae1, .ref ae2, .ref ae3, .ref ae4, .ref ae5, .ref ae6, .ref ae7, .ref ae8, .ref ae9, .int (-1), .int (-1)])), (ae0, .inl (ae10, 3000, .inl e0_13))]) [0, 1] rfl
  have hDc := hD.sub (ws' := [(ah0, .inr (8, [.ref ae0, .int 16, .ref ae1, .ref ae2, .ref ae3, .ref ae4, .ref ae5, .ref ae6, .ref ae7, .ref ae8, .ref ae9, .int (-1), .int (-1)])), (ae0, .inl (ae10, 3000, .inl e0_13))]) [0, 1] (by decide) rfl
  have hKc := hK.sub (tys' := [(ae10, .byte)]) [0] rfl
  have hFc := va_free (wc := [(ah0, .inr (8, [.ref ae0, .int 16, .ref ae1, .ref ae2, .ref ae3, .ref ae4, .ref ae5, .ref ae6, .ref ae7, .ref ae8, .ref ae9, .int (-1), .int (-1)])), (ae0, .inl (ae10, 3000, .inl e0_13))]) hD hS hA [0, 1] rfl
  refine va_callv (va_runV (As := [.int p4]) (rest := []) ⟨hx, hb, hml, hown, hg⟩ (c_X8_putWord_16 l dC dI ah0 ae0 ae1 ae2 ae3 ae4 ae5 ae6 ae7 ae8 ae9 ae10 H.size p4 e0_13) (cwV 1 hg gc_X8_88 rfl rfl rfl (by decide +kernel) ⟨Nat.le_of_ble_eq_true rfl, Nat.le_of_ble_eq_true rfl⟩) ⟨fun a U g mk q => by obtain ⟨q0, q1, qP, qK, qD⟩ := q; exact ⟨q0, q1, qP, va_K.moved (u := U) (U := U.calling g mk a) (Vm.Alike.refl U.vm) qK, qD⟩, va_recv hKc hPc (ci := 8) (q0 := 0) rfl rfl, fun U hU hW => ⟨rfl, by rw [hU], by rw [hU]; exact hPc, va_K.moved hW.alike hKc, hDc.weaken (fun _ _ _ _ => trivial)⟩⟩ rfl rfl hl.1 rfl (lv_room (Nat.le_of_ble_eq_true rfl)) dX8_feed_36 ⟨Nat.le_of_ble_eq_true rfl, Nat.le_of_ble_eq_true rfl⟩) hS (fun q _ h => hFc q h) hFc (fun u15 t H1 locs ht hvm hw15 hB hz1 hk1 hS => ?_)
  obtain ⟨e0_16, hP1, hK1, hD1⟩ := hB
  rw [ht] at hP1
  have hK1 := va_K.moved hvm.symm hK1
  obtain ⟨hP, hD⟩ := va_join (wr := []) (w1 := [(ah0, .inr (8, [.ref ae0, .int 20, .ref ae1, .ref ae2, .ref ae3, .ref ae4, .ref ae5, .ref ae6, .ref ae7, .ref ae8, .ref ae9, .int (-1), .int (-1)])), (ae0, .inl (ae10, 3000, .inl e0_16))]) hP hD [0, 1] [] rfl rfl (by decide) (by decide) hk1 hFc hP1 hD1
  have hK := (hK.sub (tys' := []) [] rfl).app hK1
  generalize H1 = H at hP hS ⊢
  have hP : va_P (dC, dI) vwCl [(ah0, .inr (8, [.ref ae0, .int 20, .ref ae1, .ref ae2, .ref ae3, .ref ae4, .ref ae5, .ref ae6, .ref ae7, .ref ae8, .ref ae9, .int (-1), .int (-1)])), (ae0, .inl (ae10, 3000, .inl e0_16))] H := hP
  have hD : va_D A [(ah0, .inr (8, [.ref ae0, .int 20, .ref ae1, .ref ae2, .ref ae3, .ref ae4, .ref ae5, .ref ae6, .ref ae7, .ref ae8, .ref ae9, .int (-1), .int (-1)])), (ae0, .inl (ae10, 3000, .inl e0_16))] := hD
  have hK : va_K (dC, dI) vwCl [(ae10, .byte)] s := hK
  refine lv_aload_n hx hb dX8_feed_39 rfl (lv_at hl 0 rfl) ?_
  refine va_get (D := (dC, dI)) (ci := 8) (v := .int 20) (C := RX8) (T := TX8) (N := 13) hx hb hg inG_X8 hown hK hP 0 rfl rfl 1 (by decide) (hg (.fieldLink RX8 13 "AttributeDesk" "tapeSize" "I") gw_2_161) (fun _ h9 => h9) rfl dX8_feed_40 ?_
  have hP9 := hP.sub (ws' := [(ah0, .inr (8, [.ref ae0, .int 20, .ref ae1, .ref ae2, .ref ae3, .ref ae4, .ref ae5, .ref ae6, .ref ae7, .ref ae8, .ref ae9, .int (-1), .int (-1)])), (ae0, .inl (ae10, 3000, .inl e0_16))]) [0, 1] rfl
  have hD9 := hD.sub (ws' := [(ah0, .inr (8, [.ref ae0, .int 20, .ref ae1, .ref ae2, .ref ae3, .ref ae4, .ref ae5, .ref ae6, .ref ae7, .ref ae8, .ref ae9, .int (-1), .int (-1)])), (ae0, .inl (ae10, 3000, .inl e0_16))]) [0, 1] (by decide) rfl
  have hK9 := hK.sub (tys' := [(ae10, .byte)]) [0] rfl
  refine W.widen (k := 0) (n := 0) (Nat.le_of_ble_eq_true rfl) (Nat.le_of_ble_eq_true rfl) ?_
  exact W.iret (v := 20) hx hb hr (fun t ht hW => ⟨⟨20, (), rfl, rfl, e0_16, by rw [ht]; exact hP9, va_K.moved hW.alike hK9, hD9⟩, hS.F ht⟩) hS.2.2 dX8_feed_43

set_option maxHeartbeats 4000000 in
set_option maxRecDepth 100000 in
theorem c_X8_end (l : Launch) (dC : Nat → ClassId) (dI : Nat → Nat → Nat) (ah0 ae0 ae1 ae2 ae3 ae4 ae5 ae6 ae7 ae8 ae9 : Nat) (sz : Nat) (p0 : Int32) : Met l yX8_end wyX8_end ({ frames := 0, cells := 0, slots := 0, locals := 0 }) (va_Pc [.ref ah0, .int p0] (fun U => U.heap.size = sz ∧ va_P (dC, dI) vwCl [(ah0, .inr (8, [.ref ae0, .int 0, .ref ae1, .ref ae2, .ref ae3, .ref ae4, .ref ae5, .ref ae6, .ref ae7, .ref ae8, .ref ae9, .int (-1), .int (-1)]))] U.heap ∧ va_K (dC, dI) vwCl [] U ∧ va_D (fun _ => True) [(ah0, .inr (8, [.ref ae0, .int 0, .ref ae1, .ref ae2, .ref ae3, .ref ae4, .ref ae5, .ref ae6, .ref ae7, .ref ae8, .ref ae9, .int (-1), .int (-1)]))])) (va_Qi (fun (r : Int32) (_ : Unit) => r = endR p0) (fun _ t => va_P (dC, dI) vwCl [(ah0, .inr (8, [.ref ae0, .int 0, .ref ae1, .ref ae2, .ref ae3, .ref ae4, .ref ae5, .ref ae6, .ref ae7, .ref ae8, .ref ae9, .int (-1), .int (-1)]))] t.heap ∧ va_K (dC, dI) vwCl [] t ∧ va_D (va_A [(ah0, .inr (8, [.ref ae0, .int 0, .ref ae1, .ref ae2, .ref ae3, .ref ae4, .ref ae5, .ref ae6, .ref ae7, .ref ae8, .ref ae9, .int (-1), .int (-1)]))] sz) [(ah0, .inr (8, [.ref ae0, .int 0, .ref ae1, .ref ae2, .ref ae3, .ref ae4, .ref ae5, .ref ae6, .ref ae7, .ref ae8, .ref ae9, .int (-1), .int (-1)]))]) (va_A [(ah0, .inr (8, [.ref ae0, .int 0, .ref ae1, .ref ae2, .ref ae3, .ref ae4, .ref ae5, .ref ae6, .ref ae7, .ref ae8, .ref ae9, .int (-1), .int (-1)]))] sz)) 0 0 (va_A [(ah0, .inr (8, [.ref ae0, .int 0, .ref ae1, .ref ae2, .ref ae3, .ref ae4, .ref ae5, .ref ae6, .ref ae7, .ref ae8, .ref ae9, .int (-1), .int (-1)]))] sz) := by
  refine Met.ofW (cc := cX8_end) (maxL := 2) (ret := (some .int)) (by decide) rfl ?_
  intro p e s m args below meth c s₁ B hml hv
  obtain ⟨rfl, hsz, hP, hK, hD0⟩ := hv
  have hx := B.exec
  have hb := B.bytes
  have hr := B.returns
  have hts := atoms_spec (ws := wyX8_end) B.pre
  have hg : ∀ w ∈ lw_G, w.before _ s = true := fun w h => hts w (List.mem_cons_of_mem _ h)
  have hown : s.vm.findClass RX8 = some m.cls := findClass_of_methodNamed B.named
  have hlocks := B.notSynchronized
  subst hsz
  have hD := hD0.self (sz := s.heap.size)
  generalize hAe : va_A [(ah0, .inr (8, [.ref ae0, .int 0, .ref ae1, .ref ae2, .ref ae3, .ref ae4, .ref ae5, .ref ae6, .ref ae7, .ref ae8, .ref ae9, .int (-1), .int (-1)]))] s.heap.size = A at hD ⊢
  have hA : ∀ q : Nat, s.heap.size ≤ q → A q := fun q h => by rw [← hAe]; exact Or.inr h
  have hS : va_S A s.heap s.heap [] := va_S.rf
  have hP : va_P (dC, dI) vwCl [(ah0, .inr (8, [.ref ae0, .int 0, .ref ae1, .ref ae2, .ref ae3, .ref ae4, .ref ae5, .ref ae6, .ref ae7, .ref ae8, .ref ae9, .int (-1), .int (-1)]))] s.heap := hP
  have hl := lv_entry ([.ref ah0, .int p0]) (n := 2) (Nat.le_of_ble_eq_true rfl)
  rw [lg_entry_eq]
  generalize (lg_sl ([.ref ah0, .int p0]) ++ List.replicate (2 - (lg_sl ([.ref ah0, .int p0])).length) Slot.unset).toArray = ls at hl ⊢
  have hl : lv_has ls 2 [(0, .ref ah0), (1, .int p0)] := hl
  refine lv_iload_n hx hb dX8_end_0 rfl (lv_at hl 1 rfl) ?_
  refine lv_if_lt (tgt := 12) hx hb dX8_end_1 (by decide) (fun c1 => ?_) (fun c1 => ?_)
  · refine lv_iconst (v := (-1)) hx hb dX8_end_12 (by decide) ?_
    have hP9 := hP.sub (ws' := [(ah0, .inr (8, [.ref ae0, .int 0, .ref ae1, .ref ae2, .ref ae3, .ref ae4, .ref ae5, .ref ae6, .ref ae7, .ref ae8, .ref ae9, .int (-1), .int (-1)]))]) [0] rfl
    have hD9 := hD.sub (ws' := [(ah0, .inr (8, [.ref ae0, .int 0, .ref ae1, .ref ae2, .ref ae3, .ref ae4, .ref ae5, .ref ae6, .ref ae7, .ref ae8, .ref ae9, .int (-1), .int (-1)]))]) [0] (by decide) rfl
    have hK9 := hK.sub (tys' := []) [] rfl
    refine W.widen (k := 0) (n := 0) (Nat.le_of_ble_eq_true rfl) (Nat.le_of_ble_eq_true rfl) ?_
    exact W.iret (v := (-1)) hx hb hr (fun t ht hW => ⟨⟨(-1), (), rfl, endR_a c1, by rw [ht]; exact hP9, va_K.moved hW.alike hK9, hD9⟩, hS.F ht⟩) hS.2.2 dX8_end_13
  · refine lv_iload_n hx hb dX8_end_4 rfl (lv_at hl 1 rfl) ?_
    refine lv_aload_n hx hb dX8_end_5 rfl (lv_at hl 0 rfl) ?_
    refine va_get (D := (dC, dI)) (ci := 8) (v := .int 0) (C := RX8) (T := TX8) (N := 13) hx hb hg inG_X8 hown hK hP 0 rfl rfl 1 (by decide) (hg (.fieldLink RX8 13 "AttributeDesk" "tapeSize" "I") gw_2_161) (fun _ h9 => h9) rfl dX8_end_6 ?_
    refine lv_icmp_le (tgt := 14) hx hb dX8_end_9 (by decide) (fun c2 => ?_) (fun c2 => ?_)
    · obtain rfl : p0 = 0 := endR_0 c1 c2
      refine lv_aload_n hx hb dX8_end_14 rfl (lv_at hl 0 rfl) ?_
      refine lv_iload_n hx hb dX8_end_15 rfl (lv_at hl 1 rfl) ?_
      refine va_put (D := (dC, dI)) (ci := 8) (v := .int 0) (ty := .int) (C := RX8) (T := TX8) (N := 13) hx hb hg inG_X8 tyX8 tyX8_ok nmX8 hown hK hP hD hS 0 rfl rfl 1 (by decide) (hg (.fieldLink RX8 13 "AttributeDesk" "tapeSize" "I") gw_2_161) (fun _ h9 => h9) rfl (by decide +kernel) rfl rfl (Nat.le_of_ble_eq_true rfl) dX8_end_16 (fun H locs hP hD hS => ?_)
      have hP : va_P (dC, dI) vwCl [(ah0, .inr (8, [.ref ae0, .int 0, .ref ae1, .ref ae2, .ref ae3, .ref ae4, .ref ae5, .ref ae6, .ref ae7, .ref ae8, .ref ae9, .int (-1), .int (-1)]))] H := hP
      have hD : va_D A [(ah0, .inr (8, [.ref ae0, .int 0, .ref ae1, .ref ae2, .ref ae3, .ref ae4, .ref ae5, .ref ae6, .ref ae7, .ref ae8, .ref ae9, .int (-1), .int (-1)]))] := hD
      refine lv_iload_n hx hb dX8_end_19 rfl (lv_at hl 1 rfl) ?_
      have hP9 := hP.sub (ws' := [(ah0, .inr (8, [.ref ae0, .int 0, .ref ae1, .ref ae2, .ref ae3, .ref ae4, .ref ae5, .ref ae6, .ref ae7, .ref ae8, .ref ae9, .int (-1), .int (-1)]))]) [0] rfl
      have hD9 := hD.sub (ws' := [(ah0, .inr (8, [.ref ae0, .int 0, .ref ae1, .ref ae2, .ref ae3, .ref ae4, .ref ae5, .ref ae6, .ref ae7, .ref ae8, .ref ae9, .int (-1), .int (-1)]))]) [0] (by decide) rfl
      have hK9 := hK.sub (tys' := []) [] rfl
      refine W.widen (k := 0) (n := 0) (Nat.le_of_ble_eq_true rfl) (Nat.le_of_ble_eq_true rfl) ?_
      exact W.iret (v := 0) hx hb hr (fun t ht hW => ⟨⟨0, (), rfl, rfl, by rw [ht]; exact hP9, va_K.moved hW.alike hK9, hD9⟩, hS.F ht⟩) hS.2.2 dX8_end_20
    · refine lv_iconst (v := (-1)) hx hb dX8_end_12 (by decide) ?_
      have hP9 := hP.sub (ws' := [(ah0, .inr (8, [.ref ae0, .int 0, .ref ae1, .ref ae2, .ref ae3, .ref ae4, .ref ae5, .ref ae6, .ref ae7, .ref ae8, .ref ae9, .int (-1), .int (-1)]))]) [0] rfl
      have hD9 := hD.sub (ws' := [(ah0, .inr (8, [.ref ae0, .int 0, .ref ae1, .ref ae2, .ref ae3, .ref ae4, .ref ae5, .ref ae6, .ref ae7, .ref ae8, .ref ae9, .int (-1), .int (-1)]))]) [0] (by decide) rfl
      have hK9 := hK.sub (tys' := []) [] rfl
      refine W.widen (k := 0) (n := 0) (Nat.le_of_ble_eq_true rfl) (Nat.le_of_ble_eq_true rfl) ?_
      exact W.iret (v := (-1)) hx hb hr (fun t ht hW => ⟨⟨(-1), (), rfl, endR_b c2, by rw [ht]; exact hP9, va_K.moved hW.alike hK9, hD9⟩, hS.F ht⟩) hS.2.2 dX8_end_13

set_option maxHeartbeats 4000000 in
set_option maxRecDepth 100000 in
theorem c_X1_clear (l : Launch) (dC : Nat → ClassId) (dI : Nat → Nat → Nat) (ae2 ae26 ae27 ae28 ae29 ae30 ae31 ae32 ae33 ae34 ae35 ae36 ae37 ae38 ae39 ae40 : Nat) (sz : Nat) : Met l yX1_clear wyX1_clear ({ frames := 0, cells := 0, slots := 0, locals := 0 }) (va_Pc [.ref ae2] (fun U => U.heap.size = sz ∧ va_P (dC, dI) vwCl [(ae2, .inr (1, [.int 0, .ref ae26, .ref ae27, .ref ae28, .ref ae29, .ref ae30, .ref ae31, .int 0, .ref ae32, .ref ae33, .ref ae34, .ref ae35, .ref ae36, .ref ae37, .ref ae38, .ref ae39, .ref ae40, .int 0]))] U.heap ∧ va_K (dC, dI) vwCl [] U ∧ va_D (fun _ => True) [(ae2, .inr (1, [.int 0, .ref ae26, .ref ae27, .ref ae28, .ref ae29, .ref ae30, .ref ae31, .int 0, .ref ae32, .ref ae33, .ref ae34, .ref ae35, .ref ae36, .ref ae37, .ref ae38, .ref ae39, .ref ae40, .int 0]))])) (va_Qv (fun _ : Unit => True) (fun _ t => va_P (dC, dI) vwCl [(ae2, .inr (1, [.int 0, .ref ae26, .ref ae27, .ref ae28, .ref ae29, .ref ae30, .ref ae31, .int 0, .ref ae32, .ref ae33, .ref ae34, .ref ae35, .ref ae36, .ref ae37, .ref ae38, .ref ae39, .ref ae40, .int 0]))] t.heap ∧ va_K (dC, dI) vwCl [] t ∧ va_D (va_A [(ae2, .inr (1, [.int 0, .ref ae26, .ref ae27, .ref ae28, .ref ae29, .ref ae30, .ref ae31, .int 0, .ref ae32, .ref ae33, .ref ae34, .ref ae35, .ref ae36, .ref ae37, .ref ae38, .ref ae39, .ref ae40, .int 0]))] sz) [(ae2, .inr (1, [.int 0, .ref ae26, .ref ae27, .ref ae28, .ref ae29, .ref ae30, .ref ae31, .int 0, .ref ae32, .ref ae33, .ref ae34, .ref ae35, .ref ae36, .ref ae37, .ref ae38, .ref ae39, .ref ae40, .int 0]))]) (va_A [(ae2, .inr (1, [.int 0, .ref ae26, .ref ae27, .ref ae28, .ref ae29, .ref ae30, .ref ae31, .int 0, .ref ae32, .ref ae33, .ref ae34, .ref ae35, .ref ae36, .ref ae37, .ref ae38, .ref ae39, .ref ae40, .int 0]))] sz)) 0 0 (va_A [(ae2, .inr (1, [.int 0, .ref ae26, .ref ae27, .ref ae28, .ref ae29, .ref ae30, .ref ae31, .int 0, .ref ae32, .ref ae33, .ref ae34, .ref ae35, .ref ae36, .ref ae37, .ref ae38, .ref ae39, .ref ae40, .int 0]))] sz) := by
  refine Met.ofW (cc := cX1_clear) (maxL := 1) (ret := none) (by decide) rfl ?_
  intro p e s m args below meth c s₁ B hml hv
  obtain ⟨rfl, hsz, hP, hK, hD0⟩ := hv
  have hx := B.exec
  have hb := B.bytes
  have hr := B.returns
  have hts := atoms_spec (ws := wyX1_clear) B.pre
  have hg : ∀ w ∈ lw_G, w.before _ s = true := fun w h => hts w (List.mem_cons_of_mem _ h)
  have hown : s.vm.findClass RX1 = some m.cls := findClass_of_methodNamed B.named
  have hlocks := B.notSynchronized
  subst hsz
  have hD := hD0.self (sz := s.heap.size)
  generalize hAe : va_A [(ae2, .inr (1, [.int 0, .ref ae26, .ref ae27, .ref ae28, .ref ae29, .ref ae30, .ref ae31, .int 0, .ref ae32, .ref ae33, .ref ae34, .ref ae35, .ref ae36, .ref ae37, .ref ae38, .ref ae39, .ref ae40, .int 0]))] s.heap.size = A at hD ⊢
  have hA : ∀ q : Nat, s.heap.size ≤ q → A q := fun q h => by rw [← hAe]; exact Or.inr h
  have hS : va_S A s.heap s.heap [] := va_S.rf
  have hP : va_P (dC, dI) vwCl [(ae2, .inr (1, [.int 0, .ref ae26, .ref ae27, .ref ae28, .ref ae29, .ref ae30, .ref ae31, .int 0, .ref ae32, .ref ae33, .ref ae34, .ref ae35, .ref ae36, .ref ae37, .ref ae38, .ref ae39, .ref ae40, .int 0]))] s.heap := hP
  have hl := lv_entry ([.ref ae2]) (n := 1) (Nat.le_of_ble_eq_true rfl)
  rw [lg_entry_eq]
  generalize (lg_sl ([.ref ae2]) ++ List.replicate (1 - (lg_sl ([.ref ae2])).length) Slot.unset).toArray = ls at hl ⊢
  have hl : lv_has ls 1 [(0, .ref ae2)] := hl
  refine lv_aload_n hx hb dX1_clear_0 rfl (lv_at hl 0 rfl) ?_
  refine lv_iconst (v := 0) hx hb dX1_clear_1 (by decide) ?_
  refine va_put (D := (dC, dI)) (ci := 1) (v := .int 0) (ty := .int) (C := RX1) (T := TX1) (N := 18) hx hb hg inG_X1 tyX1 tyX1_ok nmX1 hown hK hP hD hS 0 rfl rfl 0 (by decide) (hg (.fieldLink RX1 9 "AttributeDesk$Grammar" "symbolCount" "I") gw_1_26) (fun _ h9 => h9) rfl (by decide +kernel) rfl rfl (Nat.le_of_ble_eq_true rfl) dX1_clear_2 (fun H locs hP hD hS => ?_)
  have hP : va_P (dC, dI) vwCl [(ae2, .inr (1, [.int 0, .ref ae26, .ref ae27, .ref ae28, .ref ae29, .ref ae30, .ref ae31, .int 0, .ref ae32, .ref ae33, .ref ae34, .ref ae35, .ref ae36, .ref ae37, .ref ae38, .ref ae39, .ref ae40, .int 0]))] H := hP
  have hD : va_D A [(ae2, .inr (1, [.int 0, .ref ae26, .ref ae27, .ref ae28, .ref ae29, .ref ae30, .ref ae31, .int 0, .ref ae32, .ref ae33, .ref ae34, .ref ae35, .ref ae36, .ref ae37, .ref ae38, .ref ae39, .ref ae40, .int 0]))] := hD
  refine lv_aload_n hx hb dX1_clear_5 rfl (lv_at hl 0 rfl) ?_
  refine lv_iconst (v := 0) hx hb dX1_clear_6 (by decide) ?_
  refine va_put (D := (dC, dI)) (ci := 1) (v := .int 0) (ty := .int) (C := RX1) (T := TX1) (N := 18) hx hb hg inG_X1 tyX1 tyX1_ok nmX1 hown hK hP hD hS 0 rfl rfl 7 (by decide) (hg (.fieldLink RX1 36 "AttributeDesk$Grammar" "ruleCount" "I") gw_1_41) (fun _ h9 => h9) rfl (by decide +kernel) rfl rfl (Nat.le_of_ble_eq_true rfl) dX1_clear_7 (fun H locs hP hD hS => ?_)
  have hP : va_P (dC, dI) vwCl [(ae2, .inr (1, [.int 0, .ref ae26, .ref ae27, .ref ae28, .ref ae29, .ref ae30, .ref ae31, .int 0, .ref ae32, .ref ae33, .ref ae34, .ref ae35, .ref ae36, .ref ae37, .ref ae38, .ref ae39, .ref ae40, .int 0]))] H := hP
  have hD : va_D A [(ae2, .inr (1, [.int 0, .ref ae26, .ref ae27, .ref ae28, .ref ae29, .ref ae30, .ref ae31, .int 0, .ref ae32, .ref ae33, .ref ae34, .ref ae35, .ref ae36, .ref ae37, .ref ae38, .ref ae39, .ref ae40, .int 0]))] := hD
  refine lv_aload_n hx hb dX1_clear_10 rfl (lv_at hl 0 rfl) ?_
  refine lv_iconst (v := 0) hx hb dX1_clear_11 (by decide) ?_
  refine va_put (D := (dC, dI)) (ci := 1) (v := .int 0) (ty := .int) (C := RX1) (T := TX1) (N := 18) hx hb hg inG_X1 tyX1 tyX1_ok nmX1 hown hK hP hD hS 0 rfl rfl 17 (by decide) (hg (.fieldLink RX1 66 "AttributeDesk$Grammar" "codeSize" "I") gw_1_71) (fun _ h9 => h9) rfl (by decide +kernel) rfl rfl (Nat.le_of_ble_eq_true rfl) dX1_clear_12 (fun H locs hP hD hS => ?_)
  have hP : va_P (dC, dI) vwCl [(ae2, .inr (1, [.int 0, .ref ae26, .ref ae27, .ref ae28, .ref ae29, .ref ae30, .ref ae31, .int 0, .ref ae32, .ref ae33, .ref ae34, .ref ae35, .ref ae36, .ref ae37, .ref ae38, .ref ae39, .ref ae40, .int 0]))] H := hP
  have hD : va_D A [(ae2, .inr (1, [.int 0, .ref ae26, .ref ae27, .ref ae28, .ref ae29, .ref ae30, .ref ae31, .int 0, .ref ae32, .ref ae33, .ref ae34, .ref ae35, .ref ae36, .ref ae37, .ref ae38, .ref ae39, .ref ae40, .int 0]))] := hD
  have hP9 := hP.sub (ws' := [(ae2, .inr (1, [.int 0, .ref ae26, .ref ae27, .ref ae28, .ref ae29, .ref ae30, .ref ae31, .int 0, .ref ae32, .ref ae33, .ref ae34, .ref ae35, .ref ae36, .ref ae37, .ref ae38, .ref ae39, .ref ae40, .int 0]))]) [0] rfl
  have hD9 := hD.sub (ws' := [(ae2, .inr (1, [.int 0, .ref ae26, .ref ae27, .ref ae28, .ref ae29, .ref ae30, .ref ae31, .int 0, .ref ae32, .ref ae33, .ref ae34, .ref ae35, .ref ae36, .ref ae37, .ref ae38, .ref ae39, .ref ae40, .int 0]))]) [0] (by decide) rfl
  have hK9 := hK.sub (tys' := []) [] rfl
  refine W.widen (k := 0) (n := 0) (Nat.le_of_ble_eq_true rfl) (Nat.le_of_ble_eq_true rfl) ?_
  exact W.vret hx hb hr (fun t ht hW => ⟨⟨(), rfl, trivial, by rw [ht]; exact hP9, va_K.moved hW.alike hK9, hD9⟩, hS.F ht⟩) hS.2.2 dX1_clear_15

set_option maxHeartbeats 4000000 in
set_option maxRecDepth 100000 in
theorem c_X3_begin (l : Launch) (dC : Nat → ClassId) (dI : Nat → Nat → Nat) (ae5 ae0 : Nat) (ae10 : ClassId) (sz : Nat) : Met l yX3_begin wyX3_begin ({ frames := 1, cells := 0, slots := 0, locals := 21 }) (va_Pc [.ref ae5, .int 0] (fun U => U.heap.size = sz ∧ va_P (dC, dI) vwCl [(ae5, .inr (3, [.ref ae0, .int 0, .int 0, .int (-1), .int 0, .long 0, .long 0])), (ae0, .inl (ae10, 3000, .inl (fun _ => 0)))] U.heap ∧ va_K (dC, dI) vwCl [(ae10, .byte)] U ∧ va_D (fun _ => True) [(ae5, .inr (3, [.ref ae0, .int 0, .int 0, .int (-1), .int 0, .long 0, .long 0])), (ae0, .inl (ae10, 3000, .inl (fun _ => 0)))])) (va_Qv (fun _ : Unit => True) (fun _ t => va_P (dC, dI) vwCl [(ae5, .inr (3, [.ref ae0, .int 0, .int 0, .int (-1), .int 0, .long 0, .long 0])), (ae0, .inl (ae10, 3000, .inl (fun _ => 0)))] t.heap ∧ va_K (dC, dI) vwCl [(ae10, .byte)] t ∧ va_D (va_A [(ae5, .inr (3, [.ref ae0, .int 0, .int 0, .int (-1), .int 0, .long 0, .long 0])), (ae0, .inl (ae10, 3000, .inl (fun _ => 0)))] sz) [(ae5, .inr (3, [.ref ae0, .int 0, .int 0, .int (-1), .int 0, .long 0, .long 0])), (ae0, .inl (ae10, 3000, .inl (fun _ => 0)))]) (va_A [(ae5, .inr (3, [.ref ae0, .int 0, .int 0, .int (-1), .int 0, .long 0, .long 0])), (ae0, .inl (ae10, 3000, .inl (fun _ => 0)))] sz)) 0 0 (va_A [(ae5, .inr (3, [.ref ae0, .int 0, .int 0, .int (-1), .int 0, .long 0, .long 0])), (ae0, .inl (ae10, 3000, .inl (fun _ => 0)))] sz) := by
  refine Met.ofW (cc := cX3_begin) (maxL := 2) (ret := none) (by decide) rfl ?_
  intro p e s m args below meth c s₁ B hml hv
  obtain ⟨rfl, hsz, hP, hK, hD0⟩ := hv
  have hx := B.exec
  have hb := B.bytes
  have hr := B.returns
  have hts := atoms_spec (ws := wyX3_begin) B.pre
  have hg : ∀ w ∈ lw_G, w.before _ s = true := fun w h => hts w (List.mem_cons_of_mem _ h)
  have hown : s.vm.findClass RX3 = some m.cls := findClass_of_methodNamed B.named
  have hlocks := B.notSynchronized
  subst hsz
  have hD := hD0.self (sz := s.heap.size)
  generalize hAe : va_A [(ae5, .inr (3, [.ref ae0, .int 0, .int 0, .int (-1), .int 0, .long 0, .long 0])), (ae0, .inl (ae10, 3000, .inl (fun _ => 0)))] s.heap.size = A at hD ⊢
  have hA : ∀ q : Nat, s.heap.size ≤ q → A q := fun q h => by rw [← hAe]; exact Or.inr h
  have hS : va_S A s.heap s.heap [] := va_S.rf
  have hP : va_P (dC, dI) vwCl [(ae5, .inr (3, [.ref ae0, .int 0, .int 0, .int (-1), .int 0, .long 0, .long 0])), (ae0, .inl (ae10, 3000, .inl (fun _ => 0)))] s.heap := hP
  have hl := lv_entry ([.ref ae5, .int 0]) (n := 2) (Nat.le_of_ble_eq_true rfl)
  rw [lg_entry_eq]
  generalize (lg_sl ([.ref ae5, .int 0]) ++ List.replicate (2 - (lg_sl ([.ref ae5, .int 0])).length) Slot.unset).toArray = ls at hl ⊢
  have hl : lv_has ls 2 [(0, .ref ae5), (1, .int 0)] := hl
  refine lv_aload_n hx hb dX3_begin_0 rfl (lv_at hl 0 rfl) ?_
  refine lv_iload_n hx hb dX3_begin_1 rfl (lv_at hl 1 rfl) ?_
  refine lv_aload_n hx hb dX3_begin_2 rfl (lv_at hl 0 rfl) ?_
  refine va_get (D := (dC, dI)) (ci := 3) (v := .ref ae0) (C := RX3) (T := TX3) (N := 7) hx hb hg inG_X3 hown hK hP 0 rfl rfl 0 (by decide) (hg (.fieldLink RX3 31 "AttributeDesk$Tokens" "text" "[B") gw_1_160) (fun _ h9 => h9) rfl dX3_begin_3 ?_
  refine va_alen (D := (dC, dI)) (v := 3000) hx hb hK hP 1 0 rfl rfl (by decide) dX3_begin_6 ?_
  refine va_mmin hx hb (by rw [hml]; exact hl.1.symm) hown (hg (.methodLink RX3 35 Lib.Math.min.name) gw_2_228) (hg (.static Lib.Math.min.name) gw_2_229) (hg (.initialized "java/lang/Math") gw_1_11) (hg (.code Lib.Math.min.name Lib.Math.min.code 2 (some .int)) gw_2_230) (Nat.le_of_ble_eq_true rfl) (Nat.le_of_ble_eq_true rfl) (Nat.le_of_ble_eq_true rfl) (Nat.le_of_ble_eq_true rfl) dX3_begin_7 ?_
  refine lv_topi (fun x1 ex1 => ?_)
  obtain rfl : x1 = 0 := ex1.trans (by decide)
  refine va_put (D := (dC, dI)) (ci := 3) (v := .int 0) (ty := .int) (C := RX3) (T := TX3) (N := 7) hx hb hg inG_X3 tyX3 tyX3_ok nmX3 hown hK hP hD hS 0 rfl rfl 1 (by decide) (hg (.fieldLink RX3 9 "AttributeDesk$Tokens" "size" "I") gw_1_161) (fun _ h9 => h9) rfl (by decide +kernel) rfl rfl (Nat.le_of_ble_eq_true rfl) dX3_begin_10 (fun H locs hP hD hS => ?_)
  have hP : va_P (dC, dI) vwCl [(ae5, .inr (3, [.ref ae0, .int 0, .int 0, .int (-1), .int 0, .long 0, .long 0])), (ae0, .inl (ae10, 3000, .inl (fun _ => 0)))] H := hP
  have hD : va_D A [(ae5, .inr (3, [.ref ae0, .int 0, .int 0, .int (-1), .int 0, .long 0, .long 0])), (ae0, .inl (ae10, 3000, .inl (fun _ => 0)))] := hD
  refine lv_aload_n hx hb dX3_begin_13 rfl (lv_at hl 0 rfl) ?_
  refine lv_iconst (v := 0) hx hb dX3_begin_14 (by decide) ?_
  refine va_put (D := (dC, dI)) (ci := 3) (v := .int 0) (ty := .int) (C := RX3) (T := TX3) (N := 7) hx hb hg inG_X3 tyX3 tyX3_ok nmX3 hown hK hP hD hS 0 rfl rfl 2 (by decide) (hg (.fieldLink RX3 15 "AttributeDesk$Tokens" "behind" "I") gw_1_162) (fun _ h9 => h9) rfl (by decide +kernel) rfl rfl (Nat.le_of_ble_eq_true rfl) dX3_begin_15 (fun H locs hP hD hS => ?_)
  have hP : va_P (dC, dI) vwCl [(ae5, .inr (3, [.ref ae0, .int 0, .int 0, .int (-1), .int 0, .long 0, .long 0])), (ae0, .inl (ae10, 3000, .inl (fun _ => 0)))] H := hP
  have hD : va_D A [(ae5, .inr (3, [.ref ae0, .int 0, .int 0, .int (-1), .int 0, .long 0, .long 0])), (ae0, .inl (ae10, 3000, .inl (fun _ => 0)))] := hD
  have hP9 := hP.sub (ws' := [(ae5, .inr (3, [.ref ae0, .int 0, .int 0, .int (-1), .int 0, .long 0, .long 0])), (ae0, .inl (ae10, 3000, .inl (fun _ => 0)))]) [0, 1] rfl
  have hD9 := hD.sub (ws' := [(ae5, .inr (3, [.ref ae0, .int 0, .int 0, .int (-1), .int 0, .long 0, .long 0])), (ae0, .inl (ae10, 3000, .inl (fun _ => 0)))]) [0, 1] (by decide) rfl
  have hK9 := hK.sub (tys' := [(ae10, .byte)]) [0] rfl
  refine W.widen (k := 0) (n := 0) (Nat.le_of_ble_eq_true rfl) (Nat.le_of_ble_eq_true rfl) ?_
  exact W.vret hx hb hr (fun t ht hW => ⟨⟨(), rfl, trivial, by rw [ht]; exact hP9, va_K.moved hW.alike hK9, hD9⟩, hS.F ht⟩) hS.2.2 dX3_begin_18

set_option maxHeartbeats 4000000 in
set_option maxRecDepth 100000 in
theorem c_X3_skipBlanks (l : Launch) (dC : Nat → ClassId) (dI : Nat → Nat → Nat) (ae5 ae0 : Nat) (sz : Nat) : Met l yX3_skipBlanks wyX3_skipBlanks ({ frames := 0, cells := 0, slots := 0, locals := 0 }) (va_Pc [.ref ae5, .int 0] (fun U => U.heap.size = sz ∧ va_P (dC, dI) vwCl [(ae5, .inr (3, [.ref ae0, .int 0, .int 0, .int (-1), .int 0, .long 0, .long 0]))] U.heap ∧ va_K (dC, dI) vwCl [] U ∧ va_D (fun _ => True) [(ae5, .inr (3, [.ref ae0, .int 0, .int 0, .int (-1), .int 0, .long 0, .long 0]))])) (va_Qi (fun (r : Int32) (_ : Unit) => r = 0) (fun _ t => va_P (dC, dI) vwCl [(ae5, .inr (3, [.ref ae0, .int 0, .int 0, .int (-1), .int 0, .long 0, .long 0]))] t.heap ∧ va_K (dC, dI) vwCl [] t ∧ va_D (va_A [(ae5, .inr (3, [.ref ae0, .int 0, .int 0, .int (-1), .int 0, .long 0, .long 0]))] sz) [(ae5, .inr (3, [.ref ae0, .int 0, .int 0, .int (-1), .int 0, .long 0, .long 0]))]) (va_A [(ae5, .inr (3, [.ref ae0, .int 0, .int 0, .int (-1), .int 0, .long 0, .long 0]))] sz)) 0 0 (va_A [(ae5, .inr (3, [.ref ae0, .int 0, .int 0, .int (-1), .int 0, .long 0, .long 0]))] sz) := by
  refine Met.ofW (cc := cX3_skipBlanks) (maxL := 3) (ret := (some .int)) (by decide) rfl ?_
  intro p e s m args below meth c s₁ B hml hv
  obtain ⟨rfl, hsz, hP, hK, hD0⟩ := hv
  have hx := B.exec
  have hb := B.bytes
  have hr := B.returns
  have hts := atoms_spec (ws := wyX3_skipBlanks) B.pre
  have hg : ∀ w ∈ lw_G, w.before _ s = true := fun w h => hts w (List.mem_cons_of_mem _ h)
  have hown : s.vm.findClass RX3 = some m.cls := findClass_of_methodNamed B.named
  have hlocks := B.notSynchronized
  subst hsz
  have hD := hD0.self (sz := s.heap.size)
  generalize hAe : va_A [(ae5, .inr (3, [.ref ae0, .int 0, .int 0, .int (-1), .int 0, .long 0, .long 0]))] s.heap.size = A at hD ⊢
  have hA : ∀ q : Nat, s.heap.size ≤ q → A q := fun q h => by rw [← hAe]; exact Or.inr h
  have hS : va_S A s.heap s.heap [] := va_S.rf
  have hP : va_P (dC, dI) vwCl [(ae5, .inr (3, [.ref ae0, .int 0, .int 0, .int (-1), .int 0, .long 0, .long 0]))] s.heap := hP
  have hl := lv_entry ([.ref ae5, .int 0]) (n := 3) (Nat.le_of_ble_eq_true rfl)
  rw [lg_entry_eq]
  generalize (lg_sl ([.ref ae5, .int 0]) ++ List.replicate (3 - (lg_sl ([.ref ae5, .int 0])).length) Slot.unset).toArray = ls at hl ⊢
  have hl : lv_has ls 3 [(0, .ref ae5), (1, .int 0)] := hl
  refine lv_iload_n hx hb dX3_skipBlanks_0 rfl (lv_at hl 1 rfl) ?_
  refine lv_istore_n (lv' := [(2, .int 0), (0, .ref ae5), (1, .int 0)]) hx hb dX3_skipBlanks_1 rfl hl (by decide) rfl (fun ls hl => ?_)
  refine lv_iload_n hx hb dX3_skipBlanks_2 rfl (lv_at hl 0 rfl) ?_
  refine lv_aload_n hx hb dX3_skipBlanks_3 rfl (lv_at hl 1 rfl) ?_
  refine va_get (D := (dC, dI)) (ci := 3) (v := .int 0) (C := RX3) (T := TX3) (N := 7) hx hb hg inG_X3 hown hK hP 0 rfl rfl 1 (by decide) (hg (.fieldLink RX3 9 "AttributeDesk$Tokens" "size" "I") gw_1_161) (fun _ h9 => h9) rfl dX3_skipBlanks_4 ?_
  refine lv_icmp_ge (tgt := 38) hx hb dX3_skipBlanks_7 (by decide) (fun _ => ?_) (fun c1 => absurd c1 (by decide))
  refine lv_iload_n hx hb dX3_skipBlanks_38 rfl (lv_at hl 0 rfl) ?_
  have hP9 := hP.sub (ws' := [(ae5, .inr (3, [.ref ae0, .int 0, .int 0, .int (-1), .int 0, .long 0, .long 0]))]) [0] rfl
  have hD9 := hD.sub (ws' := [(ae5, .inr (3, [.ref ae0, .int 0, .int 0, .int (-1), .int 0, .long 0, .long 0]))]) [0] (by decide) rfl
  have hK9 := hK.sub (tys' := []) [] rfl
  refine W.widen (k := 0) (n := 0) (Nat.le_of_ble_eq_true rfl) (Nat.le_of_ble_eq_true rfl) ?_
  exact W.iret (v := 0) hx hb hr (fun t ht hW => ⟨⟨0, (), rfl, rfl, by rw [ht]; exact hP9, va_K.moved hW.alike hK9, hD9⟩, hS.F ht⟩) hS.2.2 dX3_skipBlanks_39

set_option maxHeartbeats 4000000 in
set_option maxRecDepth 100000 in
theorem c_X3_next (l : Launch) (dC : Nat → ClassId) (dI : Nat → Nat → Nat) (ae5 ae0 : Nat) (sz : Nat) : Met l yX3_next wyX3_next ({ frames := 1, cells := 0, slots := 0, locals := 22 }) (va_Pc [.ref ae5] (fun U => U.heap.size = sz ∧ va_P (dC, dI) vwCl [(ae5, .inr (3, [.ref ae0, .int 0, .int 0, .int (-1), .int 0, .long 0, .long 0]))] U.heap ∧ va_K (dC, dI) vwCl [] U ∧ va_D (fun _ => True) [(ae5, .inr (3, [.ref ae0, .int 0, .int 0, .int (-1), .int 0, .long 0, .long 0]))])) (va_Qv (fun _ : Unit => True) (fun _ t => va_P (dC, dI) vwCl [(ae5, .inr (3, [.ref ae0, .int 0, .int 0, .int 0, .int 0, .long 0, .long 0]))] t.heap ∧ va_K (dC, dI) vwCl [] t ∧ va_D (va_A [(ae5, .inr (3, [.ref ae0, .int 0, .int 0, .int (-1), .int 0, .long 0, .long 0]))] sz) [(ae5, .inr (3, [.ref ae0, .int 0, .int 0, .int 0, .int 0, .long 0, .long 0]))]) (va_A [(ae5, .inr (3, [.ref ae0, .int 0, .int 0, .int (-1), .int 0, .long 0, .long 0]))] sz)) 0 0 (va_A [(ae5, .inr (3, [.ref ae0, .int 0, .int 0, .int (-1), .int 0, .long 0, .long 0]))] sz) := by
  refine Met.ofW (cc := cX3_next) (maxL := 2) (ret := none) (by decide) rfl ?_
  intro p e s m args below meth c s₁ B hml hv
  obtain ⟨rfl, hsz, hP, hK, hD0⟩ := hv
  have hx := B.exec
  have hb := B.bytes
  have hr := B.returns
  have hts := atoms_spec (ws := wyX3_next) B.pre
  have hg : ∀ w ∈ lw_G, w.before _ s = true := fun w h => hts w (List.mem_cons_of_mem _ h)
  have hown : s.vm.findClass RX3 = some m.cls := findClass_of_methodNamed B.named
  have hlocks := B.notSynchronized
  subst hsz
  have hD := hD0.self (sz := s.heap.size)
  generalize hAe : va_A [(ae5, .inr (3, [.ref ae0, .int 0, .int 0, .int (-1), .int 0, .long 0, .long 0]))] s.heap.size = A at hD ⊢
  have hA : ∀ q : Nat, s.heap.size ≤ q → A q := fun q h => by rw [← hAe]; exact Or.inr h
  have hS : va_S A s.heap s.heap [] := va_S.rf
  have hP : va_P (dC, dI) vwCl [(ae5, .inr (3, [.ref ae0, .int 0, .int 0, .int (-1), .int 0, .long 0, .long 0]))] s.heap := hP
  have hl := lv_entry ([.ref ae5]) (n := 2) (Nat.le_of_ble_eq_true rfl)
  rw [lg_entry_eq]
  generalize (lg_sl ([.ref ae5]) ++ List.replicate (2 - (lg_sl ([.ref ae5])).length) Slot.unset).toArray = ls at hl ⊢
  have hl : lv_has ls 2 [(0, .ref ae5)] := hl
  refine lv_aload_n hx hb dX3_next_0 rfl (lv_at hl 0 rfl) ?_
  refine lv_aload_n hx hb dX3_next_1 rfl (lv_at hl 0 rfl) ?_
  refine lv_aload_n hx hb dX3_next_2 rfl (lv_at hl 0 rfl) ?_
  refine va_get (D := (dC, dI)) (ci := 3) (v := .int 0) (C := RX3) (T := TX3) (N := 7) hx hb hg inG_X3 hown hK hP 0 rfl rfl 2 (by decide) (hg (.fieldLink RX3 15 "AttributeDesk$Tokens" "behind" "I") gw_1_162) (fun _ h9 => h9) rfl dX3_next_3 ?_
  have hPc := hP.sub (ws' := [(ae5, .inr (3, [.ref ae0, .int 0, .int 0, .int (-1), .int 0, .long 0, .long 0]))]) [0] rfl
  have hDc := hD.sub (ws' := [(ae5, .inr (3, [.ref ae0, .int 0, .int 0, .int (-1), .int 0, .long 0, .long 0]))]) [0] (by decide) rfl
  have hKc := hK.sub (tys' := []) [] rfl
  have hFc := va_free (wc := [(ae5, .inr (3, [.ref ae0, .int 0, .int 0, .int (-1), .int 0, .long 0, .long 0]))]) hD hS hA [0] rfl
  refine va_calli (va_runV (As := [.int 0]) (rest := [.ref ae5]) ⟨hx, hb, hml, hown, hg⟩ (c_X3_skipBlanks l dC dI ae5 ae0 s.heap.size) (cwV 1 hg gc_X3_41 rfl rfl rfl (by decide +kernel) ⟨Nat.le_of_ble_eq_true rfl, Nat.le_of_ble_eq_true rfl⟩) ⟨fun a U g mk q => by obtain ⟨q0, q1, qP, qK, qD⟩ := q; exact ⟨q0, q1, qP, va_K.moved (u := U) (U := U.calling g mk a) (Vm.Alike.refl U.vm) qK, qD⟩, va_recv hKc hPc (ci := 3) (q0 := 0) rfl rfl, fun U hU hW => ⟨rfl, by rw [hU], by rw [hU]; exact hPc, va_K.moved hW.alike hKc, hDc.weaken (fun _ _ _ _ => trivial)⟩⟩ rfl rfl hl.1 rfl (lv_room (Nat.le_of_ble_eq_true rfl)) dX3_next_6 ⟨Nat.le_of_ble_eq_true rfl, Nat.le_of_ble_eq_true rfl⟩) hS (fun q _ h => hFc q h) hFc (fun r1 u2 t H1 locs ht hvm hw2 hB hz1 hk1 hS => ?_)
  obtain ⟨hP1, hK1, hD1⟩ := hB
  rw [ht] at hP1
  have hK1 := va_K.moved hvm.symm hK1
  obtain ⟨hP, hD⟩ := va_join (wr := []) (w1 := [(ae5, .inr (3, [.ref ae0, .int 0, .int 0, .int (-1), .int 0, .long 0, .long 0]))]) hP hD [0] [] rfl rfl (by decide) (by decide) hk1 hFc hP1 hD1
  have hK := (hK.sub (tys' := []) [] rfl).app hK1
  generalize H1 = H at hP hS ⊢
  have hP : va_P (dC, dI) vwCl [(ae5, .inr (3, [.ref ae0, .int 0, .int 0, .int (-1), .int 0, .long 0, .long 0]))] H := hP
  have hD : va_D A [(ae5, .inr (3, [.ref ae0, .int 0, .int 0, .int (-1), .int 0, .long 0, .long 0]))] := hD
  have hK : va_K (dC, dI) vwCl [] s := hK
  obtain rfl : r1 = 0 := hw2
  refine va_put (D := (dC, dI)) (ci := 3) (v := .int 0) (ty := .int) (C := RX3) (T := TX3) (N := 7) hx hb hg inG_X3 tyX3 tyX3_ok nmX3 hown hK hP hD hS 0 rfl rfl 4 (by decide) (hg (.fieldLink RX3 21 "AttributeDesk$Tokens" "at" "I") gw_1_167) (fun _ h9 => h9) rfl (by decide +kernel) rfl rfl (Nat.le_of_ble_eq_true rfl) dX3_next_9 (fun H locs hP hD hS => ?_)
  have hP : va_P (dC, dI) vwCl [(ae5, .inr (3, [.ref ae0, .int 0, .int 0, .int (-1), .int 0, .long 0, .long 0]))] H := hP
  have hD : va_D A [(ae5, .inr (3, [.ref ae0, .int 0, .int 0, .int (-1), .int 0, .long 0, .long 0]))] := hD
  refine lv_aload_n hx hb dX3_next_12 rfl (lv_at hl 0 rfl) ?_
  refine va_get (D := (dC, dI)) (ci := 3) (v := .int 0) (C := RX3) (T := TX3) (N := 7) hx hb hg inG_X3 hown hK hP 0 rfl rfl 4 (by decide) (hg (.fieldLink RX3 21 "AttributeDesk$Tokens" "at" "I") gw_1_167) (fun _ h9 => h9) rfl dX3_next_13 ?_
  refine lv_aload_n hx hb dX3_next_16 rfl (lv_at hl 0 rfl) ?_
  refine va_get (D := (dC, dI)) (ci := 3) (v := .int 0) (C := RX3) (T := TX3) (N := 7) hx hb hg inG_X3 hown hK hP 0 rfl rfl 1 (by decide) (hg (.fieldLink RX3 9 "AttributeDesk$Tokens" "size" "I") gw_1_161) (fun _ h9 => h9) rfl dX3_next_17 ?_
  refine lv_icmp_lt (tgt := 37) hx hb dX3_next_20 (by decide) (fun c3 => absurd c3 (by decide)) (fun _ => ?_)
  refine lv_aload_n hx hb dX3_next_23 rfl (lv_at hl 0 rfl) ?_
  refine lv_iconst (v := 0) hx hb dX3_next_24 (by decide) ?_
  refine va_put (D := (dC, dI)) (ci := 3) (v := .int 0) (ty := .int) (C := RX3) (T := TX3) (N := 7) hx hb hg inG_X3 tyX3 tyX3_ok nmX3 hown hK hP hD hS 0 rfl rfl 3 (by decide) (hg (.fieldLink RX3 18 "AttributeDesk$Tokens" "kind" "I") gw_1_163) (fun _ h9 => h9) rfl (by decide +kernel) rfl rfl (Nat.le_of_ble_eq_true rfl) dX3_next_25 (fun H locs hP hD hS => ?_)
  have hP : va_P (dC, dI) vwCl [(ae5, .inr (3, [.ref ae0, .int 0, .int 0, .int 0, .int 0, .long 0, .long 0]))] H := hP
  have hD : va_D A [(ae5, .inr (3, [.ref ae0, .int 0, .int 0, .int 0, .int 0, .long 0, .long 0]))] := hD
  refine lv_aload_n hx hb dX3_next_28 rfl (lv_at hl 0 rfl) ?_
  refine lv_aload_n hx hb dX3_next_29 rfl (lv_at hl 0 rfl) ?_
  refine va_get (D := (dC, dI)) (ci := 3) (v := .int 0) (C := RX3) (T := TX3) (N := 7) hx hb hg inG_X3 hown hK hP 0 rfl rfl 1 (by decide) (hg (.fieldLink RX3 9 "AttributeDesk$Tokens" "size" "I") gw_1_161) (fun _ h9 => h9) rfl dX3_next_30 ?_
  refine va_put (D := (dC, dI)) (ci := 3) (v := .int 0) (ty := .int) (C := RX3) (T := TX3) (N := 7) hx hb hg inG_X3 tyX3 tyX3_ok nmX3 hown hK hP hD hS 0 rfl rfl 2 (by decide) (hg (.fieldLink RX3 15 "AttributeDesk$Tokens" "behind" "I") gw_1_162) (fun _ h9 => h9) rfl (by decide +kernel) rfl rfl (Nat.le_of_ble_eq_true rfl) dX3_next_33 (fun H locs hP hD hS => ?_)
  have hP : va_P (dC, dI) vwCl [(ae5, .inr (3, [.ref ae0, .int 0, .int 0, .int 0, .int 0, .long 0, .long 0]))] H := hP
  have hD : va_D A [(ae5, .inr (3, [.ref ae0, .int 0, .int 0, .int 0, .int 0, .long 0, .long 0]))] := hD
  have hP9 := hP.sub (ws' := [(ae5, .inr (3, [.ref ae0, .int 0, .int 0, .int 0, .int 0, .long 0, .long 0]))]) [0] rfl
  have hD9 := hD.sub (ws' := [(ae5, .inr (3, [.ref ae0, .int 0, .int 0, .int 0, .int 0, .long 0, .long 0]))]) [0] (by decide) rfl
  have hK9 := hK.sub (tys' := []) [] rfl
  refine W.widen (k := 0) (n := 0) (Nat.le_of_ble_eq_true rfl) (Nat.le_of_ble_eq_true rfl) ?_
  exact W.vret hx hb hr (fun t ht hW => ⟨⟨(), rfl, trivial, by rw [ht]; exact hP9, va_K.moved hW.alike hK9, hD9⟩, hS.F ht⟩) hS.2.2 dX3_next_36

set_option maxHeartbeats 4000000 in
set_option maxRecDepth 100000 in
theorem c_X2_goIf (l : Launch) (dC : Nat → ClassId) (dI : Nat → Nat → Nat) (ae6 ae5 ae46 ae2 ae0 : Nat) (sz : Nat) : Met l yX2_goIf wyX2_goIf ({ frames := 0, cells := 0, slots := 0, locals := 0 }) (va_Pc [.ref ae6, .int 3, .int 1] (fun U => U.heap.size = sz ∧ va_P (dC, dI) vwCl [(ae6, .inr (2, [.ref ae5, .ref ae46, .ref ae2, .int 0, .int 0, .int 0, .int 0])), (ae5, .inr (3, [.ref ae0, .int 0, .int 0, .int 0, .int 0, .long 0, .long 0]))] U.heap ∧ va_K (dC, dI) vwCl [] U ∧ va_D (fun _ => True) [(ae6, .inr (2, [.ref ae5, .ref ae46, .ref ae2, .int 0, .int 0, .int 0, .int 0])), (ae5, .inr (3, [.ref ae0, .int 0, .int 0, .int 0, .int 0, .long 0, .long 0]))])) (va_Qi (fun (r : Int32) (_ : Unit) => r = 1) (fun _ t => va_P (dC, dI) vwCl [(ae6, .inr (2, [.ref ae5, .ref ae46, .ref ae2, .int 0, .int 0, .int 0, .int 0])), (ae5, .inr (3, [.ref ae0, .int 0, .int 0, .int 0, .int 0, .long 0, .long 0]))] t.heap ∧ va_K (dC, dI) vwCl [] t ∧ va_D (va_A [(ae6, .inr (2, [.ref ae5, .ref ae46, .ref ae2, .int 0, .int 0, .int 0, .int 0])), (ae5, .inr (3, [.ref ae0, .int 0, .int 0, .int 0, .int 0, .long 0, .long 0]))] sz) [(ae6, .inr (2, [.ref ae5, .ref ae46, .ref ae2, .int 0, .int 0, .int 0, .int 0])), (ae5, .inr (3, [.ref ae0, .int 0, .int 0, .int 0, .int 0, .long 0, .long 0]))]) (va_A [(ae6, .inr (2, [.ref ae5, .ref ae46, .ref ae2, .int 0, .int 0, .int 0, .int 0])), (ae5, .inr (3, [.ref ae0, .int 0, .int 0, .int 0, .int 0, .long 0, .long 0]))] sz)) 0 0 (va_A [(ae6, .inr (2, [.ref ae5, .ref ae46, .ref ae2, .int 0, .int 0, .int 0, .int 0])), (ae5, .inr (3, [.ref ae0, .int 0, .int 0, .int 0, .int 0, .long 0, .long 0]))] sz) := by
  refine Met.ofW (cc := cX2_goIf) (maxL := 3) (ret := (some .int)) (by decide) rfl ?_
  intro p e s m args below meth c s₁ B hml hv
  obtain ⟨rfl, hsz, hP, hK, hD0⟩ := hv
  have hx := B.exec
  have hb := B.bytes
  have hr := B.returns
  have hts := atoms_spec (ws := wyX2_goIf) B.pre
  have hg : ∀ w ∈ lw_G, w.before _ s = true := fun w h => hts w (List.mem_cons_of_mem _ h)
  have hown : s.vm.findClass RX2 = some m.cls := findClass_of_methodNamed B.named
  have hlocks := B.notSynchronized
  subst hsz
  have hD := hD0.self (sz := s.heap.size)
  generalize hAe : va_A [(ae6, .inr (2, [.ref ae5, .ref ae46, .ref ae2, .int 0, .int 0, .int 0, .int 0])), (ae5, .inr (3, [.ref ae0, .int 0, .int 0, .int 0, .int 0, .long 0, .long 0]))] s.heap.size = A at hD ⊢
  have hA : ∀ q : Nat, s.heap.size ≤ q → A q := fun q h => by rw [← hAe]; exact Or.inr h
  have hS : va_S A s.heap s.heap [] := va_S.rf
  have hP : va_P (dC, dI) vwCl [(ae6, .inr (2, [.ref ae5, .ref ae46, .ref ae2, .int 0, .int 0, .int 0, .int 0])), (ae5, .inr (3, [.ref ae0, .int 0, .int 0, .int 0, .int 0, .long 0, .long 0]))] s.heap := hP
  have hl := lv_entry ([.ref ae6, .int 3, .int 1]) (n := 3) (Nat.le_of_ble_eq_true rfl)
  rw [lg_entry_eq]
  generalize (lg_sl ([.ref ae6, .int 3, .int 1]) ++ List.replicate (3 - (lg_sl ([.ref ae6, .int 3, .int 1])).length) Slot.unset).toArray = ls at hl ⊢
  have hl : lv_has ls 3 [(0, .ref ae6), (1, .int 3), (2, .int 1)] := hl
  refine lv_aload_n hx hb dX2_goIf_0 rfl (lv_at hl 0 rfl) ?_
  refine va_get (D := (dC, dI)) (ci := 2) (v := .ref ae5) (C := RX2) (T := TX2) (N := 7) hx hb hg inG_X2 hown hK hP 0 rfl rfl 0 (by decide) (hg (.fieldLink RX2 25 "AttributeDesk$GrammarReader" "tokens" "LAttributeDesk$Tokens;") gw_1_239) (fun _ h9 => h9) rfl dX2_goIf_1 ?_
  refine va_get (D := (dC, dI)) (ci := 3) (v := .int 0) (C := RX3) (T := TX3) (N := 7) hx hb hg inG_X3 hown hK hP 1 rfl rfl 3 (by decide) (hg (.fieldLink RX2 73 "AttributeDesk$Tokens" "kind" "I") gw_1_166) (fun _ h9 => h9) rfl dX2_goIf_4 ?_
  refine lv_iload_n hx hb dX2_goIf_7 rfl (lv_at hl 1 rfl) ?_
  refine lv_icmp_ne (tgt := 19) hx hb dX2_goIf_8 (by decide) (fun _ => ?_) (fun c1 => absurd c1 (by decide))
  refine lv_iconst (v := 1) hx hb dX2_goIf_19 (by decide) ?_
  have hP9 := hP.sub (ws' := [(ae6, .inr (2, [.ref ae5, .ref ae46, .ref ae2, .int 0, .int 0, .int 0, .int 0])), (ae5, .inr (3, [.ref ae0, .int 0, .int 0, .int 0, .int 0, .long 0, .long 0]))]) [0, 1] rfl
  have hD9 := hD.sub (ws' := [(ae6, .inr (2, [.ref ae5, .ref ae46, .ref ae2, .int 0, .int 0, .int 0, .int 0])), (ae5, .inr (3, [.ref ae0, .int 0, .int 0, .int 0, .int 0, .long 0, .long 0]))]) [0, 1] (by decide) rfl
  have hK9 := hK.sub (tys' := []) [] rfl
  refine W.widen (k := 0) (n := 0) (Nat.le_of_ble_eq_true rfl) (Nat.le_of_ble_eq_true rfl) ?_
  exact W.iret (v := 1) hx hb hr (fun t ht hW => ⟨⟨1, (), rfl, rfl, by rw [ht]; exact hP9, va_K.moved hW.alike hK9, hD9⟩, hS.F ht⟩) hS.2.2 dX2_goIf_20

set_option maxHeartbeats 4000000 in
set_option maxRecDepth 100000 in
theorem c_X2_symbolStep (l : Launch) (dC : Nat → ClassId) (dI : Nat → Nat → Nat) (ae6 ae5 ae46 ae2 ae0 : Nat) (sz : Nat) : Met l yX2_symbolStep wyX2_symbolStep ({ frames := 1, cells := 0, slots := 0, locals := 22 }) (va_Pc [.ref ae6] (fun U => U.heap.size = sz ∧ va_P (dC, dI) vwCl [(ae6, .inr (2, [.ref ae5, .ref ae46, .ref ae2, .int 0, .int 0, .int 0, .int 0])), (ae5, .inr (3, [.ref ae0, .int 0, .int 0, .int 0, .int 0, .long 0, .long 0]))] U.heap ∧ va_K (dC, dI) vwCl [] U ∧ va_D (fun _ => True) [(ae6, .inr (2, [.ref ae5, .ref ae46, .ref ae2, .int 0, .int 0, .int 0, .int 0])), (ae5, .inr (3, [.ref ae0, .int 0, .int 0, .int 0, .int 0, .long 0, .long 0]))])) (va_Qi (fun (r : Int32) (_ : Unit) => r = 1) (fun _ t => va_P (dC, dI) vwCl [(ae6, .inr (2, [.ref ae5, .ref ae46, .ref ae2, .int 0, .int 0, .int 0, .int 0])), (ae5, .inr (3, [.ref ae0, .int 0, .int 0, .int 0, .int 0, .long 0, .long 0]))] t.heap ∧ va_K (dC, dI) vwCl [] t ∧ va_D (va_A [(ae6, .inr (2, [.ref ae5, .ref ae46, .ref ae2, .int 0, .int 0, .int 0, .int 0])), (ae5, .inr (3, [.ref ae0, .int 0, .int 0, .int 0, .int 0, .long 0, .long 0]))] sz) [(ae6, .inr (2, [.ref ae5, .ref ae46, .ref ae2, .int 0, .int 0, .int 0, .int 0])), (ae5, .inr (3, [.ref ae0, .int 0, .int 0, .int 0, .int 0, .long 0, .long 0]))]) (va_A [(ae6, .inr (2, [.ref ae5, .ref ae46, .ref ae2, .int 0, .int 0, .int 0, .int 0])), (ae5, .inr (3, [.ref ae0, .int 0, .int 0, .int 0, .int 0, .long 0, .long 0]))] sz)) 0 0 (va_A [(ae6, .inr (2, [.ref ae5, .ref ae46, .ref ae2, .int 0, .int 0, .int 0, .int 0])), (ae5, .inr (3, [.ref ae0, .int 0, .int 0, .int 0, .int 0, .long 0, .long 0]))] sz) := by
  refine Met.ofW (cc := cX2_symbolStep) (maxL := 1) (ret := (some .int)) (by decide) rfl ?_
  intro p e s m args below meth c s₁ B hml hv
  obtain ⟨rfl, hsz, hP, hK, hD0⟩ := hv
  have hx := B.exec
  have hb := B.bytes
  have hr := B.returns
  have hts := atoms_spec (ws := wyX2_symbolStep) B.pre
  have hg : ∀ w ∈ lw_G, w.before _ s = true := fun w h => hts w (List.mem_cons_of_mem _ h)
  have hown : s.vm.findClass RX2 = some m.cls := findClass_of_methodNamed B.named
  have hlocks := B.notSynchronized
  subst hsz
  have hD := hD0.self (sz := s.heap.size)
  generalize hAe : va_A [(ae6, .inr (2, [.ref ae5, .ref ae46, .ref ae2, .int 0, .int 0, .int 0, .int 0])), (ae5, .inr (3, [.ref ae0, .int 0, .int 0, .int 0, .int 0, .long 0, .long 0]))] s.heap.size = A at hD ⊢
  have hA : ∀ q : Nat, s.heap.size ≤ q → A q := fun q h => by rw [← hAe]; exact Or.inr h
  have hS : va_S A s.heap s.heap [] := va_S.rf
  have hP : va_P (dC, dI) vwCl [(ae6, .inr (2, [.ref ae5, .ref ae46, .ref ae2, .int 0, .int 0, .int 0, .int 0])), (ae5, .inr (3, [.ref ae0, .int 0, .int 0, .int 0, .int 0, .long 0, .long 0]))] s.heap := hP
  have hl := lv_entry ([.ref ae6]) (n := 1) (Nat.le_of_ble_eq_true rfl)
  rw [lg_entry_eq]
  generalize (lg_sl ([.ref ae6]) ++ List.replicate (1 - (lg_sl ([.ref ae6])).length) Slot.unset).toArray = ls at hl ⊢
  have hl : lv_has ls 1 [(0, .ref ae6)] := hl
  refine lv_aload_n hx hb dX2_symbolStep_0 rfl (lv_at hl 0 rfl) ?_
  refine va_get (D := (dC, dI)) (ci := 2) (v := .int 0) (C := RX2) (T := TX2) (N := 7) hx hb hg inG_X2 hown hK hP 0 rfl rfl 3 (by decide) (hg (.fieldLink RX2 11 "AttributeDesk$GrammarReader" "state" "I") gw_2_2) (fun _ h9 => h9) rfl dX2_symbolStep_1 ?_
  refine lv_tableOut (tgt := 78) hx hb dX2_symbolStep_4 (by decide) (by decide) ?_
  refine lv_aload_n hx hb dX2_symbolStep_78 rfl (lv_at hl 0 rfl) ?_
  refine lv_iconst (v := 3) hx hb dX2_symbolStep_79 (by decide) ?_
  refine lv_iconst (v := 1) hx hb dX2_symbolStep_80 (by decide) ?_
  have hPc := hP.sub (ws' := [(ae6, .inr (2, [.ref ae5, .ref ae46, .ref ae2, .int 0, .int 0, .int 0, .int 0])), (ae5, .inr (3, [.ref ae0, .int 0, .int 0, .int 0, .int 0, .long 0, .long 0]))]) [0, 1] rfl
  have hDc := hD.sub (ws' := [(ae6, .inr (2, [.ref ae5, .ref ae46, .ref ae2, .int 0, .int 0, .int 0, .int 0])), (ae5, .inr (3, [.ref ae0, .int 0, .int 0, .int 0, .int 0, .long 0, .long 0]))]) [0, 1] (by decide) rfl
  have hKc := hK.sub (tys' := []) [] rfl
  have hFc := va_free (wc := [(ae6, .inr (2, [.ref ae5, .ref ae46, .ref ae2, .int 0, .int 0, .int 0, .int 0])), (ae5, .inr (3, [.ref ae0, .int 0, .int 0, .int 0, .int 0, .long 0, .long 0]))]) hD hS hA [0, 1] rfl
  refine va_calli (va_runV (As := [.int 3, .int 1]) (rest := []) ⟨hx, hb, hml, hown, hg⟩ (c_X2_goIf l dC dI ae6 ae5 ae46 ae2 ae0 s.heap.size) (cwV 2 hg gc_X2_89 rfl rfl rfl (by decide +kernel) ⟨Nat.le_of_ble_eq_true rfl, Nat.le_of_ble_eq_true rfl⟩) ⟨fun a U g mk q => by obtain ⟨q0, q1, qP, qK, qD⟩ := q; exact ⟨q0, q1, qP, va_K.moved (u := U) (U := U.calling g mk a) (Vm.Alike.refl U.vm) qK, qD⟩, va_recv hKc hPc (ci := 2) (q0 := 0) rfl rfl, fun U hU hW => ⟨rfl, by rw [hU], by rw [hU]; exact hPc, va_K.moved hW.alike hKc, hDc.weaken (fun _ _ _ _ => trivial)⟩⟩ rfl rfl hl.1 rfl (lv_room (Nat.le_of_ble_eq_true rfl)) dX2_symbolStep_81 ⟨Nat.le_of_ble_eq_true rfl, Nat.le_of_ble_eq_true rfl⟩) hS (fun q _ h => hFc q h) hFc (fun r1 u2 t H1 locs ht hvm hw2 hB hz1 hk1 hS => ?_)
  obtain ⟨hP1, hK1, hD1⟩ := hB
  rw [ht] at hP1
  have hK1 := va_K.moved hvm.symm hK1
  obtain ⟨hP, hD⟩ := va_join (wr := []) (w1 := [(ae6, .inr (2, [.ref ae5, .ref ae46, .ref ae2, .int 0, .int 0, .int 0, .int 0])), (ae5, .inr (3, [.ref ae0, .int 0, .int 0, .int 0, .int 0, .long 0, .long 0]))]) hP hD [0, 1] [] rfl rfl (by decide) (by decide) hk1 hFc hP1 hD1
  have hK := (hK.sub (tys' := []) [] rfl).app hK1
  generalize H1 = H at hP hS ⊢
  have hP : va_P (dC, dI) vwCl [(ae6, .inr (2, [.ref ae5, .ref ae46, .ref ae2, .int 0, .int 0, .int 0, .int 0])), (ae5, .inr (3, [.ref ae0, .int 0, .int 0, .int 0, .int 0, .long 0, .long 0]))] H := hP
  have hD : va_D A [(ae6, .inr (2, [.ref ae5, .ref ae46, .ref ae2, .int 0, .int 0, .int 0, .int 0])), (ae5, .inr (3, [.ref ae0, .int 0, .int 0, .int 0, .int 0, .long 0, .long 0]))] := hD
  have hK : va_K (dC, dI) vwCl [] s := hK
  obtain rfl : r1 = 1 := hw2
  have hP9 := hP.sub (ws' := [(ae6, .inr (2, [.ref ae5, .ref ae46, .ref ae2, .int 0, .int 0, .int 0, .int 0])), (ae5, .inr (3, [.ref ae0, .int 0, .int 0, .int 0, .int 0, .long 0, .long 0]))]) [0, 1] rfl
  have hD9 := hD.sub (ws' := [(ae6, .inr (2, [.ref ae5, .ref ae46, .ref ae2, .int 0, .int 0, .int 0, .int 0])), (ae5, .inr (3, [.ref ae0, .int 0, .int 0, .int 0, .int 0, .long 0, .long 0]))]) [0, 1] (by decide) rfl
  have hK9 := hK.sub (tys' := []) [] rfl
  refine W.widen (k := 0) (n := 0) (Nat.le_of_ble_eq_true rfl) (Nat.le_of_ble_eq_true rfl) ?_
  exact W.iret (v := 1) hx hb hr (fun t ht hW => ⟨⟨1, (), rfl, rfl, by rw [ht]; exact hP9, va_K.moved hW.alike hK9, hD9⟩, hS.F ht⟩) hS.2.2 dX2_symbolStep_84

set_option maxHeartbeats 4000000 in
set_option maxRecDepth 100000 in
theorem c_X2_step (l : Launch) (dC : Nat → ClassId) (dI : Nat → Nat → Nat) (ae6 ae5 ae46 ae2 ae0 : Nat) (sz : Nat) : Met l yX2_step wyX2_step ({ frames := 2, cells := 0, slots := 0, locals := 42 }) (va_Pc [.ref ae6] (fun U => U.heap.size = sz ∧ va_P (dC, dI) vwCl [(ae6, .inr (2, [.ref ae5, .ref ae46, .ref ae2, .int 0, .int 0, .int 0, .int 0])), (ae5, .inr (3, [.ref ae0, .int 0, .int 0, .int 0, .int 0, .long 0, .long 0]))] U.heap ∧ va_K (dC, dI) vwCl [] U ∧ va_D (fun _ => True) [(ae6, .inr (2, [.ref ae5, .ref ae46, .ref ae2, .int 0, .int 0, .int 0, .int 0])), (ae5, .inr (3, [.ref ae0, .int 0, .int 0, .int 0, .int 0, .long 0, .long 0]))])) (va_Qi (fun (r : Int32) (_ : Unit) => r = 1) (fun _ t => va_P (dC, dI) vwCl [(ae6, .inr (2, [.ref ae5, .ref ae46, .ref ae2, .int 0, .int 0, .int 0, .int 0])), (ae5, .inr (3, [.ref ae0, .int 0, .int 0, .int 0, .int 0, .long 0, .long 0]))] t.heap ∧ va_K (dC, dI) vwCl [] t ∧ va_D (va_A [(ae6, .inr (2, [.ref ae5, .ref ae46, .ref ae2, .int 0, .int 0, .int 0, .int 0])), (ae5, .inr (3, [.ref ae0, .int 0, .int 0, .int 0, .int 0, .long 0, .long 0]))] sz) [(ae6, .inr (2, [.ref ae5, .ref ae46, .ref ae2, .int 0, .int 0, .int 0, .int 0])), (ae5, .inr (3, [.ref ae0, .int 0, .int 0, .int 0, .int 0, .long 0, .long 0]))]) (va_A [(ae6, .inr (2, [.ref ae5, .ref ae46, .ref ae2, .int 0, .int 0, .int 0, .int 0])), (ae5, .inr (3, [.ref ae0, .int 0, .int 0, .int 0, .int 0, .long 0, .long 0]))] sz)) 0 0 (va_A [(ae6, .inr (2, [.ref ae5, .ref ae46, .ref ae2, .int 0, .int 0, .int 0, .int 0])), (ae5, .inr (3, [.ref ae0, .int 0, .int 0, .int 0, .int 0, .long 0, .long 0]))] sz) := by
  refine Met.ofW (cc := cX2_step) (maxL := 1) (ret := (some .int)) (by decide) rfl ?_
  intro p e s m args below meth c s₁ B hml hv
  obtain ⟨rfl, hsz, hP, hK, hD0⟩ := hv
  have hx := B.exec
  have hb := B.bytes
  have hr := B.returns
  have hts := atoms_spec (ws := wyX2_step) B.pre
  have hg : ∀ w ∈ lw_G, w.before _ s = true := fun w h => hts w (List.mem_cons_of_mem _ h)
  have hown : s.vm.findClass RX2 = some m.cls := findClass_of_methodNamed B.named
  have hlocks := B.notSynchronized
  subst hsz
  have hD := hD0.self (sz := s.heap.size)
  generalize hAe : va_A [(ae6, .inr (2, [.ref ae5, .ref ae46, .ref ae2, .int 0, .int 0, .int 0, .int 0])), (ae5, .inr (3, [.ref ae0, .int 0, .int 0, .int 0, .int 0, .long 0, .long 0]))] s.heap.size = A at hD ⊢
  have hA : ∀ q : Nat, s.heap.size ≤ q → A q := fun q h => by rw [← hAe]; exact Or.inr h
  have hS : va_S A s.heap s.heap [] := va_S.rf
  have hP : va_P (dC, dI) vwCl [(ae6, .inr (2, [.ref ae5, .ref ae46, .ref ae2, .int 0, .int 0, .int 0, .int 0])), (ae5, .inr (3, [.ref ae0, .int 0, .int 0, .int 0, .int 0, .long 0, .long 0]))] s.heap := hP
  have hl := lv_entry ([.ref ae6]) (n := 1) (Nat.le_of_ble_eq_true rfl)
  rw [lg_entry_eq]
  generalize (lg_sl ([.ref ae6]) ++ List.replicate (1 - (lg_sl ([.ref ae6])).length) Slot.unset).toArray = ls at hl ⊢
  have hl : lv_has ls 1 [(0, .ref ae6)] := hl
  refine lv_aload_n hx hb dX2_step_0 rfl (lv_at hl 0 rfl) ?_
  refine va_get (D := (dC, dI)) (ci := 2) (v := .int 0) (C := RX2) (T := TX2) (N := 7) hx hb hg inG_X2 hown hK hP 0 rfl rfl 3 (by decide) (hg (.fieldLink RX2 11 "AttributeDesk$GrammarReader" "state" "I") gw_2_2) (fun _ h9 => h9) rfl dX2_step_1 ?_
  refine lv_iconst (v := 4) hx hb dX2_step_4 (by decide) ?_
  refine lv_icmp_gt (tgt := 13) hx hb dX2_step_5 (by decide) (fun c1 => absurd c1 (by decide)) (fun _ => ?_)
  refine lv_aload_n hx hb dX2_step_8 rfl (lv_at hl 0 rfl) ?_
  have hPc := hP.sub (ws' := [(ae6, .inr (2, [.ref ae5, .ref ae46, .ref ae2, .int 0, .int 0, .int 0, .int 0])), (ae5, .inr (3, [.ref ae0, .int 0, .int 0, .int 0, .int 0, .long 0, .long 0]))]) [0, 1] rfl
  have hDc := hD.sub (ws' := [(ae6, .inr (2, [.ref ae5, .ref ae46, .ref ae2, .int 0, .int 0, .int 0, .int 0])), (ae5, .inr (3, [.ref ae0, .int 0, .int 0, .int 0, .int 0, .long 0, .long 0]))]) [0, 1] (by decide) rfl
  have hKc := hK.sub (tys' := []) [] rfl
  have hFc := va_free (wc := [(ae6, .inr (2, [.ref ae5, .ref ae46, .ref ae2, .int 0, .int 0, .int 0, .int 0])), (ae5, .inr (3, [.ref ae0, .int 0, .int 0, .int 0, .int 0, .long 0, .long 0]))]) hD hS hA [0, 1] rfl
  refine va_calli (va_runV (As := []) (rest := []) ⟨hx, hb, hml, hown, hg⟩ (c_X2_symbolStep l dC dI ae6 ae5 ae46 ae2 ae0 s.heap.size) (cwV 0 hg gc_X2_64 rfl rfl rfl (by decide +kernel) ⟨Nat.le_of_ble_eq_true rfl, Nat.le_of_ble_eq_true rfl⟩) ⟨fun a U g mk q => by obtain ⟨q0, q1, qP, qK, qD⟩ := q; exact ⟨q0, q1, qP, va_K.moved (u := U) (U := U.calling g mk a) (Vm.Alike.refl U.vm) qK, qD⟩, va_recv hKc hPc (ci := 2) (q0 := 0) rfl rfl, fun U hU hW => ⟨rfl, by rw [hU], by rw [hU]; exact hPc, va_K.moved hW.alike hKc, hDc.weaken (fun _ _ _ _ => trivial)⟩⟩ rfl rfl hl.1 rfl (lv_room (Nat.le_of_ble_eq_true rfl)) dX2_step_9 ⟨Nat.le_of_ble_eq_true rfl, Nat.le_of_ble_eq_true rfl⟩) hS (fun q _ h => hFc q h) hFc (fun r2 u3 t H1 locs ht hvm hw3 hB hz1 hk1 hS => ?_)
  obtain ⟨hP1, hK1, hD1⟩ := hB
  rw [ht] at hP1
  have hK1 := va_K.moved hvm.symm hK1
  obtain ⟨hP, hD⟩ := va_join (wr := []) (w1 := [(ae6, .inr (2, [.ref ae5, .ref ae46, .ref ae2, .int 0, .int 0, .int 0, .int 0])), (ae5, .inr (3, [.ref ae0, .int 0, .int 0, .int 0, .int 0, .long 0, .long 0]))]) hP hD [0, 1] [] rfl rfl (by decide) (by decide) hk1 hFc hP1 hD1
  have hK := (hK.sub (tys' := []) [] rfl).app hK1
  generalize H1 = H at hP hS ⊢
  have hP : va_P (dC, dI) vwCl [(ae6, .inr (2, [.ref ae5, .ref ae46, .ref ae2, .int 0, .int 0, .int 0, .int 0])), (ae5, .inr (3, [.ref ae0, .int 0, .int 0, .int 0, .int 0, .long 0, .long 0]))] H := hP
  have hD : va_D A [(ae6, .inr (2, [.ref ae5, .ref ae46, .ref ae2, .int 0, .int 0, .int 0, .int 0])), (ae5, .inr (3, [.ref ae0, .int 0, .int 0, .int 0, .int 0, .long 0, .long 0]))] := hD
  have hK : va_K (dC, dI) vwCl [] s := hK
  obtain rfl : r2 = 1 := hw3
  have hP9 := hP.sub (ws' := [(ae6, .inr (2, [.ref ae5, .ref ae46, .ref ae2, .int 0, .int 0, .int 0, .int 0])), (ae5, .inr (3, [.ref ae0, .int 0, .int 0, .int 0, .int 0, .long 0, .long 0]))]) [0, 1] rfl
  have hD9 := hD.sub (ws' := [(ae6, .inr (2, [.ref ae5, .ref ae46, .ref ae2, .int 0, .int 0, .int 0, .int 0])), (ae5, .inr (3, [.ref ae0, .int 0, .int 0, .int 0, .int 0, .long 0, .long 0]))]) [0, 1] (by decide) rfl
  have hK9 := hK.sub (tys' := []) [] rfl
  refine W.widen (k := 0) (n := 0) (Nat.le_of_ble_eq_true rfl) (Nat.le_of_ble_eq_true rfl) ?_
  exact W.iret (v := 1) hx hb hr (fun t ht hW => ⟨⟨1, (), rfl, rfl, by rw [ht]; exact hP9, va_K.moved hW.alike hK9, hD9⟩, hS.F ht⟩) hS.2.2 dX2_step_12

set_option maxHeartbeats 4000000 in
set_option maxRecDepth 100000 in
theorem c_X2_read (l : Launch) (dC : Nat → ClassId) (dI : Nat → Nat → Nat) (ae6 ae2 ae5 ae0 ae46 ae26 ae27 ae28 ae29 ae30 ae31 ae32 ae33 ae34 ae35 ae36 ae37 ae38 ae39 ae40 : Nat) (ae10 : ClassId) (sz : Nat) : Met l yX2_read wyX2_read ({ frames := 3, cells := 0, slots := 0, locals := 62 }) (va_Pc [.ref ae6, .ref ae2, .int 0] (fun U => U.heap.size = sz ∧ va_P (dC, dI) vwCl [(ae6, .inr (2, [.ref ae5, .ref ae46, .ref ae2, .int 0, .int 0, .int 0, .int 0])), (ae2, .inr (1, [.int 0, .ref ae26, .ref ae27, .ref ae28, .ref ae29, .ref ae30, .ref ae31, .int 0, .ref ae32, .ref ae33, .ref ae34, .ref ae35, .ref ae36, .ref ae37, .ref ae38, .ref ae39, .ref ae40, .int 0])), (ae5, .inr (3, [.ref ae0, .int 0, .int 0, .int (-1), .int 0, .long 0, .long 0])), (ae0, .inl (ae10, 3000, .inl (fun _ => 0)))] U.heap ∧ va_K (dC, dI) vwCl [(ae10, .byte)] U ∧ va_D (fun _ => True) [(ae6, .inr (2, [.ref ae5, .ref ae46, .ref ae2, .int 0, .int 0, .int 0, .int 0])), (ae2, .inr (1, [.int 0, .ref ae26, .ref ae27, .ref ae28, .ref ae29, .ref ae30, .ref ae31, .int 0, .ref ae32, .ref ae33, .ref ae34, .ref ae35, .ref ae36, .ref ae37, .ref ae38, .ref ae39, .ref ae40, .int 0])), (ae5, .inr (3, [.ref ae0, .int 0, .int 0, .int (-1), .int 0, .long 0, .long 0])), (ae0, .inl (ae10, 3000, .inl (fun _ => 0)))])) (va_Qi (fun (r : Int32) (_ : Unit) => r = 1) (fun _ t => va_P (dC, dI) vwCl [(ae2, .inr (1, [.int 0, .ref ae26, .ref ae27, .ref ae28, .ref ae29, .ref ae30, .ref ae31, .int 0, .ref ae32, .ref ae33, .ref ae34, .ref ae35, .ref ae36, .ref ae37, .ref ae38, .ref ae39, .ref ae40, .int 0])), (ae0, .inl (ae10, 3000, .inl (fun _ => 0))), (ae6, .inr (2, [.ref ae5, .ref ae46, .ref ae2, .int 0, .int 0, .int 0, .int 0])), (ae5, .inr (3, [.ref ae0, .int 0, .int 0, .int 0, .int 0, .long 0, .long 0]))] t.heap ∧ va_K (dC, dI) vwCl [(ae10, .byte)] t ∧ va_D (va_A [(ae6, .inr (2, [.ref ae5, .ref ae46, .ref ae2, .int 0, .int 0, .int 0, .int 0])), (ae2, .inr (1, [.int 0, .ref ae26, .ref ae27, .ref ae28, .ref ae29, .ref ae30, .ref ae31, .int 0, .ref ae32, .ref ae33, .ref ae34, .ref ae35, .ref ae36, .ref ae37, .ref ae38, .ref ae39, .ref ae40, .int 0])), (ae5, .inr (3, [.ref ae0, .int 0, .int 0, .int (-1), .int 0, .long 0, .long 0])), (ae0, .inl (ae10, 3000, .inl (fun _ => 0)))] sz) [(ae2, .inr (1, [.int 0, .ref ae26, .ref ae27, .ref ae28, .ref ae29, .ref ae30, .ref ae31, .int 0, .ref ae32, .ref ae33, .ref ae34, .ref ae35, .ref ae36, .ref ae37, .ref ae38, .ref ae39, .ref ae40, .int 0])), (ae0, .inl (ae10, 3000, .inl (fun _ => 0))), (ae6, .inr (2, [.ref ae5, .ref ae46, .ref ae2, .int 0, .int 0, .int 0, .int 0])), (ae5, .inr (3, [.ref ae0, .int 0, .int 0, .int 0, .int 0, .long 0, .long 0]))]) (va_A [(ae6, .inr (2, [.ref ae5, .ref ae46, .ref ae2, .int 0, .int 0, .int 0, .int 0])), (ae2, .inr (1, [.int 0, .ref ae26, .ref ae27, .ref ae28, .ref ae29, .ref ae30, .ref ae31, .int 0, .ref ae32, .ref ae33, .ref ae34, .ref ae35, .ref ae36, .ref ae37, .ref ae38, .ref ae39, .ref ae40, .int 0])), (ae5, .inr (3, [.ref ae0, .int 0, .int 0, .int (-1), .int 0, .long 0, .long 0])), (ae0, .inl (ae10, 3000, .inl (fun _ => 0)))] sz)) 0 0 (va_A [(ae6, .inr (2, [.ref ae5, .ref ae46, .ref ae2, .int 0, .int 0, .int 0, .int 0])), (ae2, .inr (1, [.int 0, .ref ae26, .ref ae27, .ref ae28, .ref ae29, .ref ae30, .ref ae31, .int 0, .ref ae32, .ref ae33, .ref ae34, .ref ae35, .ref ae36, .ref ae37, .ref ae38, .ref ae39, .ref ae40, .int 0])), (ae5, .inr (3, [.ref ae0, .int 0, .int 0, .int (-1), .int 0, .long 0, .long 0])), (ae0, .inl (ae10, 3000, .inl (fun _ => 0)))] sz) := by
  refine Met.ofW (cc := cX2_read) (maxL := 5) (ret := (some .int)) (by decide) rfl ?_
  intro p e s m args below meth c s₁ B hml hv
  obtain ⟨rfl, hsz, hP, hK, hD0⟩ := hv
  have hx := B.exec
  have hb := B.bytes
  have hr := B.returns
  have hts := atoms_spec (ws := wyX2_read) B.pre
  have hg : ∀ w ∈ lw_G, w.before _ s = true := fun w h => hts w (List.mem_cons_of_mem _ h)
  have hown : s.vm.findClass RX2 = some m.cls := findClass_of_methodNamed B.named
  have hlocks := B.notSynchronized
  subst hsz
  have hD := hD0.self (sz := s.heap.size)
  generalize hAe : va_A [(ae6, .inr (2, [.ref ae5, .ref ae46, .ref ae2, .int 0, .int 0, .int 0, .int 0])), (ae2, .inr (1, [.int 0, .ref ae26, .ref ae27, .ref ae28, .ref ae29, .ref ae30, .ref ae31, .int 0, .ref ae32, .ref ae33, .ref ae34, .ref ae35, .ref ae36, .ref ae37, .ref ae38, .ref ae39, .ref ae40, .int 0])), (ae5, .inr (3, [.ref ae0, .int 0, .int 0, .int (-1), .int 0, .long 0, .long 0])), (ae0, .inl (ae10, 3000, .inl (fun _ => 0)))] s.heap.size = A at hD ⊢
  have hA : ∀ q : Nat, s.heap.size ≤ q → A q := fun q h => by rw [← hAe]; exact Or.inr h
  have hS : va_S A s.heap s.heap [] := va_S.rf
  have hP : va_P (dC, dI) vwCl [(ae6, .inr (2, [.ref ae5, .ref ae46, .ref ae2, .int 0, .int 0, .int 0, .int 0])), (ae2, .inr (1, [.int 0, .ref ae26, .ref ae27, .ref ae28, .ref ae29, .ref ae30, .ref ae31, .int 0, .ref ae32, .ref ae33, .ref ae34, .ref ae35, .ref ae36, .ref ae37, .ref ae38, .ref ae39, .ref ae40, .int 0])), (ae5, .inr (3, [.ref ae0, .int 0, .int 0, .int (-1), .int 0, .long 0, .long 0])), (ae0, .inl (ae10, 3000, .inl (fun _ => 0)))] s.heap := hP
  have hl := lv_entry ([.ref ae6, .ref ae2, .int 0]) (n := 5) (Nat.le_of_ble_eq_true rfl)
  rw [lg_entry_eq]
  generalize (lg_sl ([.ref ae6, .ref ae2, .int 0]) ++ List.replicate (5 - (lg_sl ([.ref ae6, .ref ae2, .int 0])).length) Slot.unset).toArray = ls at hl ⊢
  have hl : lv_has ls 5 [(0, .ref ae6), (1, .ref ae2), (2, .int 0)] := hl
  refine lv_aload_n hx hb dX2_read_0 rfl (lv_at hl 0 rfl) ?_
  refine lv_aload_n hx hb dX2_read_1 rfl (lv_at hl 1 rfl) ?_
  refine va_put (D := (dC, dI)) (ci := 2) (v := .ref ae2) (ty := .object "AttributeDesk$Grammar") (C := RX2) (T := TX2) (N := 7) hx hb hg inG_X2 tyX2 tyX2_ok nmX2 hown hK hP hD hS 0 rfl rfl 2 (by decide) (hg (.fieldLink RX2 29 "AttributeDesk$GrammarReader" "grammar" "LAttributeDesk$Grammar;") gw_2_1) (fun _ h9 => h9) rfl (by decide +kernel) rfl rfl (Nat.le_of_ble_eq_true rfl) dX2_read_2 (fun H locs hP hD hS => ?_)
  have hP : va_P (dC, dI) vwCl [(ae6, .inr (2, [.ref ae5, .ref ae46, .ref ae2, .int 0, .int 0, .int 0, .int 0])), (ae2, .inr (1, [.int 0, .ref ae26, .ref ae27, .ref ae28, .ref ae29, .ref ae30, .ref ae31, .int 0, .ref ae32, .ref ae33, .ref ae34, .ref ae35, .ref ae36, .ref ae37, .ref ae38, .ref ae39, .ref ae40, .int 0])), (ae5, .inr (3, [.ref ae0, .int 0, .int 0, .int (-1), .int 0, .long 0, .long 0])), (ae0, .inl (ae10, 3000, .inl (fun _ => 0)))] H := hP
  have hD : va_D A [(ae6, .inr (2, [.ref ae5, .ref ae46, .ref ae2, .int 0, .int 0, .int 0, .int 0])), (ae2, .inr (1, [.int 0, .ref ae26, .ref ae27, .ref ae28, .ref ae29, .ref ae30, .ref ae31, .int 0, .ref ae32, .ref ae33, .ref ae34, .ref ae35, .ref ae36, .ref ae37, .ref ae38, .ref ae39, .ref ae40, .int 0])), (ae5, .inr (3, [.ref ae0, .int 0, .int 0, .int (-1), .int 0, .long 0, .long 0])), (ae0, .inl (ae10, 3000, .inl (fun _ => 0)))] := hD
  refine lv_aload_n hx hb dX2_read_5 rfl (lv_at hl 0 rfl) ?_
  refine va_get (D := (dC, dI)) (ci := 2) (v := .ref ae2) (C := RX2) (T := TX2) (N := 7) hx hb hg inG_X2 hown hK hP 0 rfl rfl 2 (by decide) (hg (.fieldLink RX2 29 "AttributeDesk$GrammarReader" "grammar" "LAttributeDesk$Grammar;") gw_2_1) (fun _ h9 => h9) rfl dX2_read_6 ?_
  have hPc := hP.sub (ws' := [(ae2, .inr (1, [.int 0, .ref ae26, .ref ae27, .ref ae28, .ref ae29, .ref ae30, .ref ae31, .int 0, .ref ae32, .ref ae33, .ref ae34, .ref ae35, .ref ae36, .ref ae37, .ref ae38, .ref ae39, .ref ae40, .int 0]))]) [1] rfl
  have hDc := hD.sub (ws' := [(ae2, .inr (1, [.int 0, .ref ae26, .ref ae27, .ref ae28, .ref ae29, .ref ae30, .ref ae31, .int 0, .ref ae32, .ref ae33, .ref ae34, .ref ae35, .ref ae36, .ref ae37, .ref ae38, .ref ae39, .ref ae40, .int 0]))]) [1] (by decide) rfl
  have hKc := hK.sub (tys' := []) [] rfl
  have hFc := va_free (wc := [(ae2, .inr (1, [.int 0, .ref ae26, .ref ae27, .ref ae28, .ref ae29, .ref ae30, .ref ae31, .int 0, .ref ae32, .ref ae33, .ref ae34, .ref ae35, .ref ae36, .ref ae37, .ref ae38, .ref ae39, .ref ae40, .int 0]))]) hD hS hA [1] rfl
  refine va_callv (va_runV (As := []) (rest := []) ⟨hx, hb, hml, hown, hg⟩ (c_X1_clear l dC dI ae2 ae26 ae27 ae28 ae29 ae30 ae31 ae32 ae33 ae34 ae35 ae36 ae37 ae38 ae39 ae40 H.size) (cwV 0 hg gc_X2_42 rfl rfl rfl (by decide +kernel) ⟨Nat.le_of_ble_eq_true rfl, Nat.le_of_ble_eq_true rfl⟩) ⟨fun a U g mk q => by obtain ⟨q0, q1, qP, qK, qD⟩ := q; exact ⟨q0, q1, qP, va_K.moved (u := U) (U := U.calling g mk a) (Vm.Alike.refl U.vm) qK, qD⟩, va_recv hKc hPc (ci := 1) (q0 := 0) rfl rfl, fun U hU hW => ⟨rfl, by rw [hU], by rw [hU]; exact hPc, va_K.moved hW.alike hKc, hDc.weaken (fun _ _ _ _ => trivial)⟩⟩ rfl rfl hl.1 rfl (lv_room (Nat.le_of_ble_eq_true rfl)) dX2_read_9 ⟨Nat.le_of_ble_eq_true rfl, Nat.le_of_ble_eq_true rfl⟩) hS (fun q _ h => hFc q h) hFc (fun u2 t H1 locs ht hvm hw2 hB hz1 hk1 hS => ?_)
  obtain ⟨hP1, hK1, hD1⟩ := hB
  rw [ht] at hP1
  have hK1 := va_K.moved hvm.symm hK1
  obtain ⟨hP, hD⟩ := va_join (wr := [(ae6, .inr (2, [.ref ae5, .ref ae46, .ref ae2, .int 0, .int 0, .int 0, .int 0])), (ae5, .inr (3, [.ref ae0, .int 0, .int 0, .int (-1), .int 0, .long 0, .long 0])), (ae0, .inl (ae10, 3000, .inl (fun _ => 0)))]) (w1 := [(ae2, .inr (1, [.int 0, .ref ae26, .ref ae27, .ref ae28, .ref ae29, .ref ae30, .ref ae31, .int 0, .ref ae32, .ref ae33, .ref ae34, .ref ae35, .ref ae36, .ref ae37, .ref ae38, .ref ae39, .ref ae40, .int 0]))]) hP hD [1] [0, 2, 3] rfl rfl (by decide) (by decide) hk1 hFc hP1 hD1
  have hK := (hK.sub (tys' := [(ae10, .byte)]) [0] rfl).app hK1
  generalize H1 = H at hP hS ⊢
  have hP : va_P (dC, dI) vwCl [(ae6, .inr (2, [.ref ae5, .ref ae46, .ref ae2, .int 0, .int 0, .int 0, .int 0])), (ae5, .inr (3, [.ref ae0, .int 0, .int 0, .int (-1), .int 0, .long 0, .long 0])), (ae0, .inl (ae10, 3000, .inl (fun _ => 0))), (ae2, .inr (1, [.int 0, .ref ae26, .ref ae27, .ref ae28, .ref ae29, .ref ae30, .ref ae31, .int 0, .ref ae32, .ref ae33, .ref ae34, .ref ae35, .ref ae36, .ref ae37, .ref ae38, .ref ae39, .ref ae40, .int 0]))] H := hP
  have hD : va_D A [(ae6, .inr (2, [.ref ae5, .ref ae46, .ref ae2, .int 0, .int 0, .int 0, .int 0])), (ae5, .inr (3, [.ref ae0, .int 0, .int 0, .int (-1), .int 0, .long 0, .long 0])), (ae0, .inl (ae10, 3000, .inl (fun _ => 0))), (ae2, .inr (1, [.int 0, .ref ae26, .ref ae27, .ref ae28, .ref ae29, .ref ae30, .ref ae31, .int 0, .ref ae32, .ref ae33, .ref ae34, .ref ae35, .ref ae36, .ref ae37, .ref ae38, .ref ae39, .ref ae40, .int 0]))] := hD
  have hK : va_K (dC, dI) vwCl [(ae10, .byte)] s := hK
  refine lv_aload_n hx hb dX2_read_12 rfl (lv_at hl 0 rfl) ?_
  refine va_get (D := (dC, dI)) (ci := 2) (v := .ref ae5) (C := RX2) (T := TX2) (N := 7) hx hb hg inG_X2 hown hK hP 0 rfl rfl 0 (by decide) (hg (.fieldLink RX2 25 "AttributeDesk$GrammarReader" "tokens" "LAttributeDesk$Tokens;") gw_1_239) (fun _ h9 => h9) rfl dX2_read_13 ?_
  refine lv_iload_n hx hb dX2_read_16 rfl (lv_at hl 2 rfl) ?_
  have hPc := hP.sub (ws' := [(ae5, .inr (3, [.ref ae0, .int 0, .int 0, .int (-1), .int 0, .long 0, .long 0])), (ae0, .inl (ae10, 3000, .inl (fun _ => 0)))]) [1, 2] rfl
  have hDc := hD.sub (ws' := [(ae5, .inr (3, [.ref ae0, .int 0, .int 0, .int (-1), .int 0, .long 0, .long 0])), (ae0, .inl (ae10, 3000, .inl (fun _ => 0)))]) [1, 2] (by decide) rfl
  have hKc := hK.sub (tys' := [(ae10, .byte)]) [0] rfl
  have hFc := va_free (wc := [(ae5, .inr (3, [.ref ae0, .int 0, .int 0, .int (-1), .int 0, .long 0, .long 0])), (ae0, .inl (ae10, 3000, .inl (fun _ => 0)))]) hD hS hA [1, 2] rfl
  refine va_callv (va_runV (As := [.int 0]) (rest := []) ⟨hx, hb, hml, hown, hg⟩ (c_X3_begin l dC dI ae5 ae0 ae10 H.size) (cwV 1 hg gc_X2_47 rfl rfl rfl (by decide +kernel) ⟨Nat.le_of_ble_eq_true rfl, Nat.le_of_ble_eq_true rfl⟩) ⟨fun a U g mk q => by obtain ⟨q0, q1, qP, qK, qD⟩ := q; exact ⟨q0, q1, qP, va_K.moved (u := U) (U := U.calling g mk a) (Vm.Alike.refl U.vm) qK, qD⟩, va_recv hKc hPc (ci := 3) (q0 := 0) rfl rfl, fun U hU hW => ⟨rfl, by rw [hU], by rw [hU]; exact hPc, va_K.moved hW.alike hKc, hDc.weaken (fun _ _ _ _ => trivial)⟩⟩ rfl rfl hl.1 rfl (lv_room (Nat.le_of_ble_eq_true rfl)) dX2_read_17 ⟨Nat.le_of_ble_eq_true rfl, Nat.le_of_ble_eq_true rfl⟩) hS (fun q _ h => hFc q h) hFc (fun u4 t H1 locs ht hvm hw4 hB hz1 hk1 hS => ?_)
  obtain ⟨hP1, hK1, hD1⟩ := hB
  rw [ht] at hP1
  have hK1 := va_K.moved hvm.symm hK1
  obtain ⟨hP, hD⟩ := va_join (wr := [(ae6, .inr (2, [.ref ae5, .ref ae46, .ref ae2, .int 0, .int 0, .int 0, .int 0])), (ae2, .inr (1, [.int 0, .ref ae26, .ref ae27, .ref ae28, .ref ae29, .ref ae30, .ref ae31, .int 0, .ref ae32, .ref ae33, .ref ae34, .ref ae35, .ref ae36, .ref ae37, .ref ae38, .ref ae39, .ref ae40, .int 0]))]) (w1 := [(ae5, .inr (3, [.ref ae0, .int 0, .int 0, .int (-1), .int 0, .long 0, .long 0])), (ae0, .inl (ae10, 3000, .inl (fun _ => 0)))]) hP hD [1, 2] [0, 3] rfl rfl (by decide) (by decide) hk1 hFc hP1 hD1
  have hK := (hK.sub (tys' := []) [] rfl).app hK1
  generalize H1 = H at hP hS ⊢
  have hP : va_P (dC, dI) vwCl [(ae6, .inr (2, [.ref ae5, .ref ae46, .ref ae2, .int 0, .int 0, .int 0, .int 0])), (ae2, .inr (1, [.int 0, .ref ae26, .ref ae27, .ref ae28, .ref ae29, .ref ae30, .ref ae31, .int 0, .ref ae32, .ref ae33, .ref ae34, .ref ae35, .ref ae36, .ref ae37, .ref ae38, .ref ae39, .ref ae40, .int 0])), (ae5, .inr (3, [.ref ae0, .int 0, .int 0, .int (-1), .int 0, .long 0, .long 0])), (ae0, .inl (ae10, 3000, .inl (fun _ => 0)))] H := hP
  have hD : va_D A [(ae6, .inr (2, [.ref ae5, .ref ae46, .ref ae2, .int 0, .int 0, .int 0, .int 0])), (ae2, .inr (1, [.int 0, .ref ae26, .ref ae27, .ref ae28, .ref ae29, .ref ae30, .ref ae31, .int 0, .ref ae32, .ref ae33, .ref ae34, .ref ae35, .ref ae36, .ref ae37, .ref ae38, .ref ae39, .ref ae40, .int 0])), (ae5, .inr (3, [.ref ae0, .int 0, .int 0, .int (-1), .int 0, .long 0, .long 0])), (ae0, .inl (ae10, 3000, .inl (fun _ => 0)))] := hD
  have hK : va_K (dC, dI) vwCl [(ae10, .byte)] s := hK
  refine lv_aload_n hx hb dX2_read_20 rfl (lv_at hl 0 rfl) ?_
  refine lv_iconst (v := 0) hx hb dX2_read_21 (by decide) ?_
  refine va_put (D := (dC, dI)) (ci := 2) (v := .int 0) (ty := .int) (C := RX2) (T := TX2) (N := 7) hx hb hg inG_X2 tyX2 tyX2_ok nmX2 hown hK hP hD hS 0 rfl rfl 3 (by decide) (hg (.fieldLink RX2 11 "AttributeDesk$GrammarReader" "state" "I") gw_2_2) (fun _ h9 => h9) rfl (by decide +kernel) rfl rfl (Nat.le_of_ble_eq_true rfl) dX2_read_22 (fun H locs hP hD hS => ?_)
  have hP : va_P (dC, dI) vwCl [(ae6, .inr (2, [.ref ae5, .ref ae46, .ref ae2, .int 0, .int 0, .int 0, .int 0])), (ae2, .inr (1, [.int 0, .ref ae26, .ref ae27, .ref ae28, .ref ae29, .ref ae30, .ref ae31, .int 0, .ref ae32, .ref ae33, .ref ae34, .ref ae35, .ref ae36, .ref ae37, .ref ae38, .ref ae39, .ref ae40, .int 0])), (ae5, .inr (3, [.ref ae0, .int 0, .int 0, .int (-1), .int 0, .long 0, .long 0])), (ae0, .inl (ae10, 3000, .inl (fun _ => 0)))] H := hP
  have hD : va_D A [(ae6, .inr (2, [.ref ae5, .ref ae46, .ref ae2, .int 0, .int 0, .int 0, .int 0])), (ae2, .inr (1, [.int 0, .ref ae26, .ref ae27, .ref ae28, .ref ae29, .ref ae30, .ref ae31, .int 0, .ref ae32, .ref ae33, .ref ae34, .ref ae35, .ref ae36, .ref ae37, .ref ae38, .ref ae39, .ref ae40, .int 0])), (ae5, .inr (3, [.ref ae0, .int 0, .int 0, .int (-1), .int 0, .long 0, .long 0])), (ae0, .inl (ae10, 3000, .inl (fun _ => 0)))] := hD
  refine lv_iconst (v := 0) hx hb dX2_read_25 (by decide) ?_
  refine lv_istore_n (lv' := [(3, .int 0), (0, .ref ae6), (1, .ref ae2), (2, .int 0)]) hx hb dX2_read_26 rfl hl (by decide) rfl (fun ls hl => ?_)
  refine lv_iconst (v := 0) hx hb dX2_read_27 (by decide) ?_
  refine lv_istore (lv' := [(4, .int 0), (3, .int 0), (0, .ref ae6), (1, .ref ae2), (2, .int 0)]) hx hb dX2_read_28 hl (by decide) rfl (fun ls hl => ?_)
  refine lv_iload hx hb dX2_read_30 (lv_at hl 0 rfl) ?_
  refine lv_iload_n hx hb dX2_read_32 rfl (lv_at hl 4 rfl) ?_
  refine lv_icmp_gt (tgt := 111) hx hb dX2_read_33 (by decide) (fun c5 => absurd c5 (by decide)) (fun _ => ?_)
  refine lv_iload_n hx hb dX2_read_36 rfl (lv_at hl 1 rfl) ?_
  refine lv_if_ne (tgt := 111) hx hb dX2_read_37 (by decide) (fun c6 => absurd c6 (by decide)) (fun _ => ?_)
  refine lv_aload_n hx hb dX2_read_40 rfl (lv_at hl 2 rfl) ?_
  refine va_get (D := (dC, dI)) (ci := 2) (v := .int 0) (C := RX2) (T := TX2) (N := 7) hx hb hg inG_X2 hown hK hP 0 rfl rfl 3 (by decide) (hg (.fieldLink RX2 11 "AttributeDesk$GrammarReader" "state" "I") gw_2_2) (fun _ h9 => h9) rfl dX2_read_41 ?_
  refine lv_bipush (v := 15) hx hb dX2_read_44 (by decide) ?_
  refine lv_icmp_eq (tgt := 111) hx hb dX2_read_46 (by decide) (fun c7 => absurd c7 (by decide)) (fun _ => ?_)
  refine lv_aload_n hx hb dX2_read_49 rfl (lv_at hl 2 rfl) ?_
  refine va_get (D := (dC, dI)) (ci := 2) (v := .ref ae5) (C := RX2) (T := TX2) (N := 7) hx hb hg inG_X2 hown hK hP 0 rfl rfl 0 (by decide) (hg (.fieldLink RX2 25 "AttributeDesk$GrammarReader" "tokens" "LAttributeDesk$Tokens;") gw_1_239) (fun _ h9 => h9) rfl dX2_read_50 ?_
  have hPc := hP.sub (ws' := [(ae5, .inr (3, [.ref ae0, .int 0, .int 0, .int (-1), .int 0, .long 0, .long 0]))]) [2] rfl
  have hDc := hD.sub (ws' := [(ae5, .inr (3, [.ref ae0, .int 0, .int 0, .int (-1), .int 0, .long 0, .long 0]))]) [2] (by decide) rfl
  have hKc := hK.sub (tys' := []) [] rfl
  have hFc := va_free (wc := [(ae5, .inr (3, [.ref ae0, .int 0, .int 0, .int (-1), .int 0, .long 0, .long 0]))]) hD hS hA [2] rfl
  refine va_callv (va_runV (As := []) (rest := []) ⟨hx, hb, hml, hown, hg⟩ (c_X3_next l dC dI ae5 ae0 H.size) (cwV 0 hg gc_X2_53 rfl rfl rfl (by decide +kernel) ⟨Nat.le_of_ble_eq_true rfl, Nat.le_of_ble_eq_true rfl⟩) ⟨fun a U g mk q => by obtain ⟨q0, q1, qP, qK, qD⟩ := q; exact ⟨q0, q1, qP, va_K.moved (u := U) (U := U.calling g mk a) (Vm.Alike.refl U.vm) qK, qD⟩, va_recv hKc hPc (ci := 3) (q0 := 0) rfl rfl, fun U hU hW => ⟨rfl, by rw [hU], by rw [hU]; exact hPc, va_K.moved hW.alike hKc, hDc.weaken (fun _ _ _ _ => trivial)⟩⟩ rfl rfl hl.1 rfl (lv_room (Nat.le_of_ble_eq_true rfl)) dX2_read_53 ⟨Nat.le_of_ble_eq_true rfl, Nat.le_of_ble_eq_true rfl⟩) hS (fun q _ h => hFc q h) hFc (fun u9 t H1 locs ht hvm hw9 hB hz1 hk1 hS => ?_)
  obtain ⟨hP1, hK1, hD1⟩ := hB
  rw [ht] at hP1
  have hK1 := va_K.moved hvm.symm hK1
  obtain ⟨hP, hD⟩ := va_join (wr := [(ae6, .inr (2, [.ref ae5, .ref ae46, .ref ae2, .int 0, .int 0, .int 0, .int 0])), (ae2, .inr (1, [.int 0, .ref ae26, .ref ae27, .ref ae28, .ref ae29, .ref ae30, .ref ae31, .int 0, .ref ae32, .ref ae33, .ref ae34, .ref ae35, .ref ae36, .ref ae37, .ref ae38, .ref ae39, .ref ae40, .int 0])), (ae0, .inl (ae10, 3000, .inl (fun _ => 0)))]) (w1 := [(ae5, .inr (3, [.ref ae0, .int 0, .int 0, .int 0, .int 0, .long 0, .long 0]))]) hP hD [2] [0, 1, 3] rfl rfl (by decide) (by decide) hk1 hFc hP1 hD1
  have hK := (hK.sub (tys' := [(ae10, .byte)]) [0] rfl).app hK1
  generalize H1 = H at hP hS ⊢
  have hP : va_P (dC, dI) vwCl [(ae6, .inr (2, [.ref ae5, .ref ae46, .ref ae2, .int 0, .int 0, .int 0, .int 0])), (ae2, .inr (1, [.int 0, .ref ae26, .ref ae27, .ref ae28, .ref ae29, .ref ae30, .ref ae31, .int 0, .ref ae32, .ref ae33, .ref ae34, .ref ae35, .ref ae36, .ref ae37, .ref ae38, .ref ae39, .ref ae40, .int 0])), (ae0, .inl (ae10, 3000, .inl (fun _ => 0))), (ae5, .inr (3, [.ref ae0, .int 0, .int 0, .int 0, .int 0, .long 0, .long 0]))] H := hP
  have hD : va_D A [(ae6, .inr (2, [.ref ae5, .ref ae46, .ref ae2, .int 0, .int 0, .int 0, .int 0])), (ae2, .inr (1, [.int 0, .ref ae26, .ref ae27, .ref ae28, .ref ae29, .ref ae30, .ref ae31, .int 0, .ref ae32, .ref ae33, .ref ae34, .ref ae35, .ref ae36, .ref ae37, .ref ae38, .ref ae39, .ref ae40, .int 0])), (ae0, .inl (ae10, 3000, .inl (fun _ => 0))), (ae5, .inr (3, [.ref ae0, .int 0, .int 0, .int 0, .int 0, .long 0, .long 0]))] := hD
  have hK : va_K (dC, dI) vwCl [(ae10, .byte)] s := hK
  refine lv_aload_n hx hb dX2_read_56 rfl (lv_at hl 2 rfl) ?_
  refine va_get (D := (dC, dI)) (ci := 2) (v := .int 0) (C := RX2) (T := TX2) (N := 7) hx hb hg inG_X2 hown hK hP 0 rfl rfl 3 (by decide) (hg (.fieldLink RX2 11 "AttributeDesk$GrammarReader" "state" "I") gw_2_2) (fun _ h9 => h9) rfl dX2_read_57 ?_
  refine lv_bipush (v := 14) hx hb dX2_read_60 (by decide) ?_
  refine lv_icmp_ne (tgt := 75) hx hb dX2_read_62 (by decide) (fun _ => ?_) (fun c10 => absurd c10 (by decide))
  refine lv_aload_n hx hb dX2_read_75 rfl (lv_at hl 2 rfl) ?_
  have hPc := hP.sub (ws' := [(ae6, .inr (2, [.ref ae5, .ref ae46, .ref ae2, .int 0, .int 0, .int 0, .int 0])), (ae5, .inr (3, [.ref ae0, .int 0, .int 0, .int 0, .int 0, .long 0, .long 0]))]) [0, 3] rfl
  have hDc := hD.sub (ws' := [(ae6, .inr (2, [.ref ae5, .ref ae46, .ref ae2, .int 0, .int 0, .int 0, .int 0])), (ae5, .inr (3, [.ref ae0, .int 0, .int 0, .int 0, .int 0, .long 0, .long 0]))]) [0, 3] (by decide) rfl
  have hKc := hK.sub (tys' := []) [] rfl
  have hFc := va_free (wc := [(ae6, .inr (2, [.ref ae5, .ref ae46, .ref ae2, .int 0, .int 0, .int 0, .int 0])), (ae5, .inr (3, [.ref ae0, .int 0, .int 0, .int 0, .int 0, .long 0, .long 0]))]) hD hS hA [0, 3] rfl
  refine va_calli (va_runV (As := []) (rest := []) ⟨hx, hb, hml, hown, hg⟩ (c_X2_step l dC dI ae6 ae5 ae46 ae2 ae0 H.size) (cwV 0 hg gc_X2_60 rfl rfl rfl (by decide +kernel) ⟨Nat.le_of_ble_eq_true rfl, Nat.le_of_ble_eq_true rfl⟩) ⟨fun a U g mk q => by obtain ⟨q0, q1, qP, qK, qD⟩ := q; exact ⟨q0, q1, qP, va_K.moved (u := U) (U := U.calling g mk a) (Vm.Alike.refl U.vm) qK, qD⟩, va_recv hKc hPc (ci := 2) (q0 := 0) rfl rfl, fun U hU hW => ⟨rfl, by rw [hU], by rw [hU]; exact hPc, va_K.moved hW.alike hKc, hDc.weaken (fun _ _ _ _ => trivial)⟩⟩ rfl rfl hl.1 rfl (lv_room (Nat.le_of_ble_eq_true rfl)) dX2_read_76 ⟨Nat.le_of_ble_eq_true rfl, Nat.le_of_ble_eq_true rfl⟩) hS (fun q _ h => hFc q h) hFc (fun r11 u12 t H1 locs ht hvm hw12 hB hz1 hk1 hS => ?_)
  obtain ⟨hP1, hK1, hD1⟩ := hB
  rw [ht] at hP1
  have hK1 := va_K.moved hvm.symm hK1
  obtain ⟨hP, hD⟩ := va_join (wr := [(ae2, .inr (1, [.int 0, .ref ae26, .ref ae27, .ref ae28, .ref ae29, .ref ae30, .ref ae31, .int 0, .ref ae32, .ref ae33, .ref ae34, .ref ae35, .ref ae36, .ref ae37, .ref ae38, .ref ae39, .ref ae40, .int 0])), (ae0, .inl (ae10, 3000, .inl (fun _ => 0)))]) (w1 := [(ae6, .inr (2, [.ref ae5, .ref ae46, .ref ae2, .int 0, .int 0, .int 0, .int 0])), (ae5, .inr (3, [.ref ae0, .int 0, .int 0, .int 0, .int 0, .long 0, .long 0]))]) hP hD [0, 3] [1, 2] rfl rfl (by decide) (by decide) hk1 hFc hP1 hD1
  have hK := (hK.sub (tys' := [(ae10, .byte)]) [0] rfl).app hK1
  generalize H1 = H at hP hS ⊢
  have hP : va_P (dC, dI) vwCl [(ae2, .inr (1, [.int 0, .ref ae26, .ref ae27, .ref ae28, .ref ae29, .ref ae30, .ref ae31, .int 0, .ref ae32, .ref ae33, .ref ae34, .ref ae35, .ref ae36, .ref ae37, .ref ae38, .ref ae39, .ref ae40, .int 0])), (ae0, .inl (ae10, 3000, .inl (fun _ => 0))), (ae6, .inr (2, [.ref ae5, .ref ae46, .ref ae2, .int 0, .int 0, .int 0, .int 0])), (ae5, .inr (3, [.ref ae0, .int 0, .int 0, .int 0, .int 0, .long 0, .long 0]))] H := hP
  have hD : va_D A [(ae2, .inr (1, [.int 0, .ref ae26, .ref ae27, .ref ae28, .ref ae29, .ref ae30, .ref ae31, .int 0, .ref ae32, .ref ae33, .ref ae34, .ref ae35, .ref ae36, .ref ae37, .ref ae38, .ref ae39, .ref ae40, .int 0])), (ae0, .inl (ae10, 3000, .inl (fun _ => 0))), (ae6, .inr (2, [.ref ae5, .ref ae46, .ref ae2, .int 0, .int 0, .int 0, .int 0])), (ae5, .inr (3, [.ref ae0, .int 0, .int 0, .int 0, .int 0, .long 0, .long 0]))] := hD
  have hK : va_K (dC, dI) vwCl [(ae10, .byte)] s := hK
  obtain rfl : r11 = 1 := hw12
  refine lv_istore_n (lv' := [(3, .int 1), (4, .int 0), (0, .ref ae6), (1, .ref ae2), (2, .int 0)]) hx hb dX2_read_79 rfl hl (by decide) rfl (fun ls hl => ?_)
  refine lv_aload_n hx hb dX2_read_80 rfl (lv_at hl 2 rfl) ?_
  refine va_get (D := (dC, dI)) (ci := 2) (v := .int 0) (C := RX2) (T := TX2) (N := 7) hx hb hg inG_X2 hown hK hP 2 rfl rfl 3 (by decide) (hg (.fieldLink RX2 11 "AttributeDesk$GrammarReader" "state" "I") gw_2_2) (fun _ h9 => h9) rfl dX2_read_81 ?_
  refine lv_bipush (v := 14) hx hb dX2_read_84 (by decide) ?_
  refine lv_icmp_ne (tgt := 105) hx hb dX2_read_86 (by decide) (fun _ => ?_) (fun c13 => absurd c13 (by decide))
  refine lv_iinc (v := 1) (lv' := [(4, .int 1), (3, .int 1), (0, .ref ae6), (1, .ref ae2), (2, .int 0)]) hx hb dX2_read_105 hl (k := 1) rfl (by decide) (by decide) rfl (fun ls hl => ?_)
  refine lv_goto (tgt := 30) hx hb dX2_read_108 (by decide) ?_
  refine lv_iload hx hb dX2_read_30 (lv_at hl 0 rfl) ?_
  refine lv_iload_n hx hb dX2_read_32 rfl (lv_at hl 4 rfl) ?_
  refine lv_icmp_gt (tgt := 111) hx hb dX2_read_33 (by decide) (fun _ => ?_) (fun c14 => absurd c14 (by decide))
  refine lv_iload_n hx hb dX2_read_111 rfl (lv_at hl 1 rfl) ?_
  have hP9 := hP.sub (ws' := [(ae2, .inr (1, [.int 0, .ref ae26, .ref ae27, .ref ae28, .ref ae29, .ref ae30, .ref ae31, .int 0, .ref ae32, .ref ae33, .ref ae34, .ref ae35, .ref ae36, .ref ae37, .ref ae38, .ref ae39, .ref ae40, .int 0])), (ae0, .inl (ae10, 3000, .inl (fun _ => 0))), (ae6, .inr (2, [.ref ae5, .ref ae46, .ref ae2, .int 0, .int 0, .int 0, .int 0])), (ae5, .inr (3, [.ref ae0, .int 0, .int 0, .int 0, .int 0, .long 0, .long 0]))]) [0, 1, 2, 3] rfl
  have hD9 := hD.sub (ws' := [(ae2, .inr (1, [.int 0, .ref ae26, .ref ae27, .ref ae28, .ref ae29, .ref ae30, .ref ae31, .int 0, .ref ae32, .ref ae33, .ref ae34, .ref ae35, .ref ae36, .ref ae37, .ref ae38, .ref ae39, .ref ae40, .int 0])), (ae0, .inl (ae10, 3000, .inl (fun _ => 0))), (ae6, .inr (2, [.ref ae5, .ref ae46, .ref ae2, .int 0, .int 0, .int 0, .int 0])), (ae5, .inr (3, [.ref ae0, .int 0, .int 0, .int 0, .int 0, .long 0, .long 0]))]) [0, 1, 2, 3] (by decide) rfl
  have hK9 := hK.sub (tys' := [(ae10, .byte)]) [0] rfl
  refine W.widen (k := 0) (n := 0) (Nat.le_of_ble_eq_true rfl) (Nat.le_of_ble_eq_true rfl) ?_
  exact W.iret (v := 1) hx hb hr (fun t ht hW => ⟨⟨1, (), rfl, rfl, by rw [ht]; exact hP9, va_K.moved hW.alike hK9, hD9⟩, hS.F ht⟩) hS.2.2 dX2_read_112

set_option maxHeartbeats 4000000 in
set_option maxRecDepth 100000 in
theorem c_X8_keepFault (l : Launch) (dC : Nat → ClassId) (dI : Nat → Nat → Nat) (ah0 ae5 ae0 ae1 ae2 ae3 ae4 ae6 ae7 ae8 ae9 : Nat) (sz : Nat) : Met l yX8_keepFault wyX8_keepFault ({ frames := 0, cells := 0, slots := 0, locals := 0 }) (va_Pc [.ref ah0, .int 1] (fun U => U.heap.size = sz ∧ va_P (dC, dI) vwCl [(ah0, .inr (8, [.ref ae0, .int 0, .ref ae1, .ref ae2, .ref ae3, .ref ae4, .ref ae5, .ref ae6, .ref ae7, .ref ae8, .ref ae9, .int (-1), .int (-1)])), (ae5, .inr (3, [.ref ae0, .int 0, .int 0, .int 0, .int 0, .long 0, .long 0]))] U.heap ∧ va_K (dC, dI) vwCl [] U ∧ va_D (fun _ => True) [(ah0, .inr (8, [.ref ae0, .int 0, .ref ae1, .ref ae2, .ref ae3, .ref ae4, .ref ae5, .ref ae6, .ref ae7, .ref ae8, .ref ae9, .int (-1), .int (-1)])), (ae5, .inr (3, [.ref ae0, .int 0, .int 0, .int 0, .int 0, .long 0, .long 0]))])) (va_Qv (fun _ : Unit => True) (fun _ t => va_P (dC, dI) vwCl [(ah0, .inr (8, [.ref ae0, .int 0, .ref ae1, .ref ae2, .ref ae3, .ref ae4, .ref ae5, .ref ae6, .ref ae7, .ref ae8, .ref ae9, .int 1, .int 0])), (ae5, .inr (3, [.ref ae0, .int 0, .int 0, .int 0, .int 0, .long 0, .long 0]))] t.heap ∧ va_K (dC, dI) vwCl [] t ∧ va_D (va_A [(ah0, .inr (8, [.ref ae0, .int 0, .ref ae1, .ref ae2, .ref ae3, .ref ae4, .ref ae5, .ref ae6, .ref ae7, .ref ae8, .ref ae9, .int (-1), .int (-1)])), (ae5, .inr (3, [.ref ae0, .int 0, .int 0, .int 0, .int 0, .long 0, .long 0]))] sz) [(ah0, .inr (8, [.ref ae0, .int 0, .ref ae1, .ref ae2, .ref ae3, .ref ae4, .ref ae5, .ref ae6, .ref ae7, .ref ae8, .ref ae9, .int 1, .int 0])), (ae5, .inr (3, [.ref ae0, .int 0, .int 0, .int 0, .int 0, .long 0, .long 0]))]) (va_A [(ah0, .inr (8, [.ref ae0, .int 0, .ref ae1, .ref ae2, .ref ae3, .ref ae4, .ref ae5, .ref ae6, .ref ae7, .ref ae8, .ref ae9, .int (-1), .int (-1)])), (ae5, .inr (3, [.ref ae0, .int 0, .int 0, .int 0, .int 0, .long 0, .long 0]))] sz)) 0 0 (va_A [(ah0, .inr (8, [.ref ae0, .int 0, .ref ae1, .ref ae2, .ref ae3, .ref ae4, .ref ae5, .ref ae6, .ref ae7, .ref ae8, .ref ae9, .int (-1), .int (-1)])), (ae5, .inr (3, [.ref ae0, .int 0, .int 0, .int 0, .int 0, .long 0, .long 0]))] sz) := by
  refine Met.ofW (cc := cX8_keepFault) (maxL := 2) (ret := none) (by decide) rfl ?_
  intro p e s m args below meth c s₁ B hml hv
  obtain ⟨rfl, hsz, hP, hK, hD0⟩ := hv
  have hx := B.exec
  have hb := B.bytes
  have hr := B.returns
  have hts := atoms_spec (ws := wyX8_keepFault) B.pre
  have hg : ∀ w ∈ lw_G, w.before _ s = true := fun w h => hts w (List.mem_cons_of_mem _ h)
  have hown : s.vm.findClass RX8 = some m.cls := findClass_of_methodNamed B.named
  have hlocks := B.notSynchronized
  subst hsz
  have hD := hD0.self (sz := s.heap.size)
  generalize hAe : va_A [(ah0, .inr (8, [.ref ae0, .int 0, .ref ae1, .ref ae2, .ref ae3, .ref ae4, .ref ae5, .ref ae6, .ref ae7, .ref ae8, .ref ae9, .int (-1), .int (-1)])), (ae5, .inr (3, [.ref ae0, .int 0, .int 0, .int 0, .int 0, .long 0, .long 0]))] s.heap.size = A at hD ⊢
  have hA : ∀ q : Nat, s.heap.size ≤ q → A q := fun q h => by rw [← hAe]; exact Or.inr h
  have hS : va_S A s.heap s.heap [] := va_S.rf
  have hP : va_P (dC, dI) vwCl [(ah0, .inr (8, [.ref ae0, .int 0, .ref ae1, .ref ae2, .ref ae3, .ref ae4, .ref ae5, .ref ae6, .ref ae7, .ref ae8, .ref ae9, .int (-1), .int (-1)])), (ae5, .inr (3, [.ref ae0, .int 0, .int 0, .int 0, .int 0, .long 0, .long 0]))] s.heap := hP
  have hl := lv_entry ([.ref ah0, .int 1]) (n := 2) (Nat.le_of_ble_eq_true rfl)
  rw [lg_entry_eq]
  generalize (lg_sl ([.ref ah0, .int 1]) ++ List.replicate (2 - (lg_sl ([.ref ah0, .int 1])).length) Slot.unset).toArray = ls at hl ⊢
  have hl : lv_has ls 2 [(0, .ref ah0), (1, .int 1)] := hl
  refine lv_aload_n hx hb dX8_keepFault_0 rfl (lv_at hl 0 rfl) ?_
  refine lv_iload_n hx hb dX8_keepFault_1 rfl (lv_at hl 1 rfl) ?_
  refine va_put (D := (dC, dI)) (ci := 8) (v := .int 1) (ty := .int) (C := RX8) (T := TX8) (N := 13) hx hb hg inG_X8 tyX8 tyX8_ok nmX8 hown hK hP hD hS 0 rfl rfl 11 (by decide) (hg (.fieldLink RX8 82 "AttributeDesk" "latestFault" "I") gw_2_171) (fun _ h9 => h9) rfl (by decide +kernel) rfl rfl (Nat.le_of_ble_eq_true rfl) dX8_keepFault_2 (fun H locs hP hD hS => ?_)
  have hP : va_P (dC, dI) vwCl [(ah0, .inr (8, [.ref ae0, .int 0, .ref ae1, .ref ae2, .ref ae3, .ref ae4, .ref ae5, .ref ae6, .ref ae7, .ref ae8, .ref ae9, .int 1, .int (-1)])), (ae5, .inr (3, [.ref ae0, .int 0, .int 0, .int 0, .int 0, .long 0, .long 0]))] H := hP
  have hD : va_D A [(ah0, .inr (8, [.ref ae0, .int 0, .ref ae1, .ref ae2, .ref ae3, .ref ae4, .ref ae5, .ref ae6, .ref ae7, .ref ae8, .ref ae9, .int 1, .int (-1)])), (ae5, .inr (3, [.ref ae0, .int 0, .int 0, .int 0, .int 0, .long 0, .long 0]))] := hD
  refine lv_aload_n hx hb dX8_keepFault_5 rfl (lv_at hl 0 rfl) ?_
  refine lv_iload_n hx hb dX8_keepFault_6 rfl (lv_at hl 1 rfl) ?_
  refine lv_if_ne (tgt := 14) hx hb dX8_keepFault_7 (by decide) (fun _ => ?_) (fun c1 => absurd c1 (by decide))
  refine lv_aload_n hx hb dX8_keepFault_14 rfl (lv_at hl 0 rfl) ?_
  refine va_get (D := (dC, dI)) (ci := 8) (v := .ref ae5) (C := RX8) (T := TX8) (N := 13) hx hb hg inG_X8 hown hK hP 0 rfl rfl 6 (by decide) (hg (.fieldLink RX8 42 "AttributeDesk" "tokens" "LAttributeDesk$Tokens;") gw_2_166) (fun _ h9 => h9) rfl dX8_keepFault_15 ?_
  refine va_get (D := (dC, dI)) (ci := 3) (v := .int 0) (C := RX3) (T := TX3) (N := 7) hx hb hg inG_X3 hown hK hP 1 rfl rfl 4 (by decide) (hg (.fieldLink RX8 209 "AttributeDesk$Tokens" "at" "I") gw_1_168) (fun _ h9 => h9) rfl dX8_keepFault_18 ?_
  refine va_put (D := (dC, dI)) (ci := 8) (v := .int 0) (ty := .int) (C := RX8) (T := TX8) (N := 13) hx hb hg inG_X8 tyX8 tyX8_ok nmX8 hown hK hP hD hS 0 rfl rfl 12 (by decide) (hg (.fieldLink RX8 85 "AttributeDesk" "latestPlace" "I") gw_2_172) (fun _ h9 => h9) rfl (by decide +kernel) rfl rfl (Nat.le_of_ble_eq_true rfl) dX8_keepFault_21 (fun H locs hP hD hS => ?_)
  have hP : va_P (dC, dI) vwCl [(ah0, .inr (8, [.ref ae0, .int 0, .ref ae1, .ref ae2, .ref ae3, .ref ae4, .ref ae5, .ref ae6, .ref ae7, .ref ae8, .ref ae9, .int 1, .int 0])), (ae5, .inr (3, [.ref ae0, .int 0, .int 0, .int 0, .int 0, .long 0, .long 0]))] H := hP
  have hD : va_D A [(ah0, .inr (8, [.ref ae0, .int 0, .ref ae1, .ref ae2, .ref ae3, .ref ae4, .ref ae5, .ref ae6, .ref ae7, .ref ae8, .ref ae9, .int 1, .int 0])), (ae5, .inr (3, [.ref ae0, .int 0, .int 0, .int 0, .int 0, .long 0, .long 0]))] := hD
  have hP9 := hP.sub (ws' := [(ah0, .inr (8, [.ref ae0, .int 0, .ref ae1, .ref ae2, .ref ae3, .ref ae4, .ref ae5, .ref ae6, .ref ae7, .ref ae8, .ref ae9, .int 1, .int 0])), (ae5, .inr (3, [.ref ae0, .int 0, .int 0, .int 0, .int 0, .long 0, .long 0]))]) [0, 1] rfl
  have hD9 := hD.sub (ws' := [(ah0, .inr (8, [.ref ae0, .int 0, .ref ae1, .ref ae2, .ref ae3, .ref ae4, .ref ae5, .ref ae6, .ref ae7, .ref ae8, .ref ae9, .int 1, .int 0])), (ae5, .inr (3, [.ref ae0, .int 0, .int 0, .int 0, .int 0, .long 0, .long 0]))]) [0, 1] (by decide) rfl
  have hK9 := hK.sub (tys' := []) [] rfl
  refine W.widen (k := 0) (n := 0) (Nat.le_of_ble_eq_true rfl) (Nat.le_of_ble_eq_true rfl) ?_
  exact W.vret hx hb hr (fun t ht hW => ⟨⟨(), rfl, trivial, by rw [ht]; exact hP9, va_K.moved hW.alike hK9, hD9⟩, hS.F ht⟩) hS.2.2 dX8_keepFault_24

set_option maxHeartbeats 4000000 in
set_option maxRecDepth 100000 in
theorem c_X8_grammar (l : Launch) (dC : Nat → ClassId) (dI : Nat → Nat → Nat) (ah0 ae2 ae5 ae6 ae0 ae1 ae3 ae4 ae7 ae8 ae9 ae26 ae27 ae28 ae29 ae30 ae31 ae32 ae33 ae34 ae35 ae36 ae37 ae38 ae39 ae40 ae46 : Nat) (ae10 : ClassId) (sz : Nat) : Met l yX8_grammar wyX8_grammar ({ frames := 4, cells := 0, slots := 0, locals := 86 }) (va_Pc [.ref ah0] (fun U => U.heap.size = sz ∧ va_P (dC, dI) vwCl [(ah0, .inr (8, [.ref ae0, .int 0, .ref ae1, .ref ae2, .ref ae3, .ref ae4, .ref ae5, .ref ae6, .ref ae7, .ref ae8, .ref ae9, .int (-1), .int (-1)])), (ae2, .inr (1, [.int 0, .ref ae26, .ref ae27, .ref ae28, .ref ae29, .ref ae30, .ref ae31, .int 0, .ref ae32, .ref ae33, .ref ae34, .ref ae35, .ref ae36, .ref ae37, .ref ae38, .ref ae39, .ref ae40, .int 0])), (ae5, .inr (3, [.ref ae0, .int 0, .int 0, .int (-1), .int 0, .long 0, .long 0])), (ae6, .inr (2, [.ref ae5, .ref ae46, .ref ae2, .int 0, .int 0, .int 0, .int 0])), (ae0, .inl (ae10, 3000, .inl (fun _ => 0)))] U.heap ∧ va_K (dC, dI) vwCl [(ae10, .byte)] U ∧ va_D (fun _ => True) [(ah0, .inr (8, [.ref ae0, .int 0, .ref ae1, .ref ae2, .ref ae3, .ref ae4, .ref ae5, .ref ae6, .ref ae7, .ref ae8, .ref ae9, .int (-1), .int (-1)])), (ae2, .inr (1, [.int 0, .ref ae26, .ref ae27, .ref ae28, .ref ae29, .ref ae30, .ref ae31, .int 0, .ref ae32, .ref ae33, .ref ae34, .ref ae35, .ref ae36, .ref ae37, .ref ae38, .ref ae39, .ref ae40, .int 0])), (ae5, .inr (3, [.ref ae0, .int 0, .int 0, .int (-1), .int 0, .long 0, .long 0])), (ae6, .inr (2, [.ref ae5, .ref ae46, .ref ae2, .int 0, .int 0, .int 0, .int 0])), (ae0, .inl (ae10, 3000, .inl (fun _ => 0)))])) (va_Qi (fun (r : Int32) (_ : Unit) => r = (-1)) (fun _ t => va_P (dC, dI) vwCl [(ae2, .inr (1, [.int 0, .ref ae26, .ref ae27, .ref ae28, .ref ae29, .ref ae30, .ref ae31, .int 0, .ref ae32, .ref ae33, .ref ae34, .ref ae35, .ref ae36, .ref ae37, .ref ae38, .ref ae39, .ref ae40, .int 0])), (ae0, .inl (ae10, 3000, .inl (fun _ => 0))), (ae6, .inr (2, [.ref ae5, .ref ae46, .ref ae2, .int 0, .int 0, .int 0, .int 0])), (ah0, .inr (8, [.ref ae0, .int 0, .ref ae1, .ref ae2, .ref ae3, .ref ae4, .ref ae5, .ref ae6, .ref ae7, .ref ae8, .ref ae9, .int 1, .int 0])), (ae5, .inr (3, [.ref ae0, .int 0, .int 0, .int 0, .int 0, .long 0, .long 0]))] t.heap ∧ va_K (dC, dI) vwCl [(ae10, .byte)] t ∧ va_D (va_A [(ah0, .inr (8, [.ref ae0, .int 0, .ref ae1, .ref ae2, .ref ae3, .ref ae4, .ref ae5, .ref ae6, .ref ae7, .ref ae8, .ref ae9, .int (-1), .int (-1)])), (ae2, .inr (1, [.int 0, .ref ae26, .ref ae27, .ref ae28, .ref ae29, .ref ae30, .ref ae31, .int 0, .ref ae32, .ref ae33, .ref ae34, .ref ae35, .ref ae36, .ref ae37, .ref ae38, .ref ae39, .ref ae40, .int 0])), (ae5, .inr (3, [.ref ae0, .int 0, .int 0, .int (-1), .int 0, .long 0, .long 0])), (ae6, .inr (2, [.ref ae5, .ref ae46, .ref ae2, .int 0, .int 0, .int 0, .int 0])), (ae0, .inl (ae10, 3000, .inl (fun _ => 0)))] sz) [(ae2, .inr (1, [.int 0, .ref ae26, .ref ae27, .ref ae28, .ref ae29, .ref ae30, .ref ae31, .int 0, .ref ae32, .ref ae33, .ref ae34, .ref ae35, .ref ae36, .ref ae37, .ref ae38, .ref ae39, .ref ae40, .int 0])), (ae0, .inl (ae10, 3000, .inl (fun _ => 0))), (ae6, .inr (2, [.ref ae5, .ref ae46, .ref ae2, .int 0, .int 0, .int 0, .int 0])), (ah0, .inr (8, [.ref ae0, .int 0, .ref ae1, .ref ae2, .ref ae3, .ref ae4, .ref ae5, .ref ae6, .ref ae7, .ref ae8, .ref ae9, .int 1, .int 0])), (ae5, .inr (3, [.ref ae0, .int 0, .int 0, .int 0, .int 0, .long 0, .long 0]))]) (va_A [(ah0, .inr (8, [.ref ae0, .int 0, .ref ae1, .ref ae2, .ref ae3, .ref ae4, .ref ae5, .ref ae6, .ref ae7, .ref ae8, .ref ae9, .int (-1), .int (-1)])), (ae2, .inr (1, [.int 0, .ref ae26, .ref ae27, .ref ae28, .ref ae29, .ref ae30, .ref ae31, .int 0, .ref ae32, .ref ae33, .ref ae34, .ref ae35, .ref ae36, .ref ae37, .ref ae38, .ref ae39, .ref ae40, .int 0])), (ae5, .inr (3, [.ref ae0, .int 0, .int 0, .int (-1), .int 0, .long 0, .long 0])), (ae6, .inr (2, [.ref ae5, .ref ae46, .ref ae2, .int 0, .int 0, .int 0, .int 0])), (ae0, .inl (ae10, 3000, .inl (fun _ => 0)))] sz)) 0 0 (va_A [(ah0, .inr (8, [.ref ae0, .int 0, .ref ae1, .ref ae2, .ref ae3, .ref ae4, .ref ae5, .ref ae6, .ref ae7, .ref ae8, .ref ae9, .int (-1), .int (-1)])), (ae2, .inr (1, [.int 0, .ref ae26, .ref ae27, .ref ae28, .ref ae29, .ref ae30, .ref ae31, .int 0, .ref ae32, .ref ae33, .ref ae34, .ref ae35, .ref ae36, .ref ae37, .ref ae38, .ref ae39, .ref ae40, .int 0])), (ae5, .inr (3, [.ref ae0, .int 0, .int 0, .int (-1), .int 0, .long 0, .long 0])), (ae6, .inr (2, [.ref ae5, .ref ae46, .ref ae2, .int 0, .int 0, .int 0, .int 0])), (ae0, .inl (ae10, 3000, .inl (fun _ => 0)))] sz) := by
  refine Met.ofW (cc := cX8_grammar) (maxL := 3) (ret := (some .int)) (by decide) rfl ?_
  intro p e s m args below meth c s₁ B hml hv
  obtain ⟨rfl, hsz, hP, hK, hD0⟩ := hv
  have hx := B.exec
  have hb := B.bytes
  have hr := B.returns
  have hts := atoms_spec (ws := wyX8_grammar) B.pre
  have hg : ∀ w ∈ lw_G, w.before _ s = true := fun w h => hts w (List.mem_cons_of_mem _ h)
  have hown : s.vm.findClass RX8 = some m.cls := findClass_of_methodNamed B.named
  have hlocks := B.notSynchronized
  subst hsz
  have hD := hD0.self (sz := s.heap.size)
  generalize hAe : va_A [(ah0, .inr (8, [.ref ae0, .int 0, .ref ae1, .ref ae2, .ref ae3, .ref ae4, .ref ae5, .ref ae6, .ref ae7, .ref ae8, .ref ae9, .int (-1), .int (-1)])), (ae2, .inr (1, [.int 0, .ref ae26, .ref ae27, .ref ae28, .ref ae29, .ref ae30, .ref ae31, .int 0, .ref ae32, .ref ae33, .ref ae34, .ref ae35, .ref ae36, .ref ae37, .ref ae38, .ref ae39, .ref ae40, .int 0])), (ae5, .inr (3, [.ref ae0, .int 0, .int 0, .int (-1), .int 0, .long 0, .long 0])), (ae6, .inr (2, [.ref ae5, .ref ae46, .ref ae2, .int 0, .int 0, .int 0, .int 0])), (ae0, .inl (ae10, 3000, .inl (fun _ => 0)))] s.heap.size = A at hD ⊢
  have hA : ∀ q : Nat, s.heap.size ≤ q → A q := fun q h => by rw [← hAe]; exact Or.inr h
  have hS : va_S A s.heap s.heap [] := va_S.rf
  have hP : va_P (dC, dI) vwCl [(ah0, .inr (8, [.ref ae0, .int 0, .ref ae1, .ref ae2, .ref ae3, .ref ae4, .ref ae5, .ref ae6, .ref ae7, .ref ae8, .ref ae9, .int (-1), .int (-1)])), (ae2, .inr (1, [.int 0, .ref ae26, .ref ae27, .ref ae28, .ref ae29, .ref ae30, .ref ae31, .int 0, .ref ae32, .ref ae33, .ref ae34, .ref ae35, .ref ae36, .ref ae37, .ref ae38, .ref ae39, .ref ae40, .int 0])), (ae5, .inr (3, [.ref ae0, .int 0, .int 0, .int (-1), .int 0, .long 0, .long 0])), (ae6, .inr (2, [.ref ae5, .ref ae46, .ref ae2, .int 0, .int 0, .int 0, .int 0])), (ae0, .inl (ae10, 3000, .inl (fun _ => 0)))] s.heap := hP
  have hl := lv_entry ([.ref ah0]) (n := 3) (Nat.le_of_ble_eq_true rfl)
  rw [lg_entry_eq]
  generalize (lg_sl ([.ref ah0]) ++ List.replicate (3 - (lg_sl ([.ref ah0])).length) Slot.unset).toArray = ls at hl ⊢
  have hl : lv_has ls 3 [(0, .ref ah0)] := hl
  refine lv_aload_n hx hb dX8_grammar_0 rfl (lv_at hl 0 rfl) ?_
  refine va_get (D := (dC, dI)) (ci := 8) (v := .ref ae6) (C := RX8) (T := TX8) (N := 13) hx hb hg inG_X8 hown hK hP 0 rfl rfl 7 (by decide) (hg (.fieldLink RX8 51 "AttributeDesk" "grammarReader" "LAttributeDesk$GrammarReader;") gw_2_167) (fun _ h9 => h9) rfl dX8_grammar_1 ?_
  refine lv_aload_n hx hb dX8_grammar_4 rfl (lv_at hl 0 rfl) ?_
  refine va_get (D := (dC, dI)) (ci := 8) (v := .ref ae2) (C := RX8) (T := TX8) (N := 13) hx hb hg inG_X8 hown hK hP 0 rfl rfl 3 (by decide) (hg (.fieldLink RX8 24 "AttributeDesk" "spareGrammar" "LAttributeDesk$Grammar;") gw_2_163) (fun _ h9 => h9) rfl dX8_grammar_5 ?_
  refine lv_aload_n hx hb dX8_grammar_8 rfl (lv_at hl 0 rfl) ?_
  refine va_get (D := (dC, dI)) (ci := 8) (v := .int 0) (C := RX8) (T := TX8) (N := 13) hx hb hg inG_X8 hown hK hP 0 rfl rfl 1 (by decide) (hg (.fieldLink RX8 13 "AttributeDesk" "tapeSize" "I") gw_2_161) (fun _ h9 => h9) rfl dX8_grammar_9 ?_
  have hPc := hP.sub (ws' := [(ae6, .inr (2, [.ref ae5, .ref ae46, .ref ae2, .int 0, .int 0, .int 0, .int 0])), (ae2, .inr (1, [.int 0, .ref ae26, .ref ae27, .ref ae28, .ref ae29, .ref ae30, .ref ae31, .int 0, .ref ae32, .ref ae33, .ref ae34, .ref ae35, .ref ae36, .ref ae37, .ref ae38, .ref ae39, .ref ae40, .int 0])), (ae5, .inr (3, [.ref ae0, .int 0, .int 0, .int (-1), .int 0, .long 0, .long 0])), (ae0, .inl (ae10, 3000, .inl (fun _ => 0)))]) [3, 1, 2, 4] rfl
  have hDc := hD.sub (ws' := [(ae6, .inr (2, [.ref ae5, .ref ae46, .ref ae2, .int 0, .int 0, .int 0, .int 0])), (ae2, .inr (1, [.int 0, .ref ae26, .ref ae27, .ref ae28, .ref ae29, .ref ae30, .ref ae31, .int 0, .ref ae32, .ref ae33, .ref ae34, .ref ae35, .ref ae36, .ref ae37, .ref ae38, .ref ae39, .ref ae40, .int 0])), (ae5, .inr (3, [.ref ae0, .int 0, .int 0, .int (-1), .int 0, .long 0, .long 0])), (ae0, .inl (ae10, 3000, .inl (fun _ => 0)))]) [3, 1, 2, 4] (by decide) rfl
  have hKc := hK.sub (tys' := [(ae10, .byte)]) [0] rfl
  have hFc := va_free (wc := [(ae6, .inr (2, [.ref ae5, .ref ae46, .ref ae2, .int 0, .int 0, .int 0, .int 0])), (ae2, .inr (1, [.int 0, .ref ae26, .ref ae27, .ref ae28, .ref ae29, .ref ae30, .ref ae31, .int 0, .ref ae32, .ref ae33, .ref ae34, .ref ae35, .ref ae36, .ref ae37, .ref ae38, .ref ae39, .ref ae40, .int 0])), (ae5, .inr (3, [.ref ae0, .int 0, .int 0, .int (-1), .int 0, .long 0, .long 0])), (ae0, .inl (ae10, 3000, .inl (fun _ => 0)))]) hD hS hA [3, 1, 2, 4] rfl
  refine va_calli (va_runV (As := [.ref ae2, .int 0]) (rest := []) ⟨hx, hb, hml, hown, hg⟩ (c_X2_read l dC dI ae6 ae2 ae5 ae0 ae46 ae26 ae27 ae28 ae29 ae30 ae31 ae32 ae33 ae34 ae35 ae36 ae37 ae38 ae39 ae40 ae10 s.heap.size) (cwV 2 hg gc_X8_92 rfl rfl rfl (by decide +kernel) ⟨Nat.le_of_ble_eq_true rfl, Nat.le_of_ble_eq_true rfl⟩) ⟨fun a U g mk q => by obtain ⟨q0, q1, qP, qK, qD⟩ := q; exact ⟨q0, q1, qP, va_K.moved (u := U) (U := U.calling g mk a) (Vm.Alike.refl U.vm) qK, qD⟩, va_recv hKc hPc (ci := 2) (q0 := 0) rfl rfl, fun U hU hW => ⟨rfl, by rw [hU], by rw [hU]; exact hPc, va_K.moved hW.alike hKc, hDc.weaken (fun _ _ _ _ => trivial)⟩⟩ rfl rfl hl.1 rfl (lv_room (Nat.le_of_ble_eq_true rfl)) dX8_grammar_12 ⟨Nat.le_of_ble_eq_true rfl, Nat.le_of_ble_eq_true rfl⟩) hS (fun q _ h => hFc q h) hFc (fun r1 u2 t H1 locs ht hvm hw2 hB hz1 hk1 hS => ?_)
  obtain ⟨hP1, hK1, hD1⟩ := hB
  rw [ht] at hP1
  have hK1 := va_K.moved hvm.symm hK1
  obtain ⟨hP, hD⟩ := va_join (wr := [(ah0, .inr (8, [.ref ae0, .int 0, .ref ae1, .ref ae2, .ref ae3, .ref ae4, .ref ae5, .ref ae6, .ref ae7, .ref ae8, .ref ae9, .int (-1), .int (-1)]))]) (w1 := [(ae2, .inr (1, [.int 0, .ref ae26, .ref ae27, .ref ae28, .ref ae29, .ref ae30, .ref ae31, .int 0, .ref ae32, .ref ae33, .ref ae34, .ref ae35, .ref ae36, .ref ae37, .ref ae38, .ref ae39, .ref ae40, .int 0])), (ae0, .inl (ae10, 3000, .inl (fun _ => 0))), (ae6, .inr (2, [.ref ae5, .ref ae46, .ref ae2, .int 0, .int 0, .int 0, .int 0])), (ae5, .inr (3, [.ref ae0, .int 0, .int 0, .int 0, .int 0, .long 0, .long 0]))]) hP hD [3, 1, 2, 4] [0] rfl rfl (by decide) (by decide) hk1 hFc hP1 hD1
  have hK := (hK.sub (tys' := []) [] rfl).app hK1
  generalize H1 = H at hP hS ⊢
  have hP : va_P (dC, dI) vwCl [(ah0, .inr (8, [.ref ae0, .int 0, .ref ae1, .ref ae2, .ref ae3, .ref ae4, .ref ae5, .ref ae6, .ref ae7, .ref ae8, .ref ae9, .int (-1), .int (-1)])), (ae2, .inr (1, [.int 0, .ref ae26, .ref ae27, .ref ae28, .ref ae29, .ref ae30, .ref ae31, .int 0, .ref ae32, .ref ae33, .ref ae34, .ref ae35, .ref ae36, .ref ae37, .ref ae38, .ref ae39, .ref ae40, .int 0])), (ae0, .inl (ae10, 3000, .inl (fun _ => 0))), (ae6, .inr (2, [.ref ae5, .ref ae46, .ref ae2, .int 0, .int 0, .int 0, .int 0])), (ae5, .inr (3, [.ref ae0, .int 0, .int 0, .int 0, .int 0, .long 0, .long 0]))] H := hP
  have hD : va_D A [(ah0, .inr (8, [.ref ae0, .int 0, .ref ae1, .ref ae2, .ref ae3, .ref ae4, .ref ae5, .ref ae6, .ref ae7, .ref ae8, .ref ae9, .int (-1), .int (-1)])), (ae2, .inr (1, [.int 0, .ref ae26, .ref ae27, .ref ae28, .ref ae29, .ref ae30, .ref ae31, .int 0, .ref ae32, .ref ae33, .ref ae34, .ref ae35, .ref ae36, .ref ae37, .ref ae38, .ref ae39, .ref ae40, .int 0])), (ae0, .inl (ae10, 3000, .inl (fun _ => 0))), (ae6, .inr (2, [.ref ae5, .ref ae46, .ref ae2, .int 0, .int 0, .int 0, .int 0])), (ae5, .inr (3, [.ref ae0, .int 0, .int 0, .int 0, .int 0, .long 0, .long 0]))] := hD
  have hK : va_K (dC, dI) vwCl [(ae10, .byte)] s := hK
  obtain rfl : r1 = 1 := hw2
  refine lv_istore_n (lv' := [(1, .int 1), (0, .ref ah0)]) hx hb dX8_grammar_15 rfl hl (by decide) rfl (fun ls hl => ?_)
  refine lv_aload_n hx hb dX8_grammar_16 rfl (lv_at hl 1 rfl) ?_
  refine lv_iconst (v := 0) hx hb dX8_grammar_17 (by decide) ?_
  refine va_put (D := (dC, dI)) (ci := 8) (v := .int 0) (ty := .int) (C := RX8) (T := TX8) (N := 13) hx hb hg inG_X8 tyX8 tyX8_ok nmX8 hown hK hP hD hS 0 rfl rfl 1 (by decide) (hg (.fieldLink RX8 13 "AttributeDesk" "tapeSize" "I") gw_2_161) (fun _ h9 => h9) rfl (by decide +kernel) rfl rfl (Nat.le_of_ble_eq_true rfl) dX8_grammar_18 (fun H locs hP hD hS => ?_)
  have hP : va_P (dC, dI) vwCl [(ah0, .inr (8, [.ref ae0, .int 0, .ref ae1, .ref ae2, .ref ae3, .ref ae4, .ref ae5, .ref ae6, .ref ae7, .ref ae8, .ref ae9, .int (-1), .int (-1)])), (ae2, .inr (1, [.int 0, .ref ae26, .ref ae27, .ref ae28, .ref ae29, .ref ae30, .ref ae31, .int 0, .ref ae32, .ref ae33, .ref ae34, .ref ae35, .ref ae36, .ref ae37, .ref ae38, .ref ae39, .ref ae40, .int 0])), (ae0, .inl (ae10, 3000, .inl (fun _ => 0))), (ae6, .inr (2, [.ref ae5, .ref ae46, .ref ae2, .int 0, .int 0, .int 0, .int 0])), (ae5, .inr (3, [.ref ae0, .int 0, .int 0, .int 0, .int 0, .long 0, .long 0]))] H := hP
  have hD : va_D A [(ah0, .inr (8, [.ref ae0, .int 0, .ref ae1, .ref ae2, .ref ae3, .ref ae4, .ref ae5, .ref ae6, .ref ae7, .ref ae8, .ref ae9, .int (-1), .int (-1)])), (ae2, .inr (1, [.int 0, .ref ae26, .ref ae27, .ref ae28, .ref ae29, .ref ae30, .ref ae31, .int 0, .ref ae32, .ref ae33, .ref ae34, .ref ae35, .ref ae36, .ref ae37, .ref ae38, .ref ae39, .ref ae40, .int 0])), (ae0, .inl (ae10, 3000, .inl (fun _ => 0))), (ae6, .inr (2, [.ref ae5, .ref ae46, .ref ae2, .int 0, .int 0, .int 0, .int 0])), (ae5, .inr (3, [.ref ae0, .int 0, .int 0, .int 0, .int 0, .long 0, .long 0]))] := hD
  refine lv_aload_n hx hb dX8_grammar_21 rfl (lv_at hl 1 rfl) ?_
  refine lv_iload_n hx hb dX8_grammar_22 rfl (lv_at hl 0 rfl) ?_
  have hPc := hP.sub (ws' := [(ah0, .inr (8, [.ref ae0, .int 0, .ref ae1, .ref ae2, .ref ae3, .ref ae4, .ref ae5, .ref ae6, .ref ae7, .ref ae8, .ref ae9, .int (-1), .int (-1)])), (ae5, .inr (3, [.ref ae0, .int 0, .int 0, .int 0, .int 0, .long 0, .long 0]))]) [0, 4] rfl
  have hDc := hD.sub (ws' := [(ah0, .inr (8, [.ref ae0, .int 0, .ref ae1, .ref ae2, .ref ae3, .ref ae4, .ref ae5, .ref ae6, .ref ae7, .ref ae8, .ref ae9, .int (-1), .int (-1)])), (ae5, .inr (3, [.ref ae0, .int 0, .int 0, .int 0, .int 0, .long 0, .long 0]))]) [0, 4] (by decide) rfl
  have hKc := hK.sub (tys' := []) [] rfl
  have hFc := va_free (wc := [(ah0, .inr (8, [.ref ae0, .int 0, .ref ae1, .ref ae2, .ref ae3, .ref ae4, .ref ae5, .ref ae6, .ref ae7, .ref ae8, .ref ae9, .int (-1), .int (-1)])), (ae5, .inr (3, [.ref ae0, .int 0, .int 0, .int 0, .int 0, .long 0, .long 0]))]) hD hS hA [0, 4] rfl
  refine va_callv (va_runV (As := [.int 1]) (rest := []) ⟨hx, hb, hml, hown, hg⟩ (c_X8_keepFault l dC dI ah0 ae5 ae0 ae1 ae2 ae3 ae4 ae6 ae7 ae8 ae9 H.size) (cwV 1 hg gc_X8_96 rfl rfl rfl (by decide +kernel) ⟨Nat.le_of_ble_eq_true rfl, Nat.le_of_ble_eq_true rfl⟩) ⟨fun a U g mk q => by obtain ⟨q0, q1, qP, qK, qD⟩ := q; exact ⟨q0, q1, qP, va_K.moved (u := U) (U := U.calling g mk a) (Vm.Alike.refl U.vm) qK, qD⟩, va_recv hKc hPc (ci := 8) (q0 := 0) rfl rfl, fun U hU hW => ⟨rfl, by rw [hU], by rw [hU]; exact hPc, va_K.moved hW.alike hKc, hDc.weaken (fun _ _ _ _ => trivial)⟩⟩ rfl rfl hl.1 rfl (lv_room (Nat.le_of_ble_eq_true rfl)) dX8_grammar_23 ⟨Nat.le_of_ble_eq_true rfl, Nat.le_of_ble_eq_true rfl⟩) hS (fun q _ h => hFc q h) hFc (fun u4 t H1 locs ht hvm hw4 hB hz1 hk1 hS => ?_)
  obtain ⟨hP1, hK1, hD1⟩ := hB
  rw [ht] at hP1
  have hK1 := va_K.moved hvm.symm hK1
  obtain ⟨hP, hD⟩ := va_join (wr := [(ae2, .inr (1, [.int 0, .ref ae26, .ref ae27, .ref ae28, .ref ae29, .ref ae30, .ref ae31, .int 0, .ref ae32, .ref ae33, .ref ae34, .ref ae35, .ref ae36, .ref ae37, .ref ae38, .ref ae39, .ref ae40, .int 0])), (ae0, .inl (ae10, 3000, .inl (fun _ => 0))), (ae6, .inr (2, [.ref ae5, .ref ae46, .ref ae2, .int 0, .int 0, .int 0, .int 0]))]) (w1 := [(ah0, .inr (8, [.ref ae0, .int 0, .ref ae1, .ref ae2, .ref ae3, .ref ae4, .ref ae5, .ref ae6, .ref ae7, .ref ae8, .ref ae9, .int 1, .int 0])), (ae5, .inr (3, [.ref ae0, .int 0, .int 0, .int 0, .int 0, .long 0, .long 0]))]) hP hD [0, 4] [1, 2, 3] rfl rfl (by decide) (by decide) hk1 hFc hP1 hD1
  have hK := (hK.sub (tys' := [(ae10, .byte)]) [0] rfl).app hK1
  generalize H1 = H at hP hS ⊢
  have hP : va_P (dC, dI) vwCl [(ae2, .inr (1, [.int 0, .ref ae26, .ref ae27, .ref ae28, .ref ae29, .ref ae30, .ref ae31, .int 0, .ref ae32, .ref ae33, .ref ae34, .ref ae35, .ref ae36, .ref ae37, .ref ae38, .ref ae39, .ref ae40, .int 0])), (ae0, .inl (ae10, 3000, .inl (fun _ => 0))), (ae6, .inr (2, [.ref ae5, .ref ae46, .ref ae2, .int 0, .int 0, .int 0, .int 0])), (ah0, .inr (8, [.ref ae0, .int 0, .ref ae1, .ref ae2, .ref ae3, .ref ae4, .ref ae5, .ref ae6, .ref ae7, .ref ae8, .ref ae9, .int 1, .int 0])), (ae5, .inr (3, [.ref ae0, .int 0, .int 0, .int 0, .int 0, .long 0, .long 0]))] H := hP
  have hD : va_D A [(ae2, .inr (1, [.int 0, .ref ae26, .ref ae27, .ref ae28, .ref ae29, .ref ae30, .ref ae31, .int 0, .ref ae32, .ref ae33, .ref ae34, .ref ae35, .ref ae36, .ref ae37, .ref ae38, .ref ae39, .ref ae40, .int 0])), (ae0, .inl (ae10, 3000, .inl (fun _ => 0))), (ae6, .inr (2, [.ref ae5, .ref ae46, .ref ae2, .int 0, .int 0, .int 0, .int 0])), (ah0, .inr (8, [.ref ae0, .int 0, .ref ae1, .ref ae2, .ref ae3, .ref ae4, .ref ae5, .ref ae6, .ref ae7, .ref ae8, .ref ae9, .int 1, .int 0])), (ae5, .inr (3, [.ref ae0, .int 0, .int 0, .int 0, .int 0, .long 0, .long 0]))] := hD
  have hK : va_K (dC, dI) vwCl [(ae10, .byte)] s := hK
  refine lv_iload_n hx hb dX8_grammar_26 rfl (lv_at hl 0 rfl) ?_
  refine lv_if_eq (tgt := 32) hx hb dX8_grammar_27 (by decide) (fun c5 => absurd c5 (by decide)) (fun _ => ?_)
  refine lv_iconst (v := (-1)) hx hb dX8_grammar_30 (by decide) ?_
  have hP9 := hP.sub (ws' := [(ae2, .inr (1, [.int 0, .ref ae26, .ref ae27, .ref ae28, .ref ae29, .ref ae30, .ref ae31, .int 0, .ref ae32, .ref ae33, .ref ae34, .ref ae35, .ref ae36, .ref ae37, .ref ae38, .ref ae39, .ref ae40, .int 0])), (ae0, .inl (ae10, 3000, .inl (fun _ => 0))), (ae6, .inr (2, [.ref ae5, .ref ae46, .ref ae2, .int 0, .int 0, .int 0, .int 0])), (ah0, .inr (8, [.ref ae0, .int 0, .ref ae1, .ref ae2, .ref ae3, .ref ae4, .ref ae5, .ref ae6, .ref ae7, .ref ae8, .ref ae9, .int 1, .int 0])), (ae5, .inr (3, [.ref ae0, .int 0, .int 0, .int 0, .int 0, .long 0, .long 0]))]) [0, 1, 2, 3, 4] rfl
  have hD9 := hD.sub (ws' := [(ae2, .inr (1, [.int 0, .ref ae26, .ref ae27, .ref ae28, .ref ae29, .ref ae30, .ref ae31, .int 0, .ref ae32, .ref ae33, .ref ae34, .ref ae35, .ref ae36, .ref ae37, .ref ae38, .ref ae39, .ref ae40, .int 0])), (ae0, .inl (ae10, 3000, .inl (fun _ => 0))), (ae6, .inr (2, [.ref ae5, .ref ae46, .ref ae2, .int 0, .int 0, .int 0, .int 0])), (ah0, .inr (8, [.ref ae0, .int 0, .ref ae1, .ref ae2, .ref ae3, .ref ae4, .ref ae5, .ref ae6, .ref ae7, .ref ae8, .ref ae9, .int 1, .int 0])), (ae5, .inr (3, [.ref ae0, .int 0, .int 0, .int 0, .int 0, .long 0, .long 0]))]) [0, 1, 2, 3, 4] (by decide) rfl
  have hK9 := hK.sub (tys' := [(ae10, .byte)]) [0] rfl
  refine W.widen (k := 0) (n := 0) (Nat.le_of_ble_eq_true rfl) (Nat.le_of_ble_eq_true rfl) ?_
  exact W.iret (v := (-1)) hx hb hr (fun t ht hW => ⟨⟨(-1), (), rfl, rfl, by rw [ht]; exact hP9, va_K.moved hW.alike hK9, hD9⟩, hS.F ht⟩) hS.2.2 dX8_grammar_31

set_option maxHeartbeats 4000000 in
set_option maxRecDepth 100000 in
theorem c_X8_tree (l : Launch) (dC : Nat → ClassId) (dI : Nat → Nat → Nat) (ah0 ae1 ae0 ae2 ae3 ae4 ae5 ae6 ae7 ae8 ae9 ae11 ae12 ae13 ae14 ae15 ae16 ae17 ae18 ae19 ae20 ae21 ae22 ae23 ae24 ae25 : Nat) (sz : Nat) : Met l yX8_tree wyX8_tree ({ frames := 0, cells := 0, slots := 0, locals := 0 }) (va_Pc [.ref ah0] (fun U => U.heap.size = sz ∧ va_P (dC, dI) vwCl [(ah0, .inr (8, [.ref ae0, .int 0, .ref ae1, .ref ae2, .ref ae3, .ref ae4, .ref ae5, .ref ae6, .ref ae7, .ref ae8, .ref ae9, .int (-1), .int (-1)])), (ae1, .inr (1, [.int 0, .ref ae11, .ref ae12, .ref ae13, .ref ae14, .ref ae15, .ref ae16, .int 0, .ref ae17, .ref ae18, .ref ae19, .ref ae20, .ref ae21, .ref ae22, .ref ae23, .ref ae24, .ref ae25, .int 0]))] U.heap ∧ va_K (dC, dI) vwCl [] U ∧ va_D (fun _ => True) [(ah0, .inr (8, [.ref ae0, .int 0, .ref ae1, .ref ae2, .ref ae3, .ref ae4, .ref ae5, .ref ae6, .ref ae7, .ref ae8, .ref ae9, .int (-1), .int (-1)])), (ae1, .inr (1, [.int 0, .ref ae11, .ref ae12, .ref ae13, .ref ae14, .ref ae15, .ref ae16, .int 0, .ref ae17, .ref ae18, .ref ae19, .ref ae20, .ref ae21, .ref ae22, .ref ae23, .ref ae24, .ref ae25, .int 0]))])) (va_Qi (fun (r : Int32) (_ : Unit) => r = (-2)) (fun _ t => va_P (dC, dI) vwCl [(ah0, .inr (8, [.ref ae0, .int 0, .ref ae1, .ref ae2, .ref ae3, .ref ae4, .ref ae5, .ref ae6, .ref ae7, .ref ae8, .ref ae9, .int (-1), .int (-1)])), (ae1, .inr (1, [.int 0, .ref ae11, .ref ae12, .ref ae13, .ref ae14, .ref ae15, .ref ae16, .int 0, .ref ae17, .ref ae18, .ref ae19, .ref ae20, .ref ae21, .ref ae22, .ref ae23, .ref ae24, .ref ae25, .int 0]))] t.heap ∧ va_K (dC, dI) vwCl [] t ∧ va_D (va_A [(ah0, .inr (8, [.ref ae0, .int 0, .ref ae1, .ref ae2, .ref ae3, .ref ae4, .ref ae5, .ref ae6, .ref ae7, .ref ae8, .ref ae9, .int (-1), .int (-1)])), (ae1, .inr (1, [.int 0, .ref ae11, .ref ae12, .ref ae13, .ref ae14, .ref ae15, .ref ae16, .int 0, .ref ae17, .ref ae18, .ref ae19, .ref ae20, .ref ae21, .ref ae22, .ref ae23, .ref ae24, .ref ae25, .int 0]))] sz) [(ah0, .inr (8, [.ref ae0, .int 0, .ref ae1, .ref ae2, .ref ae3, .ref ae4, .ref ae5, .ref ae6, .ref ae7, .ref ae8, .ref ae9, .int (-1), .int (-1)])), (ae1, .inr (1, [.int 0, .ref ae11, .ref ae12, .ref ae13, .ref ae14, .ref ae15, .ref ae16, .int 0, .ref ae17, .ref ae18, .ref ae19, .ref ae20, .ref ae21, .ref ae22, .ref ae23, .ref ae24, .ref ae25, .int 0]))]) (va_A [(ah0, .inr (8, [.ref ae0, .int 0, .ref ae1, .ref ae2, .ref ae3, .ref ae4, .ref ae5, .ref ae6, .ref ae7, .ref ae8, .ref ae9, .int (-1), .int (-1)])), (ae1, .inr (1, [.int 0, .ref ae11, .ref ae12, .ref ae13, .ref ae14, .ref ae15, .ref ae16, .int 0, .ref ae17, .ref ae18, .ref ae19, .ref ae20, .ref ae21, .ref ae22, .ref ae23, .ref ae24, .ref ae25, .int 0]))] sz)) 0 0 (va_A [(ah0, .inr (8, [.ref ae0, .int 0, .ref ae1, .ref ae2, .ref ae3, .ref ae4, .ref ae5, .ref ae6, .ref ae7, .ref ae8, .ref ae9, .int (-1), .int (-1)])), (ae1, .inr (1, [.int 0, .ref ae11, .ref ae12, .ref ae13, .ref ae14, .ref ae15, .ref ae16, .int 0, .ref ae17, .ref ae18, .ref ae19, .ref ae20, .ref ae21, .ref ae22, .ref ae23, .ref ae24, .ref ae25, .int 0]))] sz) := by
  refine Met.ofW (cc := cX8_tree) (maxL := 3) (ret := (some .int)) (by decide) rfl ?_
  intro p e s m args below meth c s₁ B hml hv
  obtain ⟨rfl, hsz, hP, hK, hD0⟩ := hv
  have hx := B.exec
  have hb := B.bytes
  have hr := B.returns
  have hts := atoms_spec (ws := wyX8_tree) B.pre
  have hg : ∀ w ∈ lw_G, w.before _ s = true := fun w h => hts w (List.mem_cons_of_mem _ h)
  have hown : s.vm.findClass RX8 = some m.cls := findClass_of_methodNamed B.named
  have hlocks := B.notSynchronized
  subst hsz
  have hD := hD0.self (sz := s.heap.size)
  generalize hAe : va_A [(ah0, .inr (8, [.ref ae0, .int 0, .ref ae1, .ref ae2, .ref ae3, .ref ae4, .ref ae5, .ref ae6, .ref ae7, .ref ae8, .ref ae9, .int (-1), .int (-1)])), (ae1, .inr (1, [.int 0, .ref ae11, .ref ae12, .ref ae13, .ref ae14, .ref ae15, .ref ae16, .int 0, .ref ae17, .ref ae18, .ref ae19, .ref ae20, .ref ae21, .ref ae22, .ref ae23, .ref ae24, .ref ae25, .int 0]))] s.heap.size = A at hD ⊢
  have hA : ∀ q : Nat, s.heap.size ≤ q → A q := fun q h => by rw [← hAe]; exact Or.inr h
  have hS : va_S A s.heap s.heap [] := va_S.rf
  have hP : va_P (dC, dI) vwCl [(ah0, .inr (8, [.ref ae0, .int 0, .ref ae1, .ref ae2, .ref ae3, .ref ae4, .ref ae5, .ref ae6, .ref ae7, .ref ae8, .ref ae9, .int (-1), .int (-1)])), (ae1, .inr (1, [.int 0, .ref ae11, .ref ae12, .ref ae13, .ref ae14, .ref ae15, .ref ae16, .int 0, .ref ae17, .ref ae18, .ref ae19, .ref ae20, .ref ae21, .ref ae22, .ref ae23, .ref ae24, .ref ae25, .int 0]))] s.heap := hP
  have hl := lv_entry ([.ref ah0]) (n := 3) (Nat.le_of_ble_eq_true rfl)
  rw [lg_entry_eq]
  generalize (lg_sl ([.ref ah0]) ++ List.replicate (3 - (lg_sl ([.ref ah0])).length) Slot.unset).toArray = ls at hl ⊢
  have hl : lv_has ls 3 [(0, .ref ah0)] := hl
  refine lv_aload_n hx hb dX8_tree_0 rfl (lv_at hl 0 rfl) ?_
  refine va_get (D := (dC, dI)) (ci := 8) (v := .ref ae1) (C := RX8) (T := TX8) (N := 13) hx hb hg inG_X8 hown hK hP 0 rfl rfl 2 (by decide) (hg (.fieldLink RX8 20 "AttributeDesk" "known" "LAttributeDesk$Grammar;") gw_2_162) (fun _ h9 => h9) rfl dX8_tree_1 ?_
  refine va_get (D := (dC, dI)) (ci := 1) (v := .int 0) (C := RX1) (T := TX1) (N := 18) hx hb hg inG_X1 hown hK hP 1 rfl rfl 7 (by decide) (hg (.fieldLink RX8 108 "AttributeDesk$Grammar" "ruleCount" "I") gw_1_43) (fun _ h9 => h9) rfl dX8_tree_4 ?_
  refine lv_if_ne (tgt := 13) hx hb dX8_tree_7 (by decide) (fun c1 => absurd c1 (by decide)) (fun _ => ?_)
  refine lv_bipush (v := (-2)) hx hb dX8_tree_10 (by decide) ?_
  have hP9 := hP.sub (ws' := [(ah0, .inr (8, [.ref ae0, .int 0, .ref ae1, .ref ae2, .ref ae3, .ref ae4, .ref ae5, .ref ae6, .ref ae7, .ref ae8, .ref ae9, .int (-1), .int (-1)])), (ae1, .inr (1, [.int 0, .ref ae11, .ref ae12, .ref ae13, .ref ae14, .ref ae15, .ref ae16, .int 0, .ref ae17, .ref ae18, .ref ae19, .ref ae20, .ref ae21, .ref ae22, .ref ae23, .ref ae24, .ref ae25, .int 0]))]) [0, 1] rfl
  have hD9 := hD.sub (ws' := [(ah0, .inr (8, [.ref ae0, .int 0, .ref ae1, .ref ae2, .ref ae3, .ref ae4, .ref ae5, .ref ae6, .ref ae7, .ref ae8, .ref ae9, .int (-1), .int (-1)])), (ae1, .inr (1, [.int 0, .ref ae11, .ref ae12, .ref ae13, .ref ae14, .ref ae15, .ref ae16, .int 0, .ref ae17, .ref ae18, .ref ae19, .ref ae20, .ref ae21, .ref ae22, .ref ae23, .ref ae24, .ref ae25, .int 0]))]) [0, 1] (by decide) rfl
  have hK9 := hK.sub (tys' := []) [] rfl
  refine W.widen (k := 0) (n := 0) (Nat.le_of_ble_eq_true rfl) (Nat.le_of_ble_eq_true rfl) ?_
  exact W.iret (v := (-2)) hx hb hr (fun t ht hW => ⟨⟨(-2), (), rfl, rfl, by rw [ht]; exact hP9, va_K.moved hW.alike hK9, hD9⟩, hS.F ht⟩) hS.2.2 dX8_tree_12

set_option maxHeartbeats 4000000 in
set_option maxRecDepth 100000 in
theorem c_X8_fault (l : Launch) (dC : Nat → ClassId) (dI : Nat → Nat → Nat) (ah0 ae0 ae1 ae2 ae3 ae4 ae5 ae6 ae7 ae8 ae9 : Nat) (sz : Nat) (p0 : Int32) : Met l yX8_fault wyX8_fault ({ frames := 0, cells := 0, slots := 0, locals := 0 }) (va_Pc [.ref ah0, .int p0] (fun U => U.heap.size = sz ∧ va_P (dC, dI) vwCl [(ah0, .inr (8, [.ref ae0, .int 0, .ref ae1, .ref ae2, .ref ae3, .ref ae4, .ref ae5, .ref ae6, .ref ae7, .ref ae8, .ref ae9, .int (-1), .int (-1)]))] U.heap ∧ va_K (dC, dI) vwCl [] U ∧ va_D (fun _ => True) [(ah0, .inr (8, [.ref ae0, .int 0, .ref ae1, .ref ae2, .ref ae3, .ref ae4, .ref ae5, .ref ae6, .ref ae7, .ref ae8, .ref ae9, .int (-1), .int (-1)]))])) (va_Qi (fun (r : Int32) (_ : Unit) => r = (-1)) (fun _ t => va_P (dC, dI) vwCl [(ah0, .inr (8, [.ref ae0, .int 0, .ref ae1, .ref ae2, .ref ae3, .ref ae4, .ref ae5, .ref ae6, .ref ae7, .ref ae8, .ref ae9, .int (-1), .int (-1)]))] t.heap ∧ va_K (dC, dI) vwCl [] t ∧ va_D (va_A [(ah0, .inr (8, [.ref ae0, .int 0, .ref ae1, .ref ae2, .ref ae3, .ref ae4, .ref ae5, .ref ae6, .ref ae7, .ref ae8, .ref ae9, .int (-1), .int (-1)]))] sz) [(ah0, .inr (8, [.ref ae0, .int 0, .ref ae1, .ref ae2, .ref ae3, .ref ae4, .ref ae5, .ref ae6, .ref ae7, .ref ae8, .ref ae9, .int (-1), .int (-1)]))]) (va_A [(ah0, .inr (8, [.ref ae0, .int 0, .ref ae1, .ref ae2, .ref ae3, .ref ae4, .ref ae5, .ref ae6, .ref ae7, .ref ae8, .ref ae9, .int (-1), .int (-1)]))] sz)) 0 0 (va_A [(ah0, .inr (8, [.ref ae0, .int 0, .ref ae1, .ref ae2, .ref ae3, .ref ae4, .ref ae5, .ref ae6, .ref ae7, .ref ae8, .ref ae9, .int (-1), .int (-1)]))] sz) := by
  refine Met.ofW (cc := cX8_fault) (maxL := 2) (ret := (some .int)) (by decide) rfl ?_
  intro p e s m args below meth c s₁ B hml hv
  obtain ⟨rfl, hsz, hP, hK, hD0⟩ := hv
  have hx := B.exec
  have hb := B.bytes
  have hr := B.returns
  have hts := atoms_spec (ws := wyX8_fault) B.pre
  have hg : ∀ w ∈ lw_G, w.before _ s = true := fun w h => hts w (List.mem_cons_of_mem _ h)
  have hown : s.vm.findClass RX8 = some m.cls := findClass_of_methodNamed B.named
  have hlocks := B.notSynchronized
  subst hsz
  have hD := hD0.self (sz := s.heap.size)
  generalize hAe : va_A [(ah0, .inr (8, [.ref ae0, .int 0, .ref ae1, .ref ae2, .ref ae3, .ref ae4, .ref ae5, .ref ae6, .ref ae7, .ref ae8, .ref ae9, .int (-1), .int (-1)]))] s.heap.size = A at hD ⊢
  have hA : ∀ q : Nat, s.heap.size ≤ q → A q := fun q h => by rw [← hAe]; exact Or.inr h
  have hS : va_S A s.heap s.heap [] := va_S.rf
  have hP : va_P (dC, dI) vwCl [(ah0, .inr (8, [.ref ae0, .int 0, .ref ae1, .ref ae2, .ref ae3, .ref ae4, .ref ae5, .ref ae6, .ref ae7, .ref ae8, .ref ae9, .int (-1), .int (-1)]))] s.heap := hP
  have hl := lv_entry ([.ref ah0, .int p0]) (n := 2) (Nat.le_of_ble_eq_true rfl)
  rw [lg_entry_eq]
  generalize (lg_sl ([.ref ah0, .int p0]) ++ List.replicate (2 - (lg_sl ([.ref ah0, .int p0])).length) Slot.unset).toArray = ls at hl ⊢
  have hl : lv_has ls 2 [(0, .ref ah0), (1, .int p0)] := hl
  refine lv_iload_n hx hb dX8_fault_0 rfl (lv_at hl 1 rfl) ?_
  refine lv_if_ne (tgt := 9) hx hb dX8_fault_1 (by decide) (fun c1 => ?_) (fun c1 => ?_)
  · refine lv_iload_n hx hb dX8_fault_9 rfl (lv_at hl 1 rfl) ?_
    refine lv_iconst (v := 1) hx hb dX8_fault_10 (by decide) ?_
    refine lv_icmp_ne (tgt := 21) hx hb dX8_fault_11 (by decide) (fun c2 => ?_) (fun c2 => ?_)
    · refine lv_iconst (v := (-1)) hx hb dX8_fault_21 (by decide) ?_
      have hP9 := hP.sub (ws' := [(ah0, .inr (8, [.ref ae0, .int 0, .ref ae1, .ref ae2, .ref ae3, .ref ae4, .ref ae5, .ref ae6, .ref ae7, .ref ae8, .ref ae9, .int (-1), .int (-1)]))]) [0] rfl
      have hD9 := hD.sub (ws' := [(ah0, .inr (8, [.ref ae0, .int 0, .ref ae1, .ref ae2, .ref ae3, .ref ae4, .ref ae5, .ref ae6, .ref ae7, .ref ae8, .ref ae9, .int (-1), .int (-1)]))]) [0] (by decide) rfl
      have hK9 := hK.sub (tys' := []) [] rfl
      refine W.widen (k := 0) (n := 0) (Nat.le_of_ble_eq_true rfl) (Nat.le_of_ble_eq_true rfl) ?_
      exact W.iret (v := (-1)) hx hb hr (fun t ht hW => ⟨⟨(-1), (), rfl, rfl, by rw [ht]; exact hP9, va_K.moved hW.alike hK9, hD9⟩, hS.F ht⟩) hS.2.2 dX8_fault_22
    · refine lv_aload_n hx hb dX8_fault_14 rfl (lv_at hl 0 rfl) ?_
      refine va_get (D := (dC, dI)) (ci := 8) (v := .int (-1)) (C := RX8) (T := TX8) (N := 13) hx hb hg inG_X8 hown hK hP 0 rfl rfl 12 (by decide) (hg (.fieldLink RX8 85 "AttributeDesk" "latestPlace" "I") gw_2_172) (fun _ h9 => h9) rfl dX8_fault_15 ?_
      refine lv_goto (tgt := 22) hx hb dX8_fault_18 (by decide) ?_
      have hP9 := hP.sub (ws' := [(ah0, .inr (8, [.ref ae0, .int 0, .ref ae1, .ref ae2, .ref ae3, .ref ae4, .ref ae5, .ref ae6, .ref ae7, .ref ae8, .ref ae9, .int (-1), .int (-1)]))]) [0] rfl
      have hD9 := hD.sub (ws' := [(ah0, .inr (8, [.ref ae0, .int 0, .ref ae1, .ref ae2, .ref ae3, .ref ae4, .ref ae5, .ref ae6, .ref ae7, .ref ae8, .ref ae9, .int (-1), .int (-1)]))]) [0] (by decide) rfl
      have hK9 := hK.sub (tys' := []) [] rfl
      refine W.widen (k := 0) (n := 0) (Nat.le_of_ble_eq_true rfl) (Nat.le_of_ble_eq_true rfl) ?_
      exact W.iret (v := (-1)) hx hb hr (fun t ht hW => ⟨⟨(-1), (), rfl, rfl, by rw [ht]; exact hP9, va_K.moved hW.alike hK9, hD9⟩, hS.F ht⟩) hS.2.2 dX8_fault_22
  · refine lv_aload_n hx hb dX8_fault_4 rfl (lv_at hl 0 rfl) ?_
    refine va_get (D := (dC, dI)) (ci := 8) (v := .int (-1)) (C := RX8) (T := TX8) (N := 13) hx hb hg inG_X8 hown hK hP 0 rfl rfl 11 (by decide) (hg (.fieldLink RX8 82 "AttributeDesk" "latestFault" "I") gw_2_171) (fun _ h9 => h9) rfl dX8_fault_5 ?_
    have hP9 := hP.sub (ws' := [(ah0, .inr (8, [.ref ae0, .int 0, .ref ae1, .ref ae2, .ref ae3, .ref ae4, .ref ae5, .ref ae6, .ref ae7, .ref ae8, .ref ae9, .int (-1), .int (-1)]))]) [0] rfl
    have hD9 := hD.sub (ws' := [(ah0, .inr (8, [.ref ae0, .int 0, .ref ae1, .ref ae2, .ref ae3, .ref ae4, .ref ae5, .ref ae6, .ref ae7, .ref ae8, .ref ae9, .int (-1), .int (-1)]))]) [0] (by decide) rfl
    have hK9 := hK.sub (tys' := []) [] rfl
    refine W.widen (k := 0) (n := 0) (Nat.le_of_ble_eq_true rfl) (Nat.le_of_ble_eq_true rfl) ?_
    exact W.iret (v := (-1)) hx hb hr (fun t ht hW => ⟨⟨(-1), (), rfl, rfl, by rw [ht]; exact hP9, va_K.moved hW.alike hK9, hD9⟩, hS.F ht⟩) hS.2.2 dX8_fault_8

set_option maxHeartbeats 4000000 in
set_option maxRecDepth 100000 in
theorem c_X8_symbol (l : Launch) (dC : Nat → ClassId) (dI : Nat → Nat → Nat) (ah0 ae1 ae0 ae2 ae3 ae4 ae5 ae6 ae7 ae8 ae9 ae11 ae12 ae13 ae14 ae15 ae16 ae17 ae18 ae19 ae20 ae21 ae22 ae23 ae24 ae25 : Nat) (sz : Nat) (p0 : Int32) (p1 : Int32) : Met l yX8_symbol wyX8_symbol ({ frames := 0, cells := 0, slots := 0, locals := 0 }) (va_Pc [.ref ah0, .int p0, .int p1] (fun U => U.heap.size = sz ∧ va_P (dC, dI) vwCl [(ah0, .inr (8, [.ref ae0, .int 0, .ref ae1, .ref ae2, .ref ae3, .ref ae4, .ref ae5, .ref ae6, .ref ae7, .ref ae8, .ref ae9, .int (-1), .int (-1)])), (ae1, .inr (1, [.int 0, .ref ae11, .ref ae12, .ref ae13, .ref ae14, .ref ae15, .ref ae16, .int 0, .ref ae17, .ref ae18, .ref ae19, .ref ae20, .ref ae21, .ref ae22, .ref ae23, .ref ae24, .ref ae25, .int 0]))] U.heap ∧ va_K (dC, dI) vwCl [] U ∧ va_D (fun _ => True) [(ah0, .inr (8, [.ref ae0, .int 0, .ref ae1, .ref ae2, .ref ae3, .ref ae4, .ref ae5, .ref ae6, .ref ae7, .ref ae8, .ref ae9, .int (-1), .int (-1)])), (ae1, .inr (1, [.int 0, .ref ae11, .ref ae12, .ref ae13, .ref ae14, .ref ae15, .ref ae16, .int 0, .ref ae17, .ref ae18, .ref ae19, .ref ae20, .ref ae21, .ref ae22, .ref ae23, .ref ae24, .ref ae25, .int 0]))])) (va_Qi (fun (r : Int32) (_ : Unit) => r = (-1)) (fun _ t => va_P (dC, dI) vwCl [(ah0, .inr (8, [.ref ae0, .int 0, .ref ae1, .ref ae2, .ref ae3, .ref ae4, .ref ae5, .ref ae6, .ref ae7, .ref ae8, .ref ae9, .int (-1), .int (-1)])), (ae1, .inr (1, [.int 0, .ref ae11, .ref ae12, .ref ae13, .ref ae14, .ref ae15, .ref ae16, .int 0, .ref ae17, .ref ae18, .ref ae19, .ref ae20, .ref ae21, .ref ae22, .ref ae23, .ref ae24, .ref ae25, .int 0]))] t.heap ∧ va_K (dC, dI) vwCl [] t ∧ va_D (va_A [(ah0, .inr (8, [.ref ae0, .int 0, .ref ae1, .ref ae2, .ref ae3, .ref ae4, .ref ae5, .ref ae6, .ref ae7, .ref ae8, .ref ae9, .int (-1), .int (-1)])), (ae1, .inr (1, [.int 0, .ref ae11, .ref ae12, .ref ae13, .ref ae14, .ref ae15, .ref ae16, .int 0, .ref ae17, .ref ae18, .ref ae19, .ref ae20, .ref ae21, .ref ae22, .ref ae23, .ref ae24, .ref ae25, .int 0]))] sz) [(ah0, .inr (8, [.ref ae0, .int 0, .ref ae1, .ref ae2, .ref ae3, .ref ae4, .ref ae5, .ref ae6, .ref ae7, .ref ae8, .ref ae9, .int (-1), .int (-1)])), (ae1, .inr (1, [.int 0, .ref ae11, .ref ae12, .ref ae13, .ref ae14, .ref ae15, .ref ae16, .int 0, .ref ae17, .ref ae18, .ref ae19, .ref ae20, .ref ae21, .ref ae22, .ref ae23, .ref ae24, .ref ae25, .int 0]))]) (va_A [(ah0, .inr (8, [.ref ae0, .int 0, .ref ae1, .ref ae2, .ref ae3, .ref ae4, .ref ae5, .ref ae6, .ref ae7, .ref ae8, .ref ae9, .int (-1), .int (-1)])), (ae1, .inr (1, [.int 0, .ref ae11, .ref ae12, .ref ae13, .ref ae14, .ref ae15, .ref ae16, .int 0, .ref ae17, .ref ae18, .ref ae19, .ref ae20, .ref ae21, .ref ae22, .ref ae23, .ref ae24, .ref ae25, .int 0]))] sz)) 0 0 (va_A [(ah0, .inr (8, [.ref ae0, .int 0, .ref ae1, .ref ae2, .ref ae3, .ref ae4, .ref ae5, .ref ae6, .ref ae7, .ref ae8, .ref ae9, .int (-1), .int (-1)])), (ae1, .inr (1, [.int 0, .ref ae11, .ref ae12, .ref ae13, .ref ae14, .ref ae15, .ref ae16, .int 0, .ref ae17, .ref ae18, .ref ae19, .ref ae20, .ref ae21, .ref ae22, .ref ae23, .ref ae24, .ref ae25, .int 0]))] sz) := by
  refine Met.ofW (cc := cX8_symbol) (maxL := 3) (ret := (some .int)) (by decide) rfl ?_
  intro p e s m args below meth c s₁ B hml hv
  obtain ⟨rfl, hsz, hP, hK, hD0⟩ := hv
  have hx := B.exec
  have hb := B.bytes
  have hr := B.returns
  have hts := atoms_spec (ws := wyX8_symbol) B.pre
  have hg : ∀ w ∈ lw_G, w.before _ s = true := fun w h => hts w (List.mem_cons_of_mem _ h)
  have hown : s.vm.findClass RX8 = some m.cls := findClass_of_methodNamed B.named
  have hlocks := B.notSynchronized
  subst hsz
  have hD := hD0.self (sz := s.heap.size)
  generalize hAe : va_A [(ah0, .inr (8, [.ref ae0, .int 0, .ref ae1, .ref ae2, .ref ae3, .ref ae4, .ref ae5, .ref ae6, .ref ae7, .ref ae8, .ref ae9, .int (-1), .int (-1)])), (ae1, .inr (1, [.int 0, .ref ae11, .ref ae12, .ref ae13, .ref ae14, .ref ae15, .ref ae16, .int 0, .ref ae17, .ref ae18, .ref ae19, .ref ae20, .ref ae21, .ref ae22, .ref ae23, .ref ae24, .ref ae25, .int 0]))] s.heap.size = A at hD ⊢
  have hA : ∀ q : Nat, s.heap.size ≤ q → A q := fun q h => by rw [← hAe]; exact Or.inr h
  have hS : va_S A s.heap s.heap [] := va_S.rf
  have hP : va_P (dC, dI) vwCl [(ah0, .inr (8, [.ref ae0, .int 0, .ref ae1, .ref ae2, .ref ae3, .ref ae4, .ref ae5, .ref ae6, .ref ae7, .ref ae8, .ref ae9, .int (-1), .int (-1)])), (ae1, .inr (1, [.int 0, .ref ae11, .ref ae12, .ref ae13, .ref ae14, .ref ae15, .ref ae16, .int 0, .ref ae17, .ref ae18, .ref ae19, .ref ae20, .ref ae21, .ref ae22, .ref ae23, .ref ae24, .ref ae25, .int 0]))] s.heap := hP
  have hl := lv_entry ([.ref ah0, .int p0, .int p1]) (n := 3) (Nat.le_of_ble_eq_true rfl)
  rw [lg_entry_eq]
  generalize (lg_sl ([.ref ah0, .int p0, .int p1]) ++ List.replicate (3 - (lg_sl ([.ref ah0, .int p0, .int p1])).length) Slot.unset).toArray = ls at hl ⊢
  have hl : lv_has ls 3 [(0, .ref ah0), (1, .int p0), (2, .int p1)] := hl
  refine lv_iload_n hx hb dX8_symbol_0 rfl (lv_at hl 1 rfl) ?_
  refine lv_if_lt (tgt := 15) hx hb dX8_symbol_1 (by decide) (fun c1 => ?_) (fun c1 => ?_)
  · refine lv_iconst (v := (-1)) hx hb dX8_symbol_15 (by decide) ?_
    have hP9 := hP.sub (ws' := [(ah0, .inr (8, [.ref ae0, .int 0, .ref ae1, .ref ae2, .ref ae3, .ref ae4, .ref ae5, .ref ae6, .ref ae7, .ref ae8, .ref ae9, .int (-1), .int (-1)])), (ae1, .inr (1, [.int 0, .ref ae11, .ref ae12, .ref ae13, .ref ae14, .ref ae15, .ref ae16, .int 0, .ref ae17, .ref ae18, .ref ae19, .ref ae20, .ref ae21, .ref ae22, .ref ae23, .ref ae24, .ref ae25, .int 0]))]) [0, 1] rfl
    have hD9 := hD.sub (ws' := [(ah0, .inr (8, [.ref ae0, .int 0, .ref ae1, .ref ae2, .ref ae3, .ref ae4, .ref ae5, .ref ae6, .ref ae7, .ref ae8, .ref ae9, .int (-1), .int (-1)])), (ae1, .inr (1, [.int 0, .ref ae11, .ref ae12, .ref ae13, .ref ae14, .ref ae15, .ref ae16, .int 0, .ref ae17, .ref ae18, .ref ae19, .ref ae20, .ref ae21, .ref ae22, .ref ae23, .ref ae24, .ref ae25, .int 0]))]) [0, 1] (by decide) rfl
    have hK9 := hK.sub (tys' := []) [] rfl
    refine W.widen (k := 0) (n := 0) (Nat.le_of_ble_eq_true rfl) (Nat.le_of_ble_eq_true rfl) ?_
    exact W.iret (v := (-1)) hx hb hr (fun t ht hW => ⟨⟨(-1), (), rfl, rfl, by rw [ht]; exact hP9, va_K.moved hW.alike hK9, hD9⟩, hS.F ht⟩) hS.2.2 dX8_symbol_16
  · refine lv_iload_n hx hb dX8_symbol_4 rfl (lv_at hl 1 rfl) ?_
    refine lv_aload_n hx hb dX8_symbol_5 rfl (lv_at hl 0 rfl) ?_
    refine va_get (D := (dC, dI)) (ci := 8) (v := .ref ae1) (C := RX8) (T := TX8) (N := 13) hx hb hg inG_X8 hown hK hP 0 rfl rfl 2 (by decide) (hg (.fieldLink RX8 20 "AttributeDesk" "known" "LAttributeDesk$Grammar;") gw_2_162) (fun _ h9 => h9) rfl dX8_symbol_6 ?_
    refine va_get (D := (dC, dI)) (ci := 1) (v := .int 0) (C := RX1) (T := TX1) (N := 18) hx hb hg inG_X1 hown hK hP 1 rfl rfl 0 (by decide) (hg (.fieldLink RX8 114 "AttributeDesk$Grammar" "symbolCount" "I") gw_1_28) (fun _ h9 => h9) rfl dX8_symbol_9 ?_
    refine lv_icmp_lt (tgt := 17) hx hb dX8_symbol_12 (by decide) (fun c2 => absurd c2 c1) (fun _ => ?_)
    refine lv_iconst (v := (-1)) hx hb dX8_symbol_15 (by decide) ?_
    have hP9 := hP.sub (ws' := [(ah0, .inr (8, [.ref ae0, .int 0, .ref ae1, .ref ae2, .ref ae3, .ref ae4, .ref ae5, .ref ae6, .ref ae7, .ref ae8, .ref ae9, .int (-1), .int (-1)])), (ae1, .inr (1, [.int 0, .ref ae11, .ref ae12, .ref ae13, .ref ae14, .ref ae15, .ref ae16, .int 0, .ref ae17, .ref ae18, .ref ae19, .ref ae20, .ref ae21, .ref ae22, .ref ae23, .ref ae24, .ref ae25, .int 0]))]) [0, 1] rfl
    have hD9 := hD.sub (ws' := [(ah0, .inr (8, [.ref ae0, .int 0, .ref ae1, .ref ae2, .ref ae3, .ref ae4, .ref ae5, .ref ae6, .ref ae7, .ref ae8, .ref ae9, .int (-1), .int (-1)])), (ae1, .inr (1, [.int 0, .ref ae11, .ref ae12, .ref ae13, .ref ae14, .ref ae15, .ref ae16, .int 0, .ref ae17, .ref ae18, .ref ae19, .ref ae20, .ref ae21, .ref ae22, .ref ae23, .ref ae24, .ref ae25, .int 0]))]) [0, 1] (by decide) rfl
    have hK9 := hK.sub (tys' := []) [] rfl
    refine W.widen (k := 0) (n := 0) (Nat.le_of_ble_eq_true rfl) (Nat.le_of_ble_eq_true rfl) ?_
    exact W.iret (v := (-1)) hx hb hr (fun t ht hW => ⟨⟨(-1), (), rfl, rfl, by rw [ht]; exact hP9, va_K.moved hW.alike hK9, hD9⟩, hS.F ht⟩) hS.2.2 dX8_symbol_16

set_option maxHeartbeats 4000000 in
set_option maxRecDepth 100000 in
theorem c_X8_graph (l : Launch) (dC : Nat → ClassId) (dI : Nat → Nat → Nat) (ah0 ae1 ae0 ae2 ae3 ae4 ae5 ae6 ae7 ae8 ae9 ae11 ae12 ae13 ae14 ae15 ae16 ae17 ae18 ae19 ae20 ae21 ae22 ae23 ae24 ae25 : Nat) (sz : Nat) (p0 : Int32) (p1 : Int32) : Met l yX8_graph wyX8_graph ({ frames := 0, cells := 0, slots := 0, locals := 0 }) (va_Pc [.ref ah0, .int p0, .int p1] (fun U => U.heap.size = sz ∧ va_P (dC, dI) vwCl [(ah0, .inr (8, [.ref ae0, .int 0, .ref ae1, .ref ae2, .ref ae3, .ref ae4, .ref ae5, .ref ae6, .ref ae7, .ref ae8, .ref ae9, .int (-1), .int (-1)])), (ae1, .inr (1, [.int 0, .ref ae11, .ref ae12, .ref ae13, .ref ae14, .ref ae15, .ref ae16, .int 0, .ref ae17, .ref ae18, .ref ae19, .ref ae20, .ref ae21, .ref ae22, .ref ae23, .ref ae24, .ref ae25, .int 0]))] U.heap ∧ va_K (dC, dI) vwCl [] U ∧ va_D (fun _ => True) [(ah0, .inr (8, [.ref ae0, .int 0, .ref ae1, .ref ae2, .ref ae3, .ref ae4, .ref ae5, .ref ae6, .ref ae7, .ref ae8, .ref ae9, .int (-1), .int (-1)])), (ae1, .inr (1, [.int 0, .ref ae11, .ref ae12, .ref ae13, .ref ae14, .ref ae15, .ref ae16, .int 0, .ref ae17, .ref ae18, .ref ae19, .ref ae20, .ref ae21, .ref ae22, .ref ae23, .ref ae24, .ref ae25, .int 0]))])) (va_Qi (fun (r : Int32) (_ : Unit) => r = (-1)) (fun _ t => va_P (dC, dI) vwCl [(ah0, .inr (8, [.ref ae0, .int 0, .ref ae1, .ref ae2, .ref ae3, .ref ae4, .ref ae5, .ref ae6, .ref ae7, .ref ae8, .ref ae9, .int (-1), .int (-1)])), (ae1, .inr (1, [.int 0, .ref ae11, .ref ae12, .ref ae13, .ref ae14, .ref ae15, .ref ae16, .int 0, .ref ae17, .ref ae18, .ref ae19, .ref ae20, .ref ae21, .ref ae22, .ref ae23, .ref ae24, .ref ae25, .int 0]))] t.heap ∧ va_K (dC, dI) vwCl [] t ∧ va_D (va_A [(ah0, .inr (8, [.ref ae0, .int 0, .ref ae1, .ref ae2, .ref ae3, .ref ae4, .ref ae5, .ref ae6, .ref ae7, .ref ae8, .ref ae9, .int (-1), .int (-1)])), (ae1, .inr (1, [.int 0, .ref ae11, .ref ae12, .ref ae13, .ref ae14, .ref ae15, .ref ae16, .int 0, .ref ae17, .ref ae18, .ref ae19, .ref ae20, .ref ae21, .ref ae22, .ref ae23, .ref ae24, .ref ae25, .int 0]))] sz) [(ah0, .inr (8, [.ref ae0, .int 0, .ref ae1, .ref ae2, .ref ae3, .ref ae4, .ref ae5, .ref ae6, .ref ae7, .ref ae8, .ref ae9, .int (-1), .int (-1)])), (ae1, .inr (1, [.int 0, .ref ae11, .ref ae12, .ref ae13, .ref ae14, .ref ae15, .ref ae16, .int 0, .ref ae17, .ref ae18, .ref ae19, .ref ae20, .ref ae21, .ref ae22, .ref ae23, .ref ae24, .ref ae25, .int 0]))]) (va_A [(ah0, .inr (8, [.ref ae0, .int 0, .ref ae1, .ref ae2, .ref ae3, .ref ae4, .ref ae5, .ref ae6, .ref ae7, .ref ae8, .ref ae9, .int (-1), .int (-1)])), (ae1, .inr (1, [.int 0, .ref ae11, .ref ae12, .ref ae13, .ref ae14, .ref ae15, .ref ae16, .int 0, .ref ae17, .ref ae18, .ref ae19, .ref ae20, .ref ae21, .ref ae22, .ref ae23, .ref ae24, .ref ae25, .int 0]))] sz)) 0 0 (va_A [(ah0, .inr (8, [.ref ae0, .int 0, .ref ae1, .ref ae2, .ref ae3, .ref ae4, .ref ae5, .ref ae6, .ref ae7, .ref ae8, .ref ae9, .int (-1), .int (-1)])), (ae1, .inr (1, [.int 0, .ref ae11, .ref ae12, .ref ae13, .ref ae14, .ref ae15, .ref ae16, .int 0, .ref ae17, .ref ae18, .ref ae19, .ref ae20, .ref ae21, .ref ae22, .ref ae23, .ref ae24, .ref ae25, .int 0]))] sz) := by
  refine Met.ofW (cc := cX8_graph) (maxL := 3) (ret := (some .int)) (by decide) rfl ?_
  intro p e s m args below meth c s₁ B hml hv
  obtain ⟨rfl, hsz, hP, hK, hD0⟩ := hv
  have hx := B.exec
  have hb := B.bytes
  have hr := B.returns
  have hts := atoms_spec (ws := wyX8_graph) B.pre
  have hg : ∀ w ∈ lw_G, w.before _ s = true := fun w h => hts w (List.mem_cons_of_mem _ h)
  have hown : s.vm.findClass RX8 = some m.cls := findClass_of_methodNamed B.named
  have hlocks := B.notSynchronized
  subst hsz
  have hD := hD0.self (sz := s.heap.size)
  generalize hAe : va_A [(ah0, .inr (8, [.ref ae0, .int 0, .ref ae1, .ref ae2, .ref ae3, .ref ae4, .ref ae5, .ref ae6, .ref ae7, .ref ae8, .ref ae9, .int (-1), .int (-1)])), (ae1, .inr (1, [.int 0, .ref ae11, .ref ae12, .ref ae13, .ref ae14, .ref ae15, .ref ae16, .int 0, .ref ae17, .ref ae18, .ref ae19, .ref ae20, .ref ae21, .ref ae22, .ref ae23, .ref ae24, .ref ae25, .int 0]))] s.heap.size = A at hD ⊢
  have hA : ∀ q : Nat, s.heap.size ≤ q → A q := fun q h => by rw [← hAe]; exact Or.inr h
  have hS : va_S A s.heap s.heap [] := va_S.rf
  have hP : va_P (dC, dI) vwCl [(ah0, .inr (8, [.ref ae0, .int 0, .ref ae1, .ref ae2, .ref ae3, .ref ae4, .ref ae5, .ref ae6, .ref ae7, .ref ae8, .ref ae9, .int (-1), .int (-1)])), (ae1, .inr (1, [.int 0, .ref ae11, .ref ae12, .ref ae13, .ref ae14, .ref ae15, .ref ae16, .int 0, .ref ae17, .ref ae18, .ref ae19, .ref ae20, .ref ae21, .ref ae22, .ref ae23, .ref ae24, .ref ae25, .int 0]))] s.heap := hP
  have hl := lv_entry ([.ref ah0, .int p0, .int p1]) (n := 3) (Nat.le_of_ble_eq_true rfl)
  rw [lg_entry_eq]
  generalize (lg_sl ([.ref ah0, .int p0, .int p1]) ++ List.replicate (3 - (lg_sl ([.ref ah0, .int p0, .int p1])).length) Slot.unset).toArray = ls at hl ⊢
  have hl : lv_has ls 3 [(0, .ref ah0), (1, .int p0), (2, .int p1)] := hl
  refine lv_iload_n hx hb dX8_graph_0 rfl (lv_at hl 1 rfl) ?_
  refine lv_if_lt (tgt := 42) hx hb dX8_graph_1 (by decide) (fun c1 => ?_) (fun c1 => ?_)
  · refine lv_iconst (v := (-1)) hx hb dX8_graph_42 (by decide) ?_
    have hP9 := hP.sub (ws' := [(ah0, .inr (8, [.ref ae0, .int 0, .ref ae1, .ref ae2, .ref ae3, .ref ae4, .ref ae5, .ref ae6, .ref ae7, .ref ae8, .ref ae9, .int (-1), .int (-1)])), (ae1, .inr (1, [.int 0, .ref ae11, .ref ae12, .ref ae13, .ref ae14, .ref ae15, .ref ae16, .int 0, .ref ae17, .ref ae18, .ref ae19, .ref ae20, .ref ae21, .ref ae22, .ref ae23, .ref ae24, .ref ae25, .int 0]))]) [0, 1] rfl
    have hD9 := hD.sub (ws' := [(ah0, .inr (8, [.ref ae0, .int 0, .ref ae1, .ref ae2, .ref ae3, .ref ae4, .ref ae5, .ref ae6, .ref ae7, .ref ae8, .ref ae9, .int (-1), .int (-1)])), (ae1, .inr (1, [.int 0, .ref ae11, .ref ae12, .ref ae13, .ref ae14, .ref ae15, .ref ae16, .int 0, .ref ae17, .ref ae18, .ref ae19, .ref ae20, .ref ae21, .ref ae22, .ref ae23, .ref ae24, .ref ae25, .int 0]))]) [0, 1] (by decide) rfl
    have hK9 := hK.sub (tys' := []) [] rfl
    refine W.widen (k := 0) (n := 0) (Nat.le_of_ble_eq_true rfl) (Nat.le_of_ble_eq_true rfl) ?_
    exact W.iret (v := (-1)) hx hb hr (fun t ht hW => ⟨⟨(-1), (), rfl, rfl, by rw [ht]; exact hP9, va_K.moved hW.alike hK9, hD9⟩, hS.F ht⟩) hS.2.2 dX8_graph_43
  · refine lv_iload_n hx hb dX8_graph_4 rfl (lv_at hl 1 rfl) ?_
    refine lv_aload_n hx hb dX8_graph_5 rfl (lv_at hl 0 rfl) ?_
    refine va_get (D := (dC, dI)) (ci := 8) (v := .ref ae1) (C := RX8) (T := TX8) (N := 13) hx hb hg inG_X8 hown hK hP 0 rfl rfl 2 (by decide) (hg (.fieldLink RX8 20 "AttributeDesk" "known" "LAttributeDesk$Grammar;") gw_2_162) (fun _ h9 => h9) rfl dX8_graph_6 ?_
    refine va_get (D := (dC, dI)) (ci := 1) (v := .int 0) (C := RX1) (T := TX1) (N := 18) hx hb hg inG_X1 hown hK hP 1 rfl rfl 0 (by decide) (hg (.fieldLink RX8 114 "AttributeDesk$Grammar" "symbolCount" "I") gw_1_28) (fun _ h9 => h9) rfl dX8_graph_9 ?_
    refine lv_icmp_ge (tgt := 42) hx hb dX8_graph_12 (by decide) (fun _ => ?_) (fun c2 => (nnF c1 c2).elim)
    refine lv_iconst (v := (-1)) hx hb dX8_graph_42 (by decide) ?_
    have hP9 := hP.sub (ws' := [(ah0, .inr (8, [.ref ae0, .int 0, .ref ae1, .ref ae2, .ref ae3, .ref ae4, .ref ae5, .ref ae6, .ref ae7, .ref ae8, .ref ae9, .int (-1), .int (-1)])), (ae1, .inr (1, [.int 0, .ref ae11, .ref ae12, .ref ae13, .ref ae14, .ref ae15, .ref ae16, .int 0, .ref ae17, .ref ae18, .ref ae19, .ref ae20, .ref ae21, .ref ae22, .ref ae23, .ref ae24, .ref ae25, .int 0]))]) [0, 1] rfl
    have hD9 := hD.sub (ws' := [(ah0, .inr (8, [.ref ae0, .int 0, .ref ae1, .ref ae2, .ref ae3, .ref ae4, .ref ae5, .ref ae6, .ref ae7, .ref ae8, .ref ae9, .int (-1), .int (-1)])), (ae1, .inr (1, [.int 0, .ref ae11, .ref ae12, .ref ae13, .ref ae14, .ref ae15, .ref ae16, .int 0, .ref ae17, .ref ae18, .ref ae19, .ref ae20, .ref ae21, .ref ae22, .ref ae23, .ref ae24, .ref ae25, .int 0]))]) [0, 1] (by decide) rfl
    have hK9 := hK.sub (tys' := []) [] rfl
    refine W.widen (k := 0) (n := 0) (Nat.le_of_ble_eq_true rfl) (Nat.le_of_ble_eq_true rfl) ?_
    exact W.iret (v := (-1)) hx hb hr (fun t ht hW => ⟨⟨(-1), (), rfl, rfl, by rw [ht]; exact hP9, va_K.moved hW.alike hK9, hD9⟩, hS.F ht⟩) hS.2.2 dX8_graph_43

set_option maxHeartbeats 4000000 in
set_option maxRecDepth 100000 in
theorem c_X8_rule (l : Launch) (dC : Nat → ClassId) (dI : Nat → Nat → Nat) (ah0 ae1 ae0 ae2 ae3 ae4 ae5 ae6 ae7 ae8 ae9 ae11 ae12 ae13 ae14 ae15 ae16 ae17 ae18 ae19 ae20 ae21 ae22 ae23 ae24 ae25 : Nat) (sz : Nat) (p0 : Int32) (p1 : Int32) : Met l yX8_rule wyX8_rule ({ frames := 0, cells := 0, slots := 0, locals := 0 }) (va_Pc [.ref ah0, .int p0, .int p1] (fun U => U.heap.size = sz ∧ va_P (dC, dI) vwCl [(ah0, .inr (8, [.ref ae0, .int 0, .ref ae1, .ref ae2, .ref ae3, .ref ae4, .ref ae5, .ref ae6, .ref ae7, .ref ae8, .ref ae9, .int (-1), .int (-1)])), (ae1, .inr (1, [.int 0, .ref ae11, .ref ae12, .ref ae13, .ref ae14, .ref ae15, .ref ae16, .int 0, .ref ae17, .ref ae18, .ref ae19, .ref ae20, .ref ae21, .ref ae22, .ref ae23, .ref ae24, .ref ae25, .int 0]))] U.heap ∧ va_K (dC, dI) vwCl [] U ∧ va_D (fun _ => True) [(ah0, .inr (8, [.ref ae0, .int 0, .ref ae1, .ref ae2, .ref ae3, .ref ae4, .ref ae5, .ref ae6, .ref ae7, .ref ae8, .ref ae9, .int (-1), .int (-1)])), (ae1, .inr (1, [.int 0, .ref ae11, .ref ae12, .ref ae13, .ref ae14, .ref ae15, .ref ae16, .int 0, .ref ae17, .ref ae18, .ref ae19, .ref ae20, .ref ae21, .ref ae22, .ref ae23, .ref ae24, .ref ae25, .int 0]))])) (va_Qi (fun (r : Int32) (_ : Unit) => r = (-1)) (fun _ t => va_P (dC, dI) vwCl [(ah0, .inr (8, [.ref ae0, .int 0, .ref ae1, .ref ae2, .ref ae3, .ref ae4, .ref ae5, .ref ae6, .ref ae7, .ref ae8, .ref ae9, .int (-1), .int (-1)])), (ae1, .inr (1, [.int 0, .ref ae11, .ref ae12, .ref ae13, .ref ae14, .ref ae15, .ref ae16, .int 0, .ref ae17, .ref ae18, .ref ae19, .ref ae20, .ref ae21, .ref ae22, .ref ae23, .ref ae24, .ref ae25, .int 0]))] t.heap ∧ va_K (dC, dI) vwCl [] t ∧ va_D (va_A [(ah0, .inr (8, [.ref ae0, .int 0, .ref ae1, .ref ae2, .ref ae3, .ref ae4, .ref ae5, .ref ae6, .ref ae7, .ref ae8, .ref ae9, .int (-1), .int (-1)])), (ae1, .inr (1, [.int 0, .ref ae11, .ref ae12, .ref ae13, .ref ae14, .ref ae15, .ref ae16, .int 0, .ref ae17, .ref ae18, .ref ae19, .ref ae20, .ref ae21, .ref ae22, .ref ae23, .ref ae24, .ref ae25, .int 0]))] sz) [(ah0, .inr (8, [.ref ae0, .int 0, .ref ae1, .ref ae2, .ref ae3, .ref ae4, .ref ae5, .ref ae6, .ref ae7, .ref ae8, .ref ae9, .int (-1), .int (-1)])), (ae1, .inr (1, [.int 0, .ref ae11, .ref ae12, .ref ae13, .ref ae14, .ref ae15, .ref ae16, .int 0, .ref ae17, .ref ae18, .ref ae19, .ref ae20, .ref ae21, .ref ae22, .ref ae23, .ref ae24, .ref ae25, .int 0]))]) (va_A [(ah0, .inr (8, [.ref ae0, .int 0, .ref ae1, .ref ae2, .ref ae3, .ref ae4, .ref ae5, .ref ae6, .ref ae7, .ref ae8, .ref ae9, .int (-1), .int (-1)])), (ae1, .inr (1, [.int 0, .ref ae11, .ref ae12, .ref ae13, .ref ae14, .ref ae15, .ref ae16, .int 0, .ref ae17, .ref ae18, .ref ae19, .ref ae20, .ref ae21, .ref ae22, .ref ae23, .ref ae24, .ref ae25, .int 0]))] sz)) 0 0 (va_A [(ah0, .inr (8, [.ref ae0, .int 0, .ref ae1, .ref ae2, .ref ae3, .ref ae4, .ref ae5, .ref ae6, .ref ae7, .ref ae8, .ref ae9, .int (-1), .int (-1)])), (ae1, .inr (1, [.int 0, .ref ae11, .ref ae12, .ref ae13, .ref ae14, .ref ae15, .ref ae16, .int 0, .ref ae17, .ref ae18, .ref ae19, .ref ae20, .ref ae21, .ref ae22, .ref ae23, .ref ae24, .ref ae25, .int 0]))] sz) := by
  refine Met.ofW (cc := cX8_rule) (maxL := 3) (ret := (some .int)) (by decide) rfl ?_
  intro p e s m args below meth c s₁ B hml hv
  obtain ⟨rfl, hsz, hP, hK, hD0⟩ := hv
  have hx := B.exec
  have hb := B.bytes
  have hr := B.returns
  have hts := atoms_spec (ws := wyX8_rule) B.pre
  have hg : ∀ w ∈ lw_G, w.before _ s = true := fun w h => hts w (List.mem_cons_of_mem _ h)
  have hown : s.vm.findClass RX8 = some m.cls := findClass_of_methodNamed B.named
  have hlocks := B.notSynchronized
  subst hsz
  have hD := hD0.self (sz := s.heap.size)
  generalize hAe : va_A [(ah0, .inr (8, [.ref ae0, .int 0, .ref ae1, .ref ae2, .ref ae3, .ref ae4, .ref ae5, .ref ae6, .ref ae7, .ref ae8, .ref ae9, .int (-1), .int (-1)])), (ae1, .inr (1, [.int 0, .ref ae11, .ref ae12, .ref ae13, .ref ae14, .ref ae15, .ref ae16, .int 0, .ref ae17, .ref ae18, .ref ae19, .ref ae20, .ref ae21, .ref ae22, .ref ae23, .ref ae24, .ref ae25, .int 0]))] s.heap.size = A at hD ⊢
  have hA : ∀ q : Nat, s.heap.size ≤ q → A q := fun q h => by rw [← hAe]; exact Or.inr h
  have hS : va_S A s.heap s.heap [] := va_S.rf
  have hP : va_P (dC, dI) vwCl [(ah0, .inr (8, [.ref ae0, .int 0, .ref ae1, .ref ae2, .ref ae3, .ref ae4, .ref ae5, .ref ae6, .ref ae7, .ref ae8, .ref ae9, .int (-1), .int (-1)])), (ae1, .inr (1, [.int 0, .ref ae11, .ref ae12, .ref ae13, .ref ae14, .ref ae15, .ref ae16, .int 0, .ref ae17, .ref ae18, .ref ae19, .ref ae20, .ref ae21, .ref ae22, .ref ae23, .ref ae24, .ref ae25, .int 0]))] s.heap := hP
  have hl := lv_entry ([.ref ah0, .int p0, .int p1]) (n := 3) (Nat.le_of_ble_eq_true rfl)
  rw [lg_entry_eq]
  generalize (lg_sl ([.ref ah0, .int p0, .int p1]) ++ List.replicate (3 - (lg_sl ([.ref ah0, .int p0, .int p1])).length) Slot.unset).toArray = ls at hl ⊢
  have hl : lv_has ls 3 [(0, .ref ah0), (1, .int p0), (2, .int p1)] := hl
  refine lv_iload_n hx hb dX8_rule_0 rfl (lv_at hl 1 rfl) ?_
  refine lv_if_lt (tgt := 15) hx hb dX8_rule_1 (by decide) (fun c1 => ?_) (fun c1 => ?_)
  · refine lv_iconst (v := (-1)) hx hb dX8_rule_15 (by decide) ?_
    have hP9 := hP.sub (ws' := [(ah0, .inr (8, [.ref ae0, .int 0, .ref ae1, .ref ae2, .ref ae3, .ref ae4, .ref ae5, .ref ae6, .ref ae7, .ref ae8, .ref ae9, .int (-1), .int (-1)])), (ae1, .inr (1, [.int 0, .ref ae11, .ref ae12, .ref ae13, .ref ae14, .ref ae15, .ref ae16, .int 0, .ref ae17, .ref ae18, .ref ae19, .ref ae20, .ref ae21, .ref ae22, .ref ae23, .ref ae24, .ref ae25, .int 0]))]) [0, 1] rfl
    have hD9 := hD.sub (ws' := [(ah0, .inr (8, [.ref ae0, .int 0, .ref ae1, .ref ae2, .ref ae3, .ref ae4, .ref ae5, .ref ae6, .ref ae7, .ref ae8, .ref ae9, .int (-1), .int (-1)])), (ae1, .inr (1, [.int 0, .ref ae11, .ref ae12, .ref ae13, .ref ae14, .ref ae15, .ref ae16, .int 0, .ref ae17, .ref ae18, .ref ae19, .ref ae20, .ref ae21, .ref ae22, .ref ae23, .ref ae24, .ref ae25, .int 0]))]) [0, 1] (by decide) rfl
    have hK9 := hK.sub (tys' := []) [] rfl
    refine W.widen (k := 0) (n := 0) (Nat.le_of_ble_eq_true rfl) (Nat.le_of_ble_eq_true rfl) ?_
    exact W.iret (v := (-1)) hx hb hr (fun t ht hW => ⟨⟨(-1), (), rfl, rfl, by rw [ht]; exact hP9, va_K.moved hW.alike hK9, hD9⟩, hS.F ht⟩) hS.2.2 dX8_rule_16
  · refine lv_iload_n hx hb dX8_rule_4 rfl (lv_at hl 1 rfl) ?_
    refine lv_aload_n hx hb dX8_rule_5 rfl (lv_at hl 0 rfl) ?_
    refine va_get (D := (dC, dI)) (ci := 8) (v := .ref ae1) (C := RX8) (T := TX8) (N := 13) hx hb hg inG_X8 hown hK hP 0 rfl rfl 2 (by decide) (hg (.fieldLink RX8 20 "AttributeDesk" "known" "LAttributeDesk$Grammar;") gw_2_162) (fun _ h9 => h9) rfl dX8_rule_6 ?_
    refine va_get (D := (dC, dI)) (ci := 1) (v := .int 0) (C := RX1) (T := TX1) (N := 18) hx hb hg inG_X1 hown hK hP 1 rfl rfl 7 (by decide) (hg (.fieldLink RX8 108 "AttributeDesk$Grammar" "ruleCount" "I") gw_1_43) (fun _ h9 => h9) rfl dX8_rule_9 ?_
    refine lv_icmp_lt (tgt := 17) hx hb dX8_rule_12 (by decide) (fun c2 => absurd c2 c1) (fun _ => ?_)
    refine lv_iconst (v := (-1)) hx hb dX8_rule_15 (by decide) ?_
    have hP9 := hP.sub (ws' := [(ah0, .inr (8, [.ref ae0, .int 0, .ref ae1, .ref ae2, .ref ae3, .ref ae4, .ref ae5, .ref ae6, .ref ae7, .ref ae8, .ref ae9, .int (-1), .int (-1)])), (ae1, .inr (1, [.int 0, .ref ae11, .ref ae12, .ref ae13, .ref ae14, .ref ae15, .ref ae16, .int 0, .ref ae17, .ref ae18, .ref ae19, .ref ae20, .ref ae21, .ref ae22, .ref ae23, .ref ae24, .ref ae25, .int 0]))]) [0, 1] rfl
    have hD9 := hD.sub (ws' := [(ah0, .inr (8, [.ref ae0, .int 0, .ref ae1, .ref ae2, .ref ae3, .ref ae4, .ref ae5, .ref ae6, .ref ae7, .ref ae8, .ref ae9, .int (-1), .int (-1)])), (ae1, .inr (1, [.int 0, .ref ae11, .ref ae12, .ref ae13, .ref ae14, .ref ae15, .ref ae16, .int 0, .ref ae17, .ref ae18, .ref ae19, .ref ae20, .ref ae21, .ref ae22, .ref ae23, .ref ae24, .ref ae25, .int 0]))]) [0, 1] (by decide) rfl
    have hK9 := hK.sub (tys' := []) [] rfl
    refine W.widen (k := 0) (n := 0) (Nat.le_of_ble_eq_true rfl) (Nat.le_of_ble_eq_true rfl) ?_
    exact W.iret (v := (-1)) hx hb hr (fun t ht hW => ⟨⟨(-1), (), rfl, rfl, by rw [ht]; exact hP9, va_K.moved hW.alike hK9, hD9⟩, hS.F ht⟩) hS.2.2 dX8_rule_16

set_option maxHeartbeats 4000000 in
set_option maxRecDepth 100000 in
theorem c_X8_test (l : Launch) (dC : Nat → ClassId) (dI : Nat → Nat → Nat) (ah0 ae1 ae0 ae2 ae3 ae4 ae5 ae6 ae7 ae8 ae9 ae11 ae12 ae13 ae14 ae15 ae16 ae17 ae18 ae19 ae20 ae21 ae22 ae23 ae24 ae25 : Nat) (sz : Nat) (p0 : Int32) : Met l yX8_test wyX8_test ({ frames := 0, cells := 0, slots := 0, locals := 0 }) (va_Pc [.ref ah0, .int p0] (fun U => U.heap.size = sz ∧ va_P (dC, dI) vwCl [(ah0, .inr (8, [.ref ae0, .int 0, .ref ae1, .ref ae2, .ref ae3, .ref ae4, .ref ae5, .ref ae6, .ref ae7, .ref ae8, .ref ae9, .int (-1), .int (-1)])), (ae1, .inr (1, [.int 0, .ref ae11, .ref ae12, .ref ae13, .ref ae14, .ref ae15, .ref ae16, .int 0, .ref ae17, .ref ae18, .ref ae19, .ref ae20, .ref ae21, .ref ae22, .ref ae23, .ref ae24, .ref ae25, .int 0]))] U.heap ∧ va_K (dC, dI) vwCl [] U ∧ va_D (fun _ => True) [(ah0, .inr (8, [.ref ae0, .int 0, .ref ae1, .ref ae2, .ref ae3, .ref ae4, .ref ae5, .ref ae6, .ref ae7, .ref ae8, .ref ae9, .int (-1), .int (-1)])), (ae1, .inr (1, [.int 0, .ref ae11, .ref ae12, .ref ae13, .ref ae14, .ref ae15, .ref ae16, .int 0, .ref ae17, .ref ae18, .ref ae19, .ref ae20, .ref ae21, .ref ae22, .ref ae23, .ref ae24, .ref ae25, .int 0]))])) (va_Qi (fun (r : Int32) (_ : Unit) => r = (-1)) (fun _ t => va_P (dC, dI) vwCl [(ah0, .inr (8, [.ref ae0, .int 0, .ref ae1, .ref ae2, .ref ae3, .ref ae4, .ref ae5, .ref ae6, .ref ae7, .ref ae8, .ref ae9, .int (-1), .int (-1)])), (ae1, .inr (1, [.int 0, .ref ae11, .ref ae12, .ref ae13, .ref ae14, .ref ae15, .ref ae16, .int 0, .ref ae17, .ref ae18, .ref ae19, .ref ae20, .ref ae21, .ref ae22, .ref ae23, .ref ae24, .ref ae25, .int 0]))] t.heap ∧ va_K (dC, dI) vwCl [] t ∧ va_D (va_A [(ah0, .inr (8, [.ref ae0, .int 0, .ref ae1, .ref ae2, .ref ae3, .ref ae4, .ref ae5, .ref ae6, .ref ae7, .ref ae8, .ref ae9, .int (-1), .int (-1)])), (ae1, .inr (1, [.int 0, .ref ae11, .ref ae12, .ref ae13, .ref ae14, .ref ae15, .ref ae16, .int 0, .ref ae17, .ref ae18, .ref ae19, .ref ae20, .ref ae21, .ref ae22, .ref ae23, .ref ae24, .ref ae25, .int 0]))] sz) [(ah0, .inr (8, [.ref ae0, .int 0, .ref ae1, .ref ae2, .ref ae3, .ref ae4, .ref ae5, .ref ae6, .ref ae7, .ref ae8, .ref ae9, .int (-1), .int (-1)])), (ae1, .inr (1, [.int 0, .ref ae11, .ref ae12, .ref ae13, .ref ae14, .ref ae15, .ref ae16, .int 0, .ref ae17, .ref ae18, .ref ae19, .ref ae20, .ref ae21, .ref ae22, .ref ae23, .ref ae24, .ref ae25, .int 0]))]) (va_A [(ah0, .inr (8, [.ref ae0, .int 0, .ref ae1, .ref ae2, .ref ae3, .ref ae4, .ref ae5, .ref ae6, .ref ae7, .ref ae8, .ref ae9, .int (-1), .int (-1)])), (ae1, .inr (1, [.int 0, .ref ae11, .ref ae12, .ref ae13, .ref ae14, .ref ae15, .ref ae16, .int 0, .ref ae17, .ref ae18, .ref ae19, .ref ae20, .ref ae21, .ref ae22, .ref ae23, .ref ae24, .ref ae25, .int 0]))] sz)) 0 0 (va_A [(ah0, .inr (8, [.ref ae0, .int 0, .ref ae1, .ref ae2, .ref ae3, .ref ae4, .ref ae5, .ref ae6, .ref ae7, .ref ae8, .ref ae9, .int (-1), .int (-1)])), (ae1, .inr (1, [.int 0, .ref ae11, .ref ae12, .ref ae13, .ref ae14, .ref ae15, .ref ae16, .int 0, .ref ae17, .ref ae18, .ref ae19, .ref ae20, .ref ae21, .ref ae22, .ref ae23, .ref ae24, .ref ae25, .int 0]))] sz) := by
  refine Met.ofW (cc := cX8_test) (maxL := 2) (ret := (some .int)) (by decide) rfl ?_
  intro p e s m args below meth c s₁ B hml hv
  obtain ⟨rfl, hsz, hP, hK, hD0⟩ := hv
  have hx := B.exec
  have hb := B.bytes
  have hr := B.returns
  have hts := atoms_spec (ws := wyX8_test) B.pre
  have hg : ∀ w ∈ lw_G, w.before _ s = true := fun w h => hts w (List.mem_cons_of_mem _ h)
  have hown : s.vm.findClass RX8 = some m.cls := findClass_of_methodNamed B.named
  have hlocks := B.notSynchronized
  subst hsz
  have hD := hD0.self (sz := s.heap.size)
  generalize hAe : va_A [(ah0, .inr (8, [.ref ae0, .int 0, .ref ae1, .ref ae2, .ref ae3, .ref ae4, .ref ae5, .ref ae6, .ref ae7, .ref ae8, .ref ae9, .int (-1), .int (-1)])), (ae1, .inr (1, [.int 0, .ref ae11, .ref ae12, .ref ae13, .ref ae14, .ref ae15, .ref ae16, .int 0, .ref ae17, .ref ae18, .ref ae19, .ref ae20, .ref ae21, .ref ae22, .ref ae23, .ref ae24, .ref ae25, .int 0]))] s.heap.size = A at hD ⊢
  have hA : ∀ q : Nat, s.heap.size ≤ q → A q := fun q h => by rw [← hAe]; exact Or.inr h
  have hS : va_S A s.heap s.heap [] := va_S.rf
  have hP : va_P (dC, dI) vwCl [(ah0, .inr (8, [.ref ae0, .int 0, .ref ae1, .ref ae2, .ref ae3, .ref ae4, .ref ae5, .ref ae6, .ref ae7, .ref ae8, .ref ae9, .int (-1), .int (-1)])), (ae1, .inr (1, [.int 0, .ref ae11, .ref ae12, .ref ae13, .ref ae14, .ref ae15, .ref ae16, .int 0, .ref ae17, .ref ae18, .ref ae19, .ref ae20, .ref ae21, .ref ae22, .ref ae23, .ref ae24, .ref ae25, .int 0]))] s.heap := hP
  have hl := lv_entry ([.ref ah0, .int p0]) (n := 2) (Nat.le_of_ble_eq_true rfl)
  rw [lg_entry_eq]
  generalize (lg_sl ([.ref ah0, .int p0]) ++ List.replicate (2 - (lg_sl ([.ref ah0, .int p0])).length) Slot.unset).toArray = ls at hl ⊢
  have hl : lv_has ls 2 [(0, .ref ah0), (1, .int p0)] := hl
  refine lv_aload_n hx hb dX8_test_0 rfl (lv_at hl 0 rfl) ?_
  refine va_get (D := (dC, dI)) (ci := 8) (v := .ref ae1) (C := RX8) (T := TX8) (N := 13) hx hb hg inG_X8 hown hK hP 0 rfl rfl 2 (by decide) (hg (.fieldLink RX8 20 "AttributeDesk" "known" "LAttributeDesk$Grammar;") gw_2_162) (fun _ h9 => h9) rfl dX8_test_1 ?_
  refine va_get (D := (dC, dI)) (ci := 1) (v := .int 0) (C := RX1) (T := TX1) (N := 18) hx hb hg inG_X1 hown hK hP 1 rfl rfl 7 (by decide) (hg (.fieldLink RX8 108 "AttributeDesk$Grammar" "ruleCount" "I") gw_1_43) (fun _ h9 => h9) rfl dX8_test_4 ?_
  refine lv_if_eq (tgt := 19) hx hb dX8_test_7 (by decide) (fun _ => ?_) (fun c1 => absurd c1 (by decide))
  refine lv_iconst (v := (-1)) hx hb dX8_test_19 (by decide) ?_
  have hP9 := hP.sub (ws' := [(ah0, .inr (8, [.ref ae0, .int 0, .ref ae1, .ref ae2, .ref ae3, .ref ae4, .ref ae5, .ref ae6, .ref ae7, .ref ae8, .ref ae9, .int (-1), .int (-1)])), (ae1, .inr (1, [.int 0, .ref ae11, .ref ae12, .ref ae13, .ref ae14, .ref ae15, .ref ae16, .int 0, .ref ae17, .ref ae18, .ref ae19, .ref ae20, .ref ae21, .ref ae22, .ref ae23, .ref ae24, .ref ae25, .int 0]))]) [0, 1] rfl
  have hD9 := hD.sub (ws' := [(ah0, .inr (8, [.ref ae0, .int 0, .ref ae1, .ref ae2, .ref ae3, .ref ae4, .ref ae5, .ref ae6, .ref ae7, .ref ae8, .ref ae9, .int (-1), .int (-1)])), (ae1, .inr (1, [.int 0, .ref ae11, .ref ae12, .ref ae13, .ref ae14, .ref ae15, .ref ae16, .int 0, .ref ae17, .ref ae18, .ref ae19, .ref ae20, .ref ae21, .ref ae22, .ref ae23, .ref ae24, .ref ae25, .int 0]))]) [0, 1] (by decide) rfl
  have hK9 := hK.sub (tys' := []) [] rfl
  refine W.widen (k := 0) (n := 0) (Nat.le_of_ble_eq_true rfl) (Nat.le_of_ble_eq_true rfl) ?_
  exact W.iret (v := (-1)) hx hb hr (fun t ht hW => ⟨⟨(-1), (), rfl, rfl, by rw [ht]; exact hP9, va_K.moved hW.alike hK9, hD9⟩, hS.F ht⟩) hS.2.2 dX8_test_20

set_option maxHeartbeats 4000000 in
set_option maxRecDepth 100000 in
theorem c_X8_isNode (l : Launch) (dC : Nat → ClassId) (dI : Nat → Nat → Nat) (ah0 ae3 ae0 ae1 ae2 ae4 ae5 ae6 ae7 ae8 ae9 ae41 ae42 ae43 ae44 ae45 : Nat) (sz : Nat) (p0 : Int32) : Met l yX8_isNode wyX8_isNode ({ frames := 0, cells := 0, slots := 0, locals := 0 }) (va_Pc [.ref ah0, .int p0] (fun U => U.heap.size = sz ∧ va_P (dC, dI) vwCl [(ah0, .inr (8, [.ref ae0, .int 0, .ref ae1, .ref ae2, .ref ae3, .ref ae4, .ref ae5, .ref ae6, .ref ae7, .ref ae8, .ref ae9, .int (-1), .int (-1)])), (ae3, .inr (4, [.int 0, .ref ae41, .ref ae42, .ref ae43, .ref ae44, .ref ae45]))] U.heap ∧ va_K (dC, dI) vwCl [] U ∧ va_D (fun _ => True) [(ah0, .inr (8, [.ref ae0, .int 0, .ref ae1, .ref ae2, .ref ae3, .ref ae4, .ref ae5, .ref ae6, .ref ae7, .ref ae8, .ref ae9, .int (-1), .int (-1)])), (ae3, .inr (4, [.int 0, .ref ae41, .ref ae42, .ref ae43, .ref ae44, .ref ae45]))])) (va_Qi (fun (r : Int32) (_ : Unit) => r = 0) (fun _ t => va_P (dC, dI) vwCl [(ah0, .inr (8, [.ref ae0, .int 0, .ref ae1, .ref ae2, .ref ae3, .ref ae4, .ref ae5, .ref ae6, .ref ae7, .ref ae8, .ref ae9, .int (-1), .int (-1)])), (ae3, .inr (4, [.int 0, .ref ae41, .ref ae42, .ref ae43, .ref ae44, .ref ae45]))] t.heap ∧ va_K (dC, dI) vwCl [] t ∧ va_D (va_A [(ah0, .inr (8, [.ref ae0, .int 0, .ref ae1, .ref ae2, .ref ae3, .ref ae4, .ref ae5, .ref ae6, .ref ae7, .ref ae8, .ref ae9, .int (-1), .int (-1)])), (ae3, .inr (4, [.int 0, .ref ae41, .ref ae42, .ref ae43, .ref ae44, .ref ae45]))] sz) [(ah0, .inr (8, [.ref ae0, .int 0, .ref ae1, .ref ae2, .ref ae3, .ref ae4, .ref ae5, .ref ae6, .ref ae7, .ref ae8, .ref ae9, .int (-1), .int (-1)])), (ae3, .inr (4, [.int 0, .ref ae41, .ref ae42, .ref ae43, .ref ae44, .ref ae45]))]) (va_A [(ah0, .inr (8, [.ref ae0, .int 0, .ref ae1, .ref ae2, .ref ae3, .ref ae4, .ref ae5, .ref ae6, .ref ae7, .ref ae8, .ref ae9, .int (-1), .int (-1)])), (ae3, .inr (4, [.int 0, .ref ae41, .ref ae42, .ref ae43, .ref ae44, .ref ae45]))] sz)) 0 0 (va_A [(ah0, .inr (8, [.ref ae0, .int 0, .ref ae1, .ref ae2, .ref ae3, .ref ae4, .ref ae5, .ref ae6, .ref ae7, .ref ae8, .ref ae9, .int (-1), .int (-1)])), (ae3, .inr (4, [.int 0, .ref ae41, .ref ae42, .ref ae43, .ref ae44, .ref ae45]))] sz) := by
  refine Met.ofW (cc := cX8_isNode) (maxL := 2) (ret := (some .boolean)) (by decide) rfl ?_
  intro p e s m args below meth c s₁ B hml hv
  obtain ⟨rfl, hsz, hP, hK, hD0⟩ := hv
  have hx := B.exec
  have hb := B.bytes
  have hr := B.returns
  have hts := atoms_spec (ws := wyX8_isNode) B.pre
  have hg : ∀ w ∈ lw_G, w.before _ s = true := fun w h => hts w (List.mem_cons_of_mem _ h)
  have hown : s.vm.findClass RX8 = some m.cls := findClass_of_methodNamed B.named
  have hlocks := B.notSynchronized
  subst hsz
  have hD := hD0.self (sz := s.heap.size)
  generalize hAe : va_A [(ah0, .inr (8, [.ref ae0, .int 0, .ref ae1, .ref ae2, .ref ae3, .ref ae4, .ref ae5, .ref ae6, .ref ae7, .ref ae8, .ref ae9, .int (-1), .int (-1)])), (ae3, .inr (4, [.int 0, .ref ae41, .ref ae42, .ref ae43, .ref ae44, .ref ae45]))] s.heap.size = A at hD ⊢
  have hA : ∀ q : Nat, s.heap.size ≤ q → A q := fun q h => by rw [← hAe]; exact Or.inr h
  have hS : va_S A s.heap s.heap [] := va_S.rf
  have hP : va_P (dC, dI) vwCl [(ah0, .inr (8, [.ref ae0, .int 0, .ref ae1, .ref ae2, .ref ae3, .ref ae4, .ref ae5, .ref ae6, .ref ae7, .ref ae8, .ref ae9, .int (-1), .int (-1)])), (ae3, .inr (4, [.int 0, .ref ae41, .ref ae42, .ref ae43, .ref ae44, .ref ae45]))] s.heap := hP
  have hl := lv_entry ([.ref ah0, .int p0]) (n := 2) (Nat.le_of_ble_eq_true rfl)
  rw [lg_entry_eq]
  generalize (lg_sl ([.ref ah0, .int p0]) ++ List.replicate (2 - (lg_sl ([.ref ah0, .int p0])).length) Slot.unset).toArray = ls at hl ⊢
  have hl : lv_has ls 2 [(0, .ref ah0), (1, .int p0)] := hl
  refine lv_iload_n hx hb dX8_isNode_0 rfl (lv_at hl 1 rfl) ?_
  refine lv_if_lt (tgt := 19) hx hb dX8_isNode_1 (by decide) (fun c1 => ?_) (fun c1 => ?_)
  · refine lv_iconst (v := 0) hx hb dX8_isNode_19 (by decide) ?_
    have hP9 := hP.sub (ws' := [(ah0, .inr (8, [.ref ae0, .int 0, .ref ae1, .ref ae2, .ref ae3, .ref ae4, .ref ae5, .ref ae6, .ref ae7, .ref ae8, .ref ae9, .int (-1), .int (-1)])), (ae3, .inr (4, [.int 0, .ref ae41, .ref ae42, .ref ae43, .ref ae44, .ref ae45]))]) [0, 1] rfl
    have hD9 := hD.sub (ws' := [(ah0, .inr (8, [.ref ae0, .int 0, .ref ae1, .ref ae2, .ref ae3, .ref ae4, .ref ae5, .ref ae6, .ref ae7, .ref ae8, .ref ae9, .int (-1), .int (-1)])), (ae3, .inr (4, [.int 0, .ref ae41, .ref ae42, .ref ae43, .ref ae44, .ref ae45]))]) [0, 1] (by decide) rfl
    have hK9 := hK.sub (tys' := []) [] rfl
    refine W.widen (k := 0) (n := 0) (Nat.le_of_ble_eq_true rfl) (Nat.le_of_ble_eq_true rfl) ?_
    exact W.zret (v := 0) hx hb hr rfl (fun t ht hW => ⟨⟨0, (), rfl, rfl, by rw [ht]; exact hP9, va_K.moved hW.alike hK9, hD9⟩, hS.F ht⟩) hS.2.2 dX8_isNode_20
  · refine lv_iload_n hx hb dX8_isNode_4 rfl (lv_at hl 1 rfl) ?_
    refine lv_aload_n hx hb dX8_isNode_5 rfl (lv_at hl 0 rfl) ?_
    refine va_get (D := (dC, dI)) (ci := 8) (v := .ref ae3) (C := RX8) (T := TX8) (N := 13) hx hb hg inG_X8 hown hK hP 0 rfl rfl 4 (by decide) (hg (.fieldLink RX8 30 "AttributeDesk" "grown" "LAttributeDesk$Tree;") gw_2_164) (fun _ h9 => h9) rfl dX8_isNode_6 ?_
    refine va_get (D := (dC, dI)) (ci := 4) (v := .int 0) (C := RX4) (T := TX4) (N := 6) hx hb hg inG_X4 hown hK hP 1 rfl rfl 0 (by decide) (hg (.fieldLink RX8 99 "AttributeDesk$Tree" "size" "I") gw_1_122) (fun _ h9 => h9) rfl dX8_isNode_9 ?_
    refine lv_icmp_ge (tgt := 19) hx hb dX8_isNode_12 (by decide) (fun _ => ?_) (fun c2 => (nnF c1 c2).elim)
    refine lv_iconst (v := 0) hx hb dX8_isNode_19 (by decide) ?_
    have hP9 := hP.sub (ws' := [(ah0, .inr (8, [.ref ae0, .int 0, .ref ae1, .ref ae2, .ref ae3, .ref ae4, .ref ae5, .ref ae6, .ref ae7, .ref ae8, .ref ae9, .int (-1), .int (-1)])), (ae3, .inr (4, [.int 0, .ref ae41, .ref ae42, .ref ae43, .ref ae44, .ref ae45]))]) [0, 1] rfl
    have hD9 := hD.sub (ws' := [(ah0, .inr (8, [.ref ae0, .int 0, .ref ae1, .ref ae2, .ref ae3, .ref ae4, .ref ae5, .ref ae6, .ref ae7, .ref ae8, .ref ae9, .int (-1), .int (-1)])), (ae3, .inr (4, [.int 0, .ref ae41, .ref ae42, .ref ae43, .ref ae44, .ref ae45]))]) [0, 1] (by decide) rfl
    have hK9 := hK.sub (tys' := []) [] rfl
    refine W.widen (k := 0) (n := 0) (Nat.le_of_ble_eq_true rfl) (Nat.le_of_ble_eq_true rfl) ?_
    exact W.zret (v := 0) hx hb hr rfl (fun t ht hW => ⟨⟨0, (), rfl, rfl, by rw [ht]; exact hP9, va_K.moved hW.alike hK9, hD9⟩, hS.F ht⟩) hS.2.2 dX8_isNode_20

set_option maxHeartbeats 4000000 in
set_option maxRecDepth 100000 in
theorem c_X8_isItem (l : Launch) (dC : Nat → ClassId) (dI : Nat → Nat → Nat) (ah0 ae3 ae0 ae1 ae2 ae4 ae5 ae6 ae7 ae8 ae9 ae41 ae42 ae43 ae44 ae45 : Nat) (sz : Nat) (p0 : Int32) (p1 : Int32) : Met l yX8_isItem wyX8_isItem ({ frames := 1, cells := 0, slots := 0, locals := 21 }) (va_Pc [.ref ah0, .int p0, .int p1] (fun U => U.heap.size = sz ∧ va_P (dC, dI) vwCl [(ah0, .inr (8, [.ref ae0, .int 0, .ref ae1, .ref ae2, .ref ae3, .ref ae4, .ref ae5, .ref ae6, .ref ae7, .ref ae8, .ref ae9, .int (-1), .int (-1)])), (ae3, .inr (4, [.int 0, .ref ae41, .ref ae42, .ref ae43, .ref ae44, .ref ae45]))] U.heap ∧ va_K (dC, dI) vwCl [] U ∧ va_D (fun _ => True) [(ah0, .inr (8, [.ref ae0, .int 0, .ref ae1, .ref ae2, .ref ae3, .ref ae4, .ref ae5, .ref ae6, .ref ae7, .ref ae8, .ref ae9, .int (-1), .int (-1)])), (ae3, .inr (4, [.int 0, .ref ae41, .ref ae42, .ref ae43, .ref ae44, .ref ae45]))])) (va_Qi (fun (r : Int32) (_ : Unit) => r = 0) (fun _ t => va_P (dC, dI) vwCl [(ah0, .inr (8, [.ref ae0, .int 0, .ref ae1, .ref ae2, .ref ae3, .ref ae4, .ref ae5, .ref ae6, .ref ae7, .ref ae8, .ref ae9, .int (-1), .int (-1)])), (ae3, .inr (4, [.int 0, .ref ae41, .ref ae42, .ref ae43, .ref ae44, .ref ae45]))] t.heap ∧ va_K (dC, dI) vwCl [] t ∧ va_D (va_A [(ah0, .inr (8, [.ref ae0, .int 0, .ref ae1, .ref ae2, .ref ae3, .ref ae4, .ref ae5, .ref ae6, .ref ae7, .ref ae8, .ref ae9, .int (-1), .int (-1)])), (ae3, .inr (4, [.int 0, .ref ae41, .ref ae42, .ref ae43, .ref ae44, .ref ae45]))] sz) [(ah0, .inr (8, [.ref ae0, .int 0, .ref ae1, .ref ae2, .ref ae3, .ref ae4, .ref ae5, .ref ae6, .ref ae7, .ref ae8, .ref ae9, .int (-1), .int (-1)])), (ae3, .inr (4, [.int 0, .ref ae41, .ref ae42, .ref ae43, .ref ae44, .ref ae45]))]) (va_A [(ah0, .inr (8, [.ref ae0, .int 0, .ref ae1, .ref ae2, .ref ae3, .ref ae4, .ref ae5, .ref ae6, .ref ae7, .ref ae8, .ref ae9, .int (-1), .int (-1)])), (ae3, .inr (4, [.int 0, .ref ae41, .ref ae42, .ref ae43, .ref ae44, .ref ae45]))] sz)) 0 0 (va_A [(ah0, .inr (8, [.ref ae0, .int 0, .ref ae1, .ref ae2, .ref ae3, .ref ae4, .ref ae5, .ref ae6, .ref ae7, .ref ae8, .ref ae9, .int (-1), .int (-1)])), (ae3, .inr (4, [.int 0, .ref ae41, .ref ae42, .ref ae43, .ref ae44, .ref ae45]))] sz) := by
  refine Met.ofW (cc := cX8_isItem) (maxL := 3) (ret := (some .boolean)) (by decide) rfl ?_
  intro p e s m args below meth c s₁ B hml hv
  obtain ⟨rfl, hsz, hP, hK, hD0⟩ := hv
  have hx := B.exec
  have hb := B.bytes
  have hr := B.returns
  have hts := atoms_spec (ws := wyX8_isItem) B.pre
  have hg : ∀ w ∈ lw_G, w.before _ s = true := fun w h => hts w (List.mem_cons_of_mem _ h)
  have hown : s.vm.findClass RX8 = some m.cls := findClass_of_methodNamed B.named
  have hlocks := B.notSynchronized
  subst hsz
  have hD := hD0.self (sz := s.heap.size)
  generalize hAe : va_A [(ah0, .inr (8, [.ref ae0, .int 0, .ref ae1, .ref ae2, .ref ae3, .ref ae4, .ref ae5, .ref ae6, .ref ae7, .ref ae8, .ref ae9, .int (-1), .int (-1)])), (ae3, .inr (4, [.int 0, .ref ae41, .ref ae42, .ref ae43, .ref ae44, .ref ae45]))] s.heap.size = A at hD ⊢
  have hA : ∀ q : Nat, s.heap.size ≤ q → A q := fun q h => by rw [← hAe]; exact Or.inr h
  have hS : va_S A s.heap s.heap [] := va_S.rf
  have hP : va_P (dC, dI) vwCl [(ah0, .inr (8, [.ref ae0, .int 0, .ref ae1, .ref ae2, .ref ae3, .ref ae4, .ref ae5, .ref ae6, .ref ae7, .ref ae8, .ref ae9, .int (-1), .int (-1)])), (ae3, .inr (4, [.int 0, .ref ae41, .ref ae42, .ref ae43, .ref ae44, .ref ae45]))] s.heap := hP
  have hl := lv_entry ([.ref ah0, .int p0, .int p1]) (n := 3) (Nat.le_of_ble_eq_true rfl)
  rw [lg_entry_eq]
  generalize (lg_sl ([.ref ah0, .int p0, .int p1]) ++ List.replicate (3 - (lg_sl ([.ref ah0, .int p0, .int p1])).length) Slot.unset).toArray = ls at hl ⊢
  have hl : lv_has ls 3 [(0, .ref ah0), (1, .int p0), (2, .int p1)] := hl
  refine lv_aload_n hx hb dX8_isItem_0 rfl (lv_at hl 0 rfl) ?_
  refine lv_iload_n hx hb dX8_isItem_1 rfl (lv_at hl 1 rfl) ?_
  have hPc := hP.sub (ws' := [(ah0, .inr (8, [.ref ae0, .int 0, .ref ae1, .ref ae2, .ref ae3, .ref ae4, .ref ae5, .ref ae6, .ref ae7, .ref ae8, .ref ae9, .int (-1), .int (-1)])), (ae3, .inr (4, [.int 0, .ref ae41, .ref ae42, .ref ae43, .ref ae44, .ref ae45]))]) [0, 1] rfl
  have hDc := hD.sub (ws' := [(ah0, .inr (8, [.ref ae0, .int 0, .ref ae1, .ref ae2, .ref ae3, .ref ae4, .ref ae5, .ref ae6, .ref ae7, .ref ae8, .ref ae9, .int (-1), .int (-1)])), (ae3, .inr (4, [.int 0, .ref ae41, .ref ae42, .ref ae43, .ref ae44, .ref ae45]))]) [0, 1] (by decide) rfl
  have hKc := hK.sub (tys' := []) [] rfl
  have hFc := va_free (wc := [(ah0, .inr (8, [.ref ae0, .int 0, .ref ae1, .ref ae2, .ref ae3, .ref ae4, .ref ae5, .ref ae6, .ref ae7, .ref ae8, .ref ae9, .int (-1), .int (-1)])), (ae3, .inr (4, [.int 0, .ref ae41, .ref ae42, .ref ae43, .ref ae44, .ref ae45]))]) hD hS hA [0, 1] rfl
  refine va_calli (va_runV (As := [.int p0]) (rest := []) ⟨hx, hb, hml, hown, hg⟩ (c_X8_isNode l dC dI ah0 ae3 ae0 ae1 ae2 ae4 ae5 ae6 ae7 ae8 ae9 ae41 ae42 ae43 ae44 ae45 s.heap.size p0) (cwV 1 hg gc_X8_167 rfl rfl rfl (by decide +kernel) ⟨Nat.le_of_ble_eq_true rfl, Nat.le_of_ble_eq_true rfl⟩) ⟨fun a U g mk q => by obtain ⟨q0, q1, qP, qK, qD⟩ := q; exact ⟨q0, q1, qP, va_K.moved (u := U) (U := U.calling g mk a) (Vm.Alike.refl U.vm) qK, qD⟩, va_recv hKc hPc (ci := 8) (q0 := 0) rfl rfl, fun U hU hW => ⟨rfl, by rw [hU], by rw [hU]; exact hPc, va_K.moved hW.alike hKc, hDc.weaken (fun _ _ _ _ => trivial)⟩⟩ rfl rfl hl.1 rfl (lv_room (Nat.le_of_ble_eq_true rfl)) dX8_isItem_2 ⟨Nat.le_of_ble_eq_true rfl, Nat.le_of_ble_eq_true rfl⟩) hS (fun q _ h => hFc q h) hFc (fun r1 u2 t H1 locs ht hvm hw2 hB hz1 hk1 hS => ?_)
  obtain ⟨hP1, hK1, hD1⟩ := hB
  rw [ht] at hP1
  have hK1 := va_K.moved hvm.symm hK1
  obtain ⟨hP, hD⟩ := va_join (wr := []) (w1 := [(ah0, .inr (8, [.ref ae0, .int 0, .ref ae1, .ref ae2, .ref ae3, .ref ae4, .ref ae5, .ref ae6, .ref ae7, .ref ae8, .ref ae9, .int (-1), .int (-1)])), (ae3, .inr (4, [.int 0, .ref ae41, .ref ae42, .ref ae43, .ref ae44, .ref ae45]))]) hP hD [0, 1] [] rfl rfl (by decide) (by decide) hk1 hFc hP1 hD1
  have hK := (hK.sub (tys' := []) [] rfl).app hK1
  generalize H1 = H at hP hS ⊢
  have hP : va_P (dC, dI) vwCl [(ah0, .inr (8, [.ref ae0, .int 0, .ref ae1, .ref ae2, .ref ae3, .ref ae4, .ref ae5, .ref ae6, .ref ae7, .ref ae8, .ref ae9, .int (-1), .int (-1)])), (ae3, .inr (4, [.int 0, .ref ae41, .ref ae42, .ref ae43, .ref ae44, .ref ae45]))] H := hP
  have hD : va_D A [(ah0, .inr (8, [.ref ae0, .int 0, .ref ae1, .ref ae2, .ref ae3, .ref ae4, .ref ae5, .ref ae6, .ref ae7, .ref ae8, .ref ae9, .int (-1), .int (-1)])), (ae3, .inr (4, [.int 0, .ref ae41, .ref ae42, .ref ae43, .ref ae44, .ref ae45]))] := hD
  have hK : va_K (dC, dI) vwCl [] s := hK
  obtain rfl : r1 = 0 := hw2
  refine lv_if_eq (tgt := 33) hx hb dX8_isItem_5 (by decide) (fun _ => ?_) (fun c3 => absurd c3 (by decide))
  refine lv_iconst (v := 0) hx hb dX8_isItem_33 (by decide) ?_
  have hP9 := hP.sub (ws' := [(ah0, .inr (8, [.ref ae0, .int 0, .ref ae1, .ref ae2, .ref ae3, .ref ae4, .ref ae5, .ref ae6, .ref ae7, .ref ae8, .ref ae9, .int (-1), .int (-1)])), (ae3, .inr (4, [.int 0, .ref ae41, .ref ae42, .ref ae43, .ref ae44, .ref ae45]))]) [0, 1] rfl
  have hD9 := hD.sub (ws' := [(ah0, .inr (8, [.ref ae0, .int 0, .ref ae1, .ref ae2, .ref ae3, .ref ae4, .ref ae5, .ref ae6, .ref ae7, .ref ae8, .ref ae9, .int (-1), .int (-1)])), (ae3, .inr (4, [.int 0, .ref ae41, .ref ae42, .ref ae43, .ref ae44, .ref ae45]))]) [0, 1] (by decide) rfl
  have hK9 := hK.sub (tys' := []) [] rfl
  refine W.widen (k := 0) (n := 0) (Nat.le_of_ble_eq_true rfl) (Nat.le_of_ble_eq_true rfl) ?_
  exact W.zret (v := 0) hx hb hr rfl (fun t ht hW => ⟨⟨0, (), rfl, rfl, by rw [ht]; exact hP9, va_K.moved hW.alike hK9, hD9⟩, hS.F ht⟩) hS.2.2 dX8_isItem_34

set_option maxHeartbeats 4000000 in
set_option maxRecDepth 100000 in
theorem c_X8_node (l : Launch) (dC : Nat → ClassId) (dI : Nat → Nat → Nat) (ah0 ae3 ae0 ae1 ae2 ae4 ae5 ae6 ae7 ae8 ae9 ae41 ae42 ae43 ae44 ae45 : Nat) (sz : Nat) (p0 : Int32) (p1 : Int32) : Met l yX8_node wyX8_node ({ frames := 1, cells := 0, slots := 0, locals := 21 }) (va_Pc [.ref ah0, .int p0, .int p1] (fun U => U.heap.size = sz ∧ va_P (dC, dI) vwCl [(ah0, .inr (8, [.ref ae0, .int 0, .ref ae1, .ref ae2, .ref ae3, .ref ae4, .ref ae5, .ref ae6, .ref ae7, .ref ae8, .ref ae9, .int (-1), .int (-1)])), (ae3, .inr (4, [.int 0, .ref ae41, .ref ae42, .ref ae43, .ref ae44, .ref ae45]))] U.heap ∧ va_K (dC, dI) vwCl [] U ∧ va_D (fun _ => True) [(ah0, .inr (8, [.ref ae0, .int 0, .ref ae1, .ref ae2, .ref ae3, .ref ae4, .ref ae5, .ref ae6, .ref ae7, .ref ae8, .ref ae9, .int (-1), .int (-1)])), (ae3, .inr (4, [.int 0, .ref ae41, .ref ae42, .ref ae43, .ref ae44, .ref ae45]))])) (va_Qi (fun (r : Int32) (_ : Unit) => r = (-1)) (fun _ t => va_P (dC, dI) vwCl [(ah0, .inr (8, [.ref ae0, .int 0, .ref ae1, .ref ae2, .ref ae3, .ref ae4, .ref ae5, .ref ae6, .ref ae7, .ref ae8, .ref ae9, .int (-1), .int (-1)])), (ae3, .inr (4, [.int 0, .ref ae41, .ref ae42, .ref ae43, .ref ae44, .ref ae45]))] t.heap ∧ va_K (dC, dI) vwCl [] t ∧ va_D (va_A [(ah0, .inr (8, [.ref ae0, .int 0, .ref ae1, .ref ae2, .ref ae3, .ref ae4, .ref ae5, .ref ae6, .ref ae7, .ref ae8, .ref ae9, .int (-1), .int (-1)])), (ae3, .inr (4, [.int 0, .ref ae41, .ref ae42, .ref ae43, .ref ae44, .ref ae45]))] sz) [(ah0, .inr (8, [.ref ae0, .int 0, .ref ae1, .ref ae2, .ref ae3, .ref ae4, .ref ae5, .ref ae6, .ref ae7, .ref ae8, .ref ae9, .int (-1), .int (-1)])), (ae3, .inr (4, [.int 0, .ref ae41, .ref ae42, .ref ae43, .ref ae44, .ref ae45]))]) (va_A [(ah0, .inr (8, [.ref ae0, .int 0, .ref ae1, .ref ae2, .ref ae3, .ref ae4, .ref ae5, .ref ae6, .ref ae7, .ref ae8, .ref ae9, .int (-1), .int (-1)])), (ae3, .inr (4, [.int 0, .ref ae41, .ref ae42, .ref ae43, .ref ae44, .ref ae45]))] sz)) 0 0 (va_A [(ah0, .inr (8, [.ref ae0, .int 0, .ref ae1, .ref ae2, .ref ae3, .ref ae4, .ref ae5, .ref ae6, .ref ae7, .ref ae8, .ref ae9, .int (-1), .int (-1)])), (ae3, .inr (4, [.int 0, .ref ae41, .ref ae42, .ref ae43, .ref ae44, .ref ae45]))] sz) := by
  refine Met.ofW (cc := cX8_node) (maxL := 3) (ret := (some .int)) (by decide) rfl ?_
  intro p e s m args below meth c s₁ B hml hv
  obtain ⟨rfl, hsz, hP, hK, hD0⟩ := hv
  have hx := B.exec
  have hb := B.bytes
  have hr := B.returns
  have hts := atoms_spec (ws := wyX8_node) B.pre
  have hg : ∀ w ∈ lw_G, w.before _ s = true := fun w h => hts w (List.mem_cons_of_mem _ h)
  have hown : s.vm.findClass RX8 = some m.cls := findClass_of_methodNamed B.named
  have hlocks := B.notSynchronized
  subst hsz
  have hD := hD0.self (sz := s.heap.size)
  generalize hAe : va_A [(ah0, .inr (8, [.ref ae0, .int 0, .ref ae1, .ref ae2, .ref ae3, .ref ae4, .ref ae5, .ref ae6, .ref ae7, .ref ae8, .ref ae9, .int (-1), .int (-1)])), (ae3, .inr (4, [.int 0, .ref ae41, .ref ae42, .ref ae43, .ref ae44, .ref ae45]))] s.heap.size = A at hD ⊢
  have hA : ∀ q : Nat, s.heap.size ≤ q → A q := fun q h => by rw [← hAe]; exact Or.inr h
  have hS : va_S A s.heap s.heap [] := va_S.rf
  have hP : va_P (dC, dI) vwCl [(ah0, .inr (8, [.ref ae0, .int 0, .ref ae1, .ref ae2, .ref ae3, .ref ae4, .ref ae5, .ref ae6, .ref ae7, .ref ae8, .ref ae9, .int (-1), .int (-1)])), (ae3, .inr (4, [.int 0, .ref ae41, .ref ae42, .ref ae43, .ref ae44, .ref ae45]))] s.heap := hP
  have hl := lv_entry ([.ref ah0, .int p0, .int p1]) (n := 3) (Nat.le_of_ble_eq_true rfl)
  rw [lg_entry_eq]
  generalize (lg_sl ([.ref ah0, .int p0, .int p1]) ++ List.replicate (3 - (lg_sl ([.ref ah0, .int p0, .int p1])).length) Slot.unset).toArray = ls at hl ⊢
  have hl : lv_has ls 3 [(0, .ref ah0), (1, .int p0), (2, .int p1)] := hl
  refine lv_aload_n hx hb dX8_node_0 rfl (lv_at hl 0 rfl) ?_
  refine lv_iload_n hx hb dX8_node_1 rfl (lv_at hl 1 rfl) ?_
  have hPc := hP.sub (ws' := [(ah0, .inr (8, [.ref ae0, .int 0, .ref ae1, .ref ae2, .ref ae3, .ref ae4, .ref ae5, .ref ae6, .ref ae7, .ref ae8, .ref ae9, .int (-1), .int (-1)])), (ae3, .inr (4, [.int 0, .ref ae41, .ref ae42, .ref ae43, .ref ae44, .ref ae45]))]) [0, 1] rfl
  have hDc := hD.sub (ws' := [(ah0, .inr (8, [.ref ae0, .int 0, .ref ae1, .ref ae2, .ref ae3, .ref ae4, .ref ae5, .ref ae6, .ref ae7, .ref ae8, .ref ae9, .int (-1), .int (-1)])), (ae3, .inr (4, [.int 0, .ref ae41, .ref ae42, .ref ae43, .ref ae44, .ref ae45]))]) [0, 1] (by decide) rfl
  have hKc := hK.sub (tys' := []) [] rfl
  have hFc := va_free (wc := [(ah0, .inr (8, [.ref ae0, .int 0, .ref ae1, .ref ae2, .ref ae3, .ref ae4, .ref ae5, .ref ae6, .ref ae7, .ref ae8, .ref ae9, .int (-1), .int (-1)])), (ae3, .inr (4, [.int 0, .ref ae41, .ref ae42, .ref ae43, .ref ae44, .ref ae45]))]) hD hS hA [0, 1] rfl
  refine va_calli (va_runV (As := [.int p0]) (rest := []) ⟨hx, hb, hml, hown, hg⟩ (c_X8_isNode l dC dI ah0 ae3 ae0 ae1 ae2 ae4 ae5 ae6 ae7 ae8 ae9 ae41 ae42 ae43 ae44 ae45 s.heap.size p0) (cwV 1 hg gc_X8_167 rfl rfl rfl (by decide +kernel) ⟨Nat.le_of_ble_eq_true rfl, Nat.le_of_ble_eq_true rfl⟩) ⟨fun a U g mk q => by obtain ⟨q0, q1, qP, qK, qD⟩ := q; exact ⟨q0, q1, qP, va_K.moved (u := U) (U := U.calling g mk a) (Vm.Alike.refl U.vm) qK, qD⟩, va_recv hKc hPc (ci := 8) (q0 := 0) rfl rfl, fun U hU hW => ⟨rfl, by rw [hU], by rw [hU]; exact hPc, va_K.moved hW.alike hKc, hDc.weaken (fun _ _ _ _ => trivial)⟩⟩ rfl rfl hl.1 rfl (lv_room (Nat.le_of_ble_eq_true rfl)) dX8_node_2 ⟨Nat.le_of_ble_eq_true rfl, Nat.le_of_ble_eq_true rfl⟩) hS (fun q _ h => hFc q h) hFc (fun r1 u2 t H1 locs ht hvm hw2 hB hz1 hk1 hS => ?_)
  obtain ⟨hP1, hK1, hD1⟩ := hB
  rw [ht] at hP1
  have hK1 := va_K.moved hvm.symm hK1
  obtain ⟨hP, hD⟩ := va_join (wr := []) (w1 := [(ah0, .inr (8, [.ref ae0, .int 0, .ref ae1, .ref ae2, .ref ae3, .ref ae4, .ref ae5, .ref ae6, .ref ae7, .ref ae8, .ref ae9, .int (-1), .int (-1)])), (ae3, .inr (4, [.int 0, .ref ae41, .ref ae42, .ref ae43, .ref ae44, .ref ae45]))]) hP hD [0, 1] [] rfl rfl (by decide) (by decide) hk1 hFc hP1 hD1
  have hK := (hK.sub (tys' := []) [] rfl).app hK1
  generalize H1 = H at hP hS ⊢
  have hP : va_P (dC, dI) vwCl [(ah0, .inr (8, [.ref ae0, .int 0, .ref ae1, .ref ae2, .ref ae3, .ref ae4, .ref ae5, .ref ae6, .ref ae7, .ref ae8, .ref ae9, .int (-1), .int (-1)])), (ae3, .inr (4, [.int 0, .ref ae41, .ref ae42, .ref ae43, .ref ae44, .ref ae45]))] H := hP
  have hD : va_D A [(ah0, .inr (8, [.ref ae0, .int 0, .ref ae1, .ref ae2, .ref ae3, .ref ae4, .ref ae5, .ref ae6, .ref ae7, .ref ae8, .ref ae9, .int (-1), .int (-1)])), (ae3, .inr (4, [.int 0, .ref ae41, .ref ae42, .ref ae43, .ref ae44, .ref ae45]))] := hD
  have hK : va_K (dC, dI) vwCl [] s := hK
  obtain rfl : r1 = 0 := hw2
  refine lv_if_ne (tgt := 10) hx hb dX8_node_5 (by decide) (fun c3 => absurd c3 (by decide)) (fun _ => ?_)
  refine lv_iconst (v := (-1)) hx hb dX8_node_8 (by decide) ?_
  have hP9 := hP.sub (ws' := [(ah0, .inr (8, [.ref ae0, .int 0, .ref ae1, .ref ae2, .ref ae3, .ref ae4, .ref ae5, .ref ae6, .ref ae7, .ref ae8, .ref ae9, .int (-1), .int (-1)])), (ae3, .inr (4, [.int 0, .ref ae41, .ref ae42, .ref ae43, .ref ae44, .ref ae45]))]) [0, 1] rfl
  have hD9 := hD.sub (ws' := [(ah0, .inr (8, [.ref ae0, .int 0, .ref ae1, .ref ae2, .ref ae3, .ref ae4, .ref ae5, .ref ae6, .ref ae7, .ref ae8, .ref ae9, .int (-1), .int (-1)])), (ae3, .inr (4, [.int 0, .ref ae41, .ref ae42, .ref ae43, .ref ae44, .ref ae45]))]) [0, 1] (by decide) rfl
  have hK9 := hK.sub (tys' := []) [] rfl
  refine W.widen (k := 0) (n := 0) (Nat.le_of_ble_eq_true rfl) (Nat.le_of_ble_eq_true rfl) ?_
  exact W.iret (v := (-1)) hx hb hr (fun t ht hW => ⟨⟨(-1), (), rfl, rfl, by rw [ht]; exact hP9, va_K.moved hW.alike hK9, hD9⟩, hS.F ht⟩) hS.2.2 dX8_node_9

set_option maxHeartbeats 4000000 in
set_option maxRecDepth 100000 in
theorem c_X8_own (l : Launch) (dC : Nat → ClassId) (dI : Nat → Nat → Nat) (ah0 ae3 ae0 ae1 ae2 ae4 ae5 ae6 ae7 ae8 ae9 ae41 ae42 ae43 ae44 ae45 : Nat) (sz : Nat) (p0 : Int32) (p1 : Int32) : Met l yX8_own wyX8_own ({ frames := 1, cells := 0, slots := 0, locals := 21 }) (va_Pc [.ref ah0, .int p0, .int p1] (fun U => U.heap.size = sz ∧ va_P (dC, dI) vwCl [(ah0, .inr (8, [.ref ae0, .int 0, .ref ae1, .ref ae2, .ref ae3, .ref ae4, .ref ae5, .ref ae6, .ref ae7, .ref ae8, .ref ae9, .int (-1), .int (-1)])), (ae3, .inr (4, [.int 0, .ref ae41, .ref ae42, .ref ae43, .ref ae44, .ref ae45]))] U.heap ∧ va_K (dC, dI) vwCl [] U ∧ va_D (fun _ => True) [(ah0, .inr (8, [.ref ae0, .int 0, .ref ae1, .ref ae2, .ref ae3, .ref ae4, .ref ae5, .ref ae6, .ref ae7, .ref ae8, .ref ae9, .int (-1), .int (-1)])), (ae3, .inr (4, [.int 0, .ref ae41, .ref ae42, .ref ae43, .ref ae44, .ref ae45]))])) (va_Qi (fun (r : Int32) (_ : Unit) => r = 0) (fun _ t => va_P (dC, dI) vwCl [(ah0, .inr (8, [.ref ae0, .int 0, .ref ae1, .ref ae2, .ref ae3, .ref ae4, .ref ae5, .ref ae6, .ref ae7, .ref ae8, .ref ae9, .int (-1), .int (-1)])), (ae3, .inr (4, [.int 0, .ref ae41, .ref ae42, .ref ae43, .ref ae44, .ref ae45]))] t.heap ∧ va_K (dC, dI) vwCl [] t ∧ va_D (va_A [(ah0, .inr (8, [.ref ae0, .int 0, .ref ae1, .ref ae2, .ref ae3, .ref ae4, .ref ae5, .ref ae6, .ref ae7, .ref ae8, .ref ae9, .int (-1), .int (-1)])), (ae3, .inr (4, [.int 0, .ref ae41, .ref ae42, .ref ae43, .ref ae44, .ref ae45]))] sz) [(ah0, .inr (8, [.ref ae0, .int 0, .ref ae1, .ref ae2, .ref ae3, .ref ae4, .ref ae5, .ref ae6, .ref ae7, .ref ae8, .ref ae9, .int (-1), .int (-1)])), (ae3, .inr (4, [.int 0, .ref ae41, .ref ae42, .ref ae43, .ref ae44, .ref ae45]))]) (va_A [(ah0, .inr (8, [.ref ae0, .int 0, .ref ae1, .ref ae2, .ref ae3, .ref ae4, .ref ae5, .ref ae6, .ref ae7, .ref ae8, .ref ae9, .int (-1), .int (-1)])), (ae3, .inr (4, [.int 0, .ref ae41, .ref ae42, .ref ae43, .ref ae44, .ref ae45]))] sz)) 0 0 (va_A [(ah0, .inr (8, [.ref ae0, .int 0, .ref ae1, .ref ae2, .ref ae3, .ref ae4, .ref ae5, .ref ae6, .ref ae7, .ref ae8, .ref ae9, .int (-1), .int (-1)])), (ae3, .inr (4, [.int 0, .ref ae41, .ref ae42, .ref ae43, .ref ae44, .ref ae45]))] sz) := by
  refine Met.ofW (cc := cX8_own) (maxL := 3) (ret := (some .boolean)) (by decide) rfl ?_
  intro p e s m args below meth c s₁ B hml hv
  obtain ⟨rfl, hsz, hP, hK, hD0⟩ := hv
  have hx := B.exec
  have hb := B.bytes
  have hr := B.returns
  have hts := atoms_spec (ws := wyX8_own) B.pre
  have hg : ∀ w ∈ lw_G, w.before _ s = true := fun w h => hts w (List.mem_cons_of_mem _ h)
  have hown : s.vm.findClass RX8 = some m.cls := findClass_of_methodNamed B.named
  have hlocks := B.notSynchronized
  subst hsz
  have hD := hD0.self (sz := s.heap.size)
  generalize hAe : va_A [(ah0, .inr (8, [.ref ae0, .int 0, .ref ae1, .ref ae2, .ref ae3, .ref ae4, .ref ae5, .ref ae6, .ref ae7, .ref ae8, .ref ae9, .int (-1), .int (-1)])), (ae3, .inr (4, [.int 0, .ref ae41, .ref ae42, .ref ae43, .ref ae44, .ref ae45]))] s.heap.size = A at hD ⊢
  have hA : ∀ q : Nat, s.heap.size ≤ q → A q := fun q h => by rw [← hAe]; exact Or.inr h
  have hS : va_S A s.heap s.heap [] := va_S.rf
  have hP : va_P (dC, dI) vwCl [(ah0, .inr (8, [.ref ae0, .int 0, .ref ae1, .ref ae2, .ref ae3, .ref ae4, .ref ae5, .ref ae6, .ref ae7, .ref ae8, .ref ae9, .int (-1), .int (-1)])), (ae3, .inr (4, [.int 0, .ref ae41, .ref ae42, .ref ae43, .ref ae44, .ref ae45]))] s.heap := hP
  have hl := lv_entry ([.ref ah0, .int p0, .int p1]) (n := 3) (Nat.le_of_ble_eq_true rfl)
  rw [lg_entry_eq]
  generalize (lg_sl ([.ref ah0, .int p0, .int p1]) ++ List.replicate (3 - (lg_sl ([.ref ah0, .int p0, .int p1])).length) Slot.unset).toArray = ls at hl ⊢
  have hl : lv_has ls 3 [(0, .ref ah0), (1, .int p0), (2, .int p1)] := hl
  refine lv_aload_n hx hb dX8_own_0 rfl (lv_at hl 0 rfl) ?_
  refine lv_iload_n hx hb dX8_own_1 rfl (lv_at hl 1 rfl) ?_
  have hPc := hP.sub (ws' := [(ah0, .inr (8, [.ref ae0, .int 0, .ref ae1, .ref ae2, .ref ae3, .ref ae4, .ref ae5, .ref ae6, .ref ae7, .ref ae8, .ref ae9, .int (-1), .int (-1)])), (ae3, .inr (4, [.int 0, .ref ae41, .ref ae42, .ref ae43, .ref ae44, .ref ae45]))]) [0, 1] rfl
  have hDc := hD.sub (ws' := [(ah0, .inr (8, [.ref ae0, .int 0, .ref ae1, .ref ae2, .ref ae3, .ref ae4, .ref ae5, .ref ae6, .ref ae7, .ref ae8, .ref ae9, .int (-1), .int (-1)])), (ae3, .inr (4, [.int 0, .ref ae41, .ref ae42, .ref ae43, .ref ae44, .ref ae45]))]) [0, 1] (by decide) rfl
  have hKc := hK.sub (tys' := []) [] rfl
  have hFc := va_free (wc := [(ah0, .inr (8, [.ref ae0, .int 0, .ref ae1, .ref ae2, .ref ae3, .ref ae4, .ref ae5, .ref ae6, .ref ae7, .ref ae8, .ref ae9, .int (-1), .int (-1)])), (ae3, .inr (4, [.int 0, .ref ae41, .ref ae42, .ref ae43, .ref ae44, .ref ae45]))]) hD hS hA [0, 1] rfl
  refine va_calli (va_runV (As := [.int p0]) (rest := []) ⟨hx, hb, hml, hown, hg⟩ (c_X8_isNode l dC dI ah0 ae3 ae0 ae1 ae2 ae4 ae5 ae6 ae7 ae8 ae9 ae41 ae42 ae43 ae44 ae45 s.heap.size p0) (cwV 1 hg gc_X8_167 rfl rfl rfl (by decide +kernel) ⟨Nat.le_of_ble_eq_true rfl, Nat.le_of_ble_eq_true rfl⟩) ⟨fun a U g mk q => by obtain ⟨q0, q1, qP, qK, qD⟩ := q; exact ⟨q0, q1, qP, va_K.moved (u := U) (U := U.calling g mk a) (Vm.Alike.refl U.vm) qK, qD⟩, va_recv hKc hPc (ci := 8) (q0 := 0) rfl rfl, fun U hU hW => ⟨rfl, by rw [hU], by rw [hU]; exact hPc, va_K.moved hW.alike hKc, hDc.weaken (fun _ _ _ _ => trivial)⟩⟩ rfl rfl hl.1 rfl (lv_room (Nat.le_of_ble_eq_true rfl)) dX8_own_2 ⟨Nat.le_of_ble_eq_true rfl, Nat.le_of_ble_eq_true rfl⟩) hS (fun q _ h => hFc q h) hFc (fun r1 u2 t H1 locs ht hvm hw2 hB hz1 hk1 hS => ?_)
  obtain ⟨hP1, hK1, hD1⟩ := hB
  rw [ht] at hP1
  have hK1 := va_K.moved hvm.symm hK1
  obtain ⟨hP, hD⟩ := va_join (wr := []) (w1 := [(ah0, .inr (8, [.ref ae0, .int 0, .ref ae1, .ref ae2, .ref ae3, .ref ae4, .ref ae5, .ref ae6, .ref ae7, .ref ae8, .ref ae9, .int (-1), .int (-1)])), (ae3, .inr (4, [.int 0, .ref ae41, .ref ae42, .ref ae43, .ref ae44, .ref ae45]))]) hP hD [0, 1] [] rfl rfl (by decide) (by decide) hk1 hFc hP1 hD1
  have hK := (hK.sub (tys' := []) [] rfl).app hK1
  generalize H1 = H at hP hS ⊢
  have hP : va_P (dC, dI) vwCl [(ah0, .inr (8, [.ref ae0, .int 0, .ref ae1, .ref ae2, .ref ae3, .ref ae4, .ref ae5, .ref ae6, .ref ae7, .ref ae8, .ref ae9, .int (-1), .int (-1)])), (ae3, .inr (4, [.int 0, .ref ae41, .ref ae42, .ref ae43, .ref ae44, .ref ae45]))] H := hP
  have hD : va_D A [(ah0, .inr (8, [.ref ae0, .int 0, .ref ae1, .ref ae2, .ref ae3, .ref ae4, .ref ae5, .ref ae6, .ref ae7, .ref ae8, .ref ae9, .int (-1), .int (-1)])), (ae3, .inr (4, [.int 0, .ref ae41, .ref ae42, .ref ae43, .ref ae44, .ref ae45]))] := hD
  have hK : va_K (dC, dI) vwCl [] s := hK
  obtain rfl : r1 = 0 := hw2
  refine lv_if_ne (tgt := 10) hx hb dX8_own_5 (by decide) (fun c3 => absurd c3 (by decide)) (fun _ => ?_)
  refine lv_iconst (v := 0) hx hb dX8_own_8 (by decide) ?_
  have hP9 := hP.sub (ws' := [(ah0, .inr (8, [.ref ae0, .int 0, .ref ae1, .ref ae2, .ref ae3, .ref ae4, .ref ae5, .ref ae6, .ref ae7, .ref ae8, .ref ae9, .int (-1), .int (-1)])), (ae3, .inr (4, [.int 0, .ref ae41, .ref ae42, .ref ae43, .ref ae44, .ref ae45]))]) [0, 1] rfl
  have hD9 := hD.sub (ws' := [(ah0, .inr (8, [.ref ae0, .int 0, .ref ae1, .ref ae2, .ref ae3, .ref ae4, .ref ae5, .ref ae6, .ref ae7, .ref ae8, .ref ae9, .int (-1), .int (-1)])), (ae3, .inr (4, [.int 0, .ref ae41, .ref ae42, .ref ae43, .ref ae44, .ref ae45]))]) [0, 1] (by decide) rfl
  have hK9 := hK.sub (tys' := []) [] rfl
  refine W.widen (k := 0) (n := 0) (Nat.le_of_ble_eq_true rfl) (Nat.le_of_ble_eq_true rfl) ?_
  exact W.zret (v := 0) hx hb hr rfl (fun t ht hW => ⟨⟨0, (), rfl, rfl, by rw [ht]; exact hP9, va_K.moved hW.alike hK9, hD9⟩, hS.F ht⟩) hS.2.2 dX8_own_9

set_option maxHeartbeats 4000000 in
set_option maxRecDepth 100000 in
theorem c_X8_demand (l : Launch) (dC : Nat → ClassId) (dI : Nat → Nat → Nat) (ah0 ae3 ae0 ae1 ae2 ae4 ae5 ae6 ae7 ae8 ae9 ae41 ae42 ae43 ae44 ae45 : Nat) (sz : Nat) (p0 : Int32) (p1 : Int32) : Met l yX8_demand wyX8_demand ({ frames := 2, cells := 0, slots := 0, locals := 43 }) (va_Pc [.ref ah0, .int p0, .int p1] (fun U => U.heap.size = sz ∧ va_P (dC, dI) vwCl [(ah0, .inr (8, [.ref ae0, .int 0, .ref ae1, .ref ae2, .ref ae3, .ref ae4, .ref ae5, .ref ae6, .ref ae7, .ref ae8, .ref ae9, .int (-1), .int (-1)])), (ae3, .inr (4, [.int 0, .ref ae41, .ref ae42, .ref ae43, .ref ae44, .ref ae45]))] U.heap ∧ va_K (dC, dI) vwCl [] U ∧ va_D (fun _ => True) [(ah0, .inr (8, [.ref ae0, .int 0, .ref ae1, .ref ae2, .ref ae3, .ref ae4, .ref ae5, .ref ae6, .ref ae7, .ref ae8, .ref ae9, .int (-1), .int (-1)])), (ae3, .inr (4, [.int 0, .ref ae41, .ref ae42, .ref ae43, .ref ae44, .ref ae45]))])) (va_Qi (fun (r : Int32) (_ : Unit) => r = (-1)) (fun _ t => va_P (dC, dI) vwCl [(ah0, .inr (8, [.ref ae0, .int 0, .ref ae1, .ref ae2, .ref ae3, .ref ae4, .ref ae5, .ref ae6, .ref ae7, .ref ae8, .ref ae9, .int (-1), .int (-1)])), (ae3, .inr (4, [.int 0, .ref ae41, .ref ae42, .ref ae43, .ref ae44, .ref ae45]))] t.heap ∧ va_K (dC, dI) vwCl [] t ∧ va_D (va_A [(ah0, .inr (8, [.ref ae0, .int 0, .ref ae1, .ref ae2, .ref ae3, .ref ae4, .ref ae5, .ref ae6, .ref ae7, .ref ae8, .ref ae9, .int (-1), .int (-1)])), (ae3, .inr (4, [.int 0, .ref ae41, .ref ae42, .ref ae43, .ref ae44, .ref ae45]))] sz) [(ah0, .inr (8, [.ref ae0, .int 0, .ref ae1, .ref ae2, .ref ae3, .ref ae4, .ref ae5, .ref ae6, .ref ae7, .ref ae8, .ref ae9, .int (-1), .int (-1)])), (ae3, .inr (4, [.int 0, .ref ae41, .ref ae42, .ref ae43, .ref ae44, .ref ae45]))]) (va_A [(ah0, .inr (8, [.ref ae0, .int 0, .ref ae1, .ref ae2, .ref ae3, .ref ae4, .ref ae5, .ref ae6, .ref ae7, .ref ae8, .ref ae9, .int (-1), .int (-1)])), (ae3, .inr (4, [.int 0, .ref ae41, .ref ae42, .ref ae43, .ref ae44, .ref ae45]))] sz)) 0 0 (va_A [(ah0, .inr (8, [.ref ae0, .int 0, .ref ae1, .ref ae2, .ref ae3, .ref ae4, .ref ae5, .ref ae6, .ref ae7, .ref ae8, .ref ae9, .int (-1), .int (-1)])), (ae3, .inr (4, [.int 0, .ref ae41, .ref ae42, .ref ae43, .ref ae44, .ref ae45]))] sz) := by
  refine Met.ofW (cc := cX8_demand) (maxL := 3) (ret := (some .int)) (by decide) rfl ?_
  intro p e s m args below meth c s₁ B hml hv
  obtain ⟨rfl, hsz, hP, hK, hD0⟩ := hv
  have hx := B.exec
  have hb := B.bytes
  have hr := B.returns
  have hts := atoms_spec (ws := wyX8_demand) B.pre
  have hg : ∀ w ∈ lw_G, w.before _ s = true := fun w h => hts w (List.mem_cons_of_mem _ h)
  have hown : s.vm.findClass RX8 = some m.cls := findClass_of_methodNamed B.named
  have hlocks := B.notSynchronized
  subst hsz
  have hD := hD0.self (sz := s.heap.size)
  generalize hAe : va_A [(ah0, .inr (8, [.ref ae0, .int 0, .ref ae1, .ref ae2, .ref ae3, .ref ae4, .ref ae5, .ref ae6, .ref ae7, .ref ae8, .ref ae9, .int (-1), .int (-1)])), (ae3, .inr (4, [.int 0, .ref ae41, .ref ae42, .ref ae43, .ref ae44, .ref ae45]))] s.heap.size = A at hD ⊢
  have hA : ∀ q : Nat, s.heap.size ≤ q → A q := fun q h => by rw [← hAe]; exact Or.inr h
  have hS : va_S A s.heap s.heap [] := va_S.rf
  have hP : va_P (dC, dI) vwCl [(ah0, .inr (8, [.ref ae0, .int 0, .ref ae1, .ref ae2, .ref ae3, .ref ae4, .ref ae5, .ref ae6, .ref ae7, .ref ae8, .ref ae9, .int (-1), .int (-1)])), (ae3, .inr (4, [.int 0, .ref ae41, .ref ae42, .ref ae43, .ref ae44, .ref ae45]))] s.heap := hP
  have hl := lv_entry ([.ref ah0, .int p0, .int p1]) (n := 3) (Nat.le_of_ble_eq_true rfl)
  rw [lg_entry_eq]
  generalize (lg_sl ([.ref ah0, .int p0, .int p1]) ++ List.replicate (3 - (lg_sl ([.ref ah0, .int p0, .int p1])).length) Slot.unset).toArray = ls at hl ⊢
  have hl : lv_has ls 3 [(0, .ref ah0), (1, .int p0), (2, .int p1)] := hl
  refine lv_aload_n hx hb dX8_demand_0 rfl (lv_at hl 0 rfl) ?_
  refine lv_iload_n hx hb dX8_demand_1 rfl (lv_at hl 1 rfl) ?_
  refine lv_iload_n hx hb dX8_demand_2 rfl (lv_at hl 2 rfl) ?_
  have hPc := hP.sub (ws' := [(ah0, .inr (8, [.ref ae0, .int 0, .ref ae1, .ref ae2, .ref ae3, .ref ae4, .ref ae5, .ref ae6, .ref ae7, .ref ae8, .ref ae9, .int (-1), .int (-1)])), (ae3, .inr (4, [.int 0, .ref ae41, .ref ae42, .ref ae43, .ref ae44, .ref ae45]))]) [0, 1] rfl
  have hDc := hD.sub (ws' := [(ah0, .inr (8, [.ref ae0, .int 0, .ref ae1, .ref ae2, .ref ae3, .ref ae4, .ref ae5, .ref ae6, .ref ae7, .ref ae8, .ref ae9, .int (-1), .int (-1)])), (ae3, .inr (4, [.int 0, .ref ae41, .ref ae42, .ref ae43, .ref ae44, .ref ae45]))]) [0, 1] (by decide) rfl
  have hKc := hK.sub (tys' := []) [] rfl
  have hFc := va_free (wc := [(ah0, .inr (8, [.ref ae0, .int 0, .ref ae1, .ref ae2, .ref ae3, .ref ae4, .ref ae5, .ref ae6, .ref ae7, .ref ae8, .ref ae9, .int (-1), .int (-1)])), (ae3, .inr (4, [.int 0, .ref ae41, .ref ae42, .ref ae43, .ref ae44, .ref ae45]))]) hD hS hA [0, 1] rfl
  refine va_calli (va_runV (As := [.int p0, .int p1]) (rest := []) ⟨hx, hb, hml, hown, hg⟩ (c_X8_isItem l dC dI ah0 ae3 ae0 ae1 ae2 ae4 ae5 ae6 ae7 ae8 ae9 ae41 ae42 ae43 ae44 ae45 s.heap.size p0 p1) (cwV 2 hg gc_X8_190 rfl rfl rfl (by decide +kernel) ⟨Nat.le_of_ble_eq_true rfl, Nat.le_of_ble_eq_true rfl⟩) ⟨fun a U g mk q => by obtain ⟨q0, q1, qP, qK, qD⟩ := q; exact ⟨q0, q1, qP, va_K.moved (u := U) (U := U.calling g mk a) (Vm.Alike.refl U.vm) qK, qD⟩, va_recv hKc hPc (ci := 8) (q0 := 0) rfl rfl, fun U hU hW => ⟨rfl, by rw [hU], by rw [hU]; exact hPc, va_K.moved hW.alike hKc, hDc.weaken (fun _ _ _ _ => trivial)⟩⟩ rfl rfl hl.1 rfl (lv_room (Nat.le_of_ble_eq_true rfl)) dX8_demand_3 ⟨Nat.le_of_ble_eq_true rfl, Nat.le_of_ble_eq_true rfl⟩) hS (fun q _ h => hFc q h) hFc (fun r1 u2 t H1 locs ht hvm hw2 hB hz1 hk1 hS => ?_)
  obtain ⟨hP1, hK1, hD1⟩ := hB
  rw [ht] at hP1
  have hK1 := va_K.moved hvm.symm hK1
  obtain ⟨hP, hD⟩ := va_join (wr := []) (w1 := [(ah0, .inr (8, [.ref ae0, .int 0, .ref ae1, .ref ae2, .ref ae3, .ref ae4, .ref ae5, .ref ae6, .ref ae7, .ref ae8, .ref ae9, .int (-1), .int (-1)])), (ae3, .inr (4, [.int 0, .ref ae41, .ref ae42, .ref ae43, .ref ae44, .ref ae45]))]) hP hD [0, 1] [] rfl rfl (by decide) (by decide) hk1 hFc hP1 hD1
  have hK := (hK.sub (tys' := []) [] rfl).app hK1
  generalize H1 = H at hP hS ⊢
  have hP : va_P (dC, dI) vwCl [(ah0, .inr (8, [.ref ae0, .int 0, .ref ae1, .ref ae2, .ref ae3, .ref ae4, .ref ae5, .ref ae6, .ref ae7, .ref ae8, .ref ae9, .int (-1), .int (-1)])), (ae3, .inr (4, [.int 0, .ref ae41, .ref ae42, .ref ae43, .ref ae44, .ref ae45]))] H := hP
  have hD : va_D A [(ah0, .inr (8, [.ref ae0, .int 0, .ref ae1, .ref ae2, .ref ae3, .ref ae4, .ref ae5, .ref ae6, .ref ae7, .ref ae8, .ref ae9, .int (-1), .int (-1)])), (ae3, .inr (4, [.int 0, .ref ae41, .ref ae42, .ref ae43, .ref ae44, .ref ae45]))] := hD
  have hK : va_K (dC, dI) vwCl [] s := hK
  obtain rfl : r1 = 0 := hw2
  refine lv_if_eq (tgt := 25) hx hb dX8_demand_6 (by decide) (fun _ => ?_) (fun c3 => absurd c3 (by decide))
  refine lv_iconst (v := (-1)) hx hb dX8_demand_25 (by decide) ?_
  have hP9 := hP.sub (ws' := [(ah0, .inr (8, [.ref ae0, .int 0, .ref ae1, .ref ae2, .ref ae3, .ref ae4, .ref ae5, .ref ae6, .ref ae7, .ref ae8, .ref ae9, .int (-1), .int (-1)])), (ae3, .inr (4, [.int 0, .ref ae41, .ref ae42, .ref ae43, .ref ae44, .ref ae45]))]) [0, 1] rfl
  have hD9 := hD.sub (ws' := [(ah0, .inr (8, [.ref ae0, .int 0, .ref ae1, .ref ae2, .ref ae3, .ref ae4, .ref ae5, .ref ae6, .ref ae7, .ref ae8, .ref ae9, .int (-1), .int (-1)])), (ae3, .inr (4, [.int 0, .ref ae41, .ref ae42, .ref ae43, .ref ae44, .ref ae45]))]) [0, 1] (by decide) rfl
  have hK9 := hK.sub (tys' := []) [] rfl
  refine W.widen (k := 0) (n := 0) (Nat.le_of_ble_eq_true rfl) (Nat.le_of_ble_eq_true rfl) ?_
  exact W.iret (v := (-1)) hx hb hr (fun t ht hW => ⟨⟨(-1), (), rfl, rfl, by rw [ht]; exact hP9, va_K.moved hW.alike hK9, hD9⟩, hS.F ht⟩) hS.2.2 dX8_demand_26

set_option maxHeartbeats 4000000 in
set_option maxRecDepth 100000 in
theorem c_X8_value (l : Launch) (dC : Nat → ClassId) (dI : Nat → Nat → Nat) (ah0 ae3 ae0 ae1 ae2 ae4 ae5 ae6 ae7 ae8 ae9 ae41 ae42 ae43 ae44 ae45 : Nat) (sz : Nat) (p0 : Int32) (p1 : Int32) (p2 : Int32) : Met l yX8_value wyX8_value ({ frames := 2, cells := 0, slots := 0, locals := 43 }) (va_Pc [.ref ah0, .int p0, .int p1, .int p2] (fun U => U.heap.size = sz ∧ va_P (dC, dI) vwCl [(ah0, .inr (8, [.ref ae0, .int 0, .ref ae1, .ref ae2, .ref ae3, .ref ae4, .ref ae5, .ref ae6, .ref ae7, .ref ae8, .ref ae9, .int (-1), .int (-1)])), (ae3, .inr (4, [.int 0, .ref ae41, .ref ae42, .ref ae43, .ref ae44, .ref ae45]))] U.heap ∧ va_K (dC, dI) vwCl [] U ∧ va_D (fun _ => True) [(ah0, .inr (8, [.ref ae0, .int 0, .ref ae1, .ref ae2, .ref ae3, .ref ae4, .ref ae5, .ref ae6, .ref ae7, .ref ae8, .ref ae9, .int (-1), .int (-1)])), (ae3, .inr (4, [.int 0, .ref ae41, .ref ae42, .ref ae43, .ref ae44, .ref ae45]))])) (va_Qi (fun (r : Int32) (_ : Unit) => r = (-1)) (fun _ t => va_P (dC, dI) vwCl [(ah0, .inr (8, [.ref ae0, .int 0, .ref ae1, .ref ae2, .ref ae3, .ref ae4, .ref ae5, .ref ae6, .ref ae7, .ref ae8, .ref ae9, .int (-1), .int (-1)])), (ae3, .inr (4, [.int 0, .ref ae41, .ref ae42, .ref ae43, .ref ae44, .ref ae45]))] t.heap ∧ va_K (dC, dI) vwCl [] t ∧ va_D (va_A [(ah0, .inr (8, [.ref ae0, .int 0, .ref ae1, .ref ae2, .ref ae3, .ref ae4, .ref ae5, .ref ae6, .ref ae7, .ref ae8, .ref ae9, .int (-1), .int (-1)])), (ae3, .inr (4, [.int 0, .ref ae41, .ref ae42, .ref ae43, .ref ae44, .ref ae45]))] sz) [(ah0, .inr (8, [.ref ae0, .int 0, .ref ae1, .ref ae2, .ref ae3, .ref ae4, .ref ae5, .ref ae6, .ref ae7, .ref ae8, .ref ae9, .int (-1), .int (-1)])), (ae3, .inr (4, [.int 0, .ref ae41, .ref ae42, .ref ae43, .ref ae44, .ref ae45]))]) (va_A [(ah0, .inr (8, [.ref ae0, .int 0, .ref ae1, .ref ae2, .ref ae3, .ref ae4, .ref ae5, .ref ae6, .ref ae7, .ref ae8, .ref ae9, .int (-1), .int (-1)])), (ae3, .inr (4, [.int 0, .ref ae41, .ref ae42, .ref ae43, .ref ae44, .ref ae45]))] sz)) 0 0 (va_A [(ah0, .inr (8, [.ref ae0, .int 0, .ref ae1, .ref ae2, .ref ae3, .ref ae4, .ref ae5, .ref ae6, .ref ae7, .ref ae8, .ref ae9, .int (-1), .int (-1)])), (ae3, .inr (4, [.int 0, .ref ae41, .ref ae42, .ref ae43, .ref ae44, .ref ae45]))] sz) := by
  refine Met.ofW (cc := cX8_value) (maxL := 5) (ret := (some .int)) (by decide) rfl ?_
  intro p e s m args below meth c s₁ B hml hv
  obtain ⟨rfl, hsz, hP, hK, hD0⟩ := hv
  have hx := B.exec
  have hb := B.bytes
  have hr := B.returns
  have hts := atoms_spec (ws := wyX8_value) B.pre
  have hg : ∀ w ∈ lw_G, w.before _ s = true := fun w h => hts w (List.mem_cons_of_mem _ h)
  have hown : s.vm.findClass RX8 = some m.cls := findClass_of_methodNamed B.named
  have hlocks := B.notSynchronized
  subst hsz
  have hD := hD0.self (sz := s.heap.size)
  generalize hAe : va_A [(ah0, .inr (8, [.ref ae0, .int 0, .ref ae1, .ref ae2, .ref ae3, .ref ae4, .ref ae5, .ref ae6, .ref ae7, .ref ae8, .ref ae9, .int (-1), .int (-1)])), (ae3, .inr (4, [.int 0, .ref ae41, .ref ae42, .ref ae43, .ref ae44, .ref ae45]))] s.heap.size = A at hD ⊢
  have hA : ∀ q : Nat, s.heap.size ≤ q → A q := fun q h => by rw [← hAe]; exact Or.inr h
  have hS : va_S A s.heap s.heap [] := va_S.rf
  have hP : va_P (dC, dI) vwCl [(ah0, .inr (8, [.ref ae0, .int 0, .ref ae1, .ref ae2, .ref ae3, .ref ae4, .ref ae5, .ref ae6, .ref ae7, .ref ae8, .ref ae9, .int (-1), .int (-1)])), (ae3, .inr (4, [.int 0, .ref ae41, .ref ae42, .ref ae43, .ref ae44, .ref ae45]))] s.heap := hP
  have hl := lv_entry ([.ref ah0, .int p0, .int p1, .int p2]) (n := 5) (Nat.le_of_ble_eq_true rfl)
  rw [lg_entry_eq]
  generalize (lg_sl ([.ref ah0, .int p0, .int p1, .int p2]) ++ List.replicate (5 - (lg_sl ([.ref ah0, .int p0, .int p1, .int p2])).length) Slot.unset).toArray = ls at hl ⊢
  have hl : lv_has ls 5 [(0, .ref ah0), (1, .int p0), (2, .int p1), (3, .int p2)] := hl
  refine lv_aload_n hx hb dX8_value_0 rfl (lv_at hl 0 rfl) ?_
  refine lv_iload_n hx hb dX8_value_1 rfl (lv_at hl 1 rfl) ?_
  refine lv_iload_n hx hb dX8_value_2 rfl (lv_at hl 2 rfl) ?_
  have hPc := hP.sub (ws' := [(ah0, .inr (8, [.ref ae0, .int 0, .ref ae1, .ref ae2, .ref ae3, .ref ae4, .ref ae5, .ref ae6, .ref ae7, .ref ae8, .ref ae9, .int (-1), .int (-1)])), (ae3, .inr (4, [.int 0, .ref ae41, .ref ae42, .ref ae43, .ref ae44, .ref ae45]))]) [0, 1] rfl
  have hDc := hD.sub (ws' := [(ah0, .inr (8, [.ref ae0, .int 0, .ref ae1, .ref ae2, .ref ae3, .ref ae4, .ref ae5, .ref ae6, .ref ae7, .ref ae8, .ref ae9, .int (-1), .int (-1)])), (ae3, .inr (4, [.int 0, .ref ae41, .ref ae42, .ref ae43, .ref ae44, .ref ae45]))]) [0, 1] (by decide) rfl
  have hKc := hK.sub (tys' := []) [] rfl
  have hFc := va_free (wc := [(ah0, .inr (8, [.ref ae0, .int 0, .ref ae1, .ref ae2, .ref ae3, .ref ae4, .ref ae5, .ref ae6, .ref ae7, .ref ae8, .ref ae9, .int (-1), .int (-1)])), (ae3, .inr (4, [.int 0, .ref ae41, .ref ae42, .ref ae43, .ref ae44, .ref ae45]))]) hD hS hA [0, 1] rfl
  refine va_calli (va_runV (As := [.int p0, .int p1]) (rest := []) ⟨hx, hb, hml, hown, hg⟩ (c_X8_isItem l dC dI ah0 ae3 ae0 ae1 ae2 ae4 ae5 ae6 ae7 ae8 ae9 ae41 ae42 ae43 ae44 ae45 s.heap.size p0 p1) (cwV 2 hg gc_X8_190 rfl rfl rfl (by decide +kernel) ⟨Nat.le_of_ble_eq_true rfl, Nat.le_of_ble_eq_true rfl⟩) ⟨fun a U g mk q => by obtain ⟨q0, q1, qP, qK, qD⟩ := q; exact ⟨q0, q1, qP, va_K.moved (u := U) (U := U.calling g mk a) (Vm.Alike.refl U.vm) qK, qD⟩, va_recv hKc hPc (ci := 8) (q0 := 0) rfl rfl, fun U hU hW => ⟨rfl, by rw [hU], by rw [hU]; exact hPc, va_K.moved hW.alike hKc, hDc.weaken (fun _ _ _ _ => trivial)⟩⟩ rfl rfl hl.1 rfl (lv_room (Nat.le_of_ble_eq_true rfl)) dX8_value_3 ⟨Nat.le_of_ble_eq_true rfl, Nat.le_of_ble_eq_true rfl⟩) hS (fun q _ h => hFc q h) hFc (fun r1 u2 t H1 locs ht hvm hw2 hB hz1 hk1 hS => ?_)
  obtain ⟨hP1, hK1, hD1⟩ := hB
  rw [ht] at hP1
  have hK1 := va_K.moved hvm.symm hK1
  obtain ⟨hP, hD⟩ := va_join (wr := []) (w1 := [(ah0, .inr (8, [.ref ae0, .int 0, .ref ae1, .ref ae2, .ref ae3, .ref ae4, .ref ae5, .ref ae6, .ref ae7, .ref ae8, .ref ae9, .int (-1), .int (-1)])), (ae3, .inr (4, [.int 0, .ref ae41, .ref ae42, .ref ae43, .ref ae44, .ref ae45]))]) hP hD [0, 1] [] rfl rfl (by decide) (by decide) hk1 hFc hP1 hD1
  have hK := (hK.sub (tys' := []) [] rfl).app hK1
  generalize H1 = H at hP hS ⊢
  have hP : va_P (dC, dI) vwCl [(ah0, .inr (8, [.ref ae0, .int 0, .ref ae1, .ref ae2, .ref ae3, .ref ae4, .ref ae5, .ref ae6, .ref ae7, .ref ae8, .ref ae9, .int (-1), .int (-1)])), (ae3, .inr (4, [.int 0, .ref ae41, .ref ae42, .ref ae43, .ref ae44, .ref ae45]))] H := hP
  have hD : va_D A [(ah0, .inr (8, [.ref ae0, .int 0, .ref ae1, .ref ae2, .ref ae3, .ref ae4, .ref ae5, .ref ae6, .ref ae7, .ref ae8, .ref ae9, .int (-1), .int (-1)])), (ae3, .inr (4, [.int 0, .ref ae41, .ref ae42, .ref ae43, .ref ae44, .ref ae45]))] := hD
  have hK : va_K (dC, dI) vwCl [] s := hK
  obtain rfl : r1 = 0 := hw2
  refine lv_if_eq (tgt := 18) hx hb dX8_value_6 (by decide) (fun _ => ?_) (fun c3 => absurd c3 (by decide))
  refine lv_iconst (v := (-1)) hx hb dX8_value_18 (by decide) ?_
  have hP9 := hP.sub (ws' := [(ah0, .inr (8, [.ref ae0, .int 0, .ref ae1, .ref ae2, .ref ae3, .ref ae4, .ref ae5, .ref ae6, .ref ae7, .ref ae8, .ref ae9, .int (-1), .int (-1)])), (ae3, .inr (4, [.int 0, .ref ae41, .ref ae42, .ref ae43, .ref ae44, .ref ae45]))]) [0, 1] rfl
  have hD9 := hD.sub (ws' := [(ah0, .inr (8, [.ref ae0, .int 0, .ref ae1, .ref ae2, .ref ae3, .ref ae4, .ref ae5, .ref ae6, .ref ae7, .ref ae8, .ref ae9, .int (-1), .int (-1)])), (ae3, .inr (4, [.int 0, .ref ae41, .ref ae42, .ref ae43, .ref ae44, .ref ae45]))]) [0, 1] (by decide) rfl
  have hK9 := hK.sub (tys' := []) [] rfl
  refine W.widen (k := 0) (n := 0) (Nat.le_of_ble_eq_true rfl) (Nat.le_of_ble_eq_true rfl) ?_
  exact W.iret (v := (-1)) hx hb hr (fun t ht hW => ⟨⟨(-1), (), rfl, rfl, by rw [ht]; exact hP9, va_K.moved hW.alike hK9, hD9⟩, hS.F ht⟩) hS.2.2 dX8_value_19

set_option maxHeartbeats 4000000 in
set_option maxRecDepth 100000 in
theorem c_X8_order (l : Launch) (dC : Nat → ClassId) (dI : Nat → Nat → Nat) (ah0 ae9 ae0 ae1 ae2 ae3 ae4 ae5 ae6 ae7 ae8 ae47 ae48 ae49 ae50 ae51 ae52 ae53 ae54 ae55 : Nat) (sz : Nat) (p0 : Int32) : Met l yX8_order wyX8_order ({ frames := 0, cells := 0, slots := 0, locals := 0 }) (va_Pc [.ref ah0, .int p0] (fun U => U.heap.size = sz ∧ va_P (dC, dI) vwCl [(ah0, .inr (8, [.ref ae0, .int 0, .ref ae1, .ref ae2, .ref ae3, .ref ae4, .ref ae5, .ref ae6, .ref ae7, .ref ae8, .ref ae9, .int (-1), .int (-1)])), (ae9, .inr (7, [.ref ae47, .ref ae48, .int 0, .ref ae1, .ref ae3, .ref ae49, .ref ae50, .ref ae51, .ref ae52, .ref ae53, .int 0, .ref ae54, .ref ae55, .int 0]))] U.heap ∧ va_K (dC, dI) vwCl [] U ∧ va_D (fun _ => True) [(ah0, .inr (8, [.ref ae0, .int 0, .ref ae1, .ref ae2, .ref ae3, .ref ae4, .ref ae5, .ref ae6, .ref ae7, .ref ae8, .ref ae9, .int (-1), .int (-1)])), (ae9, .inr (7, [.ref ae47, .ref ae48, .int 0, .ref ae1, .ref ae3, .ref ae49, .ref ae50, .ref ae51, .ref ae52, .ref ae53, .int 0, .ref ae54, .ref ae55, .int 0]))])) (va_Qi (fun (r : Int32) (_ : Unit) => r = (-1)) (fun _ t => va_P (dC, dI) vwCl [(ah0, .inr (8, [.ref ae0, .int 0, .ref ae1, .ref ae2, .ref ae3, .ref ae4, .ref ae5, .ref ae6, .ref ae7, .ref ae8, .ref ae9, .int (-1), .int (-1)])), (ae9, .inr (7, [.ref ae47, .ref ae48, .int 0, .ref ae1, .ref ae3, .ref ae49, .ref ae50, .ref ae51, .ref ae52, .ref ae53, .int 0, .ref ae54, .ref ae55, .int 0]))] t.heap ∧ va_K (dC, dI) vwCl [] t ∧ va_D (va_A [(ah0, .inr (8, [.ref ae0, .int 0, .ref ae1, .ref ae2, .ref ae3, .ref ae4, .ref ae5, .ref ae6, .ref ae7, .ref ae8, .ref ae9, .int (-1), .int (-1)])), (ae9, .inr (7, [.ref ae47, .ref ae48, .int 0, .ref ae1, .ref ae3, .ref ae49, .ref ae50, .ref ae51, .ref ae52, .ref ae53, .int 0, .ref ae54, .ref ae55, .int 0]))] sz) [(ah0, .inr (8, [.ref ae0, .int 0, .ref ae1, .ref ae2, .ref ae3, .ref ae4, .ref ae5, .ref ae6, .ref ae7, .ref ae8, .ref ae9, .int (-1), .int (-1)])), (ae9, .inr (7, [.ref ae47, .ref ae48, .int 0, .ref ae1, .ref ae3, .ref ae49, .ref ae50, .ref ae51, .ref ae52, .ref ae53, .int 0, .ref ae54, .ref ae55, .int 0]))]) (va_A [(ah0, .inr (8, [.ref ae0, .int 0, .ref ae1, .ref ae2, .ref ae3, .ref ae4, .ref ae5, .ref ae6, .ref ae7, .ref ae8, .ref ae9, .int (-1), .int (-1)])), (ae9, .inr (7, [.ref ae47, .ref ae48, .int 0, .ref ae1, .ref ae3, .ref ae49, .ref ae50, .ref ae51, .ref ae52, .ref ae53, .int 0, .ref ae54, .ref ae55, .int 0]))] sz)) 0 0 (va_A [(ah0, .inr (8, [.ref ae0, .int 0, .ref ae1, .ref ae2, .ref ae3, .ref ae4, .ref ae5, .ref ae6, .ref ae7, .ref ae8, .ref ae9, .int (-1), .int (-1)])), (ae9, .inr (7, [.ref ae47, .ref ae48, .int 0, .ref ae1, .ref ae3, .ref ae49, .ref ae50, .ref ae51, .ref ae52, .ref ae53, .int 0, .ref ae54, .ref ae55, .int 0]))] sz) := by
  refine Met.ofW (cc := cX8_order) (maxL := 2) (ret := (some .int)) (by decide) rfl ?_
  intro p e s m args below meth c s₁ B hml hv
  obtain ⟨rfl, hsz, hP, hK, hD0⟩ := hv
  have hx := B.exec
  have hb := B.bytes
  have hr := B.returns
  have hts := atoms_spec (ws := wyX8_order) B.pre
  have hg : ∀ w ∈ lw_G, w.before _ s = true := fun w h => hts w (List.mem_cons_of_mem _ h)
  have hown : s.vm.findClass RX8 = some m.cls := findClass_of_methodNamed B.named
  have hlocks := B.notSynchronized
  subst hsz
  have hD := hD0.self (sz := s.heap.size)
  generalize hAe : va_A [(ah0, .inr (8, [.ref ae0, .int 0, .ref ae1, .ref ae2, .ref ae3, .ref ae4, .ref ae5, .ref ae6, .ref ae7, .ref ae8, .ref ae9, .int (-1), .int (-1)])), (ae9, .inr (7, [.ref ae47, .ref ae48, .int 0, .ref ae1, .ref ae3, .ref ae49, .ref ae50, .ref ae51, .ref ae52, .ref ae53, .int 0, .ref ae54, .ref ae55, .int 0]))] s.heap.size = A at hD ⊢
  have hA : ∀ q : Nat, s.heap.size ≤ q → A q := fun q h => by rw [← hAe]; exact Or.inr h
  have hS : va_S A s.heap s.heap [] := va_S.rf
  have hP : va_P (dC, dI) vwCl [(ah0, .inr (8, [.ref ae0, .int 0, .ref ae1, .ref ae2, .ref ae3, .ref ae4, .ref ae5, .ref ae6, .ref ae7, .ref ae8, .ref ae9, .int (-1), .int (-1)])), (ae9, .inr (7, [.ref ae47, .ref ae48, .int 0, .ref ae1, .ref ae3, .ref ae49, .ref ae50, .ref ae51, .ref ae52, .ref ae53, .int 0, .ref ae54, .ref ae55, .int 0]))] s.heap := hP
  have hl := lv_entry ([.ref ah0, .int p0]) (n := 2) (Nat.le_of_ble_eq_true rfl)
  rw [lg_entry_eq]
  generalize (lg_sl ([.ref ah0, .int p0]) ++ List.replicate (2 - (lg_sl ([.ref ah0, .int p0])).length) Slot.unset).toArray = ls at hl ⊢
  have hl : lv_has ls 2 [(0, .ref ah0), (1, .int p0)] := hl
  refine lv_iload_n hx hb dX8_order_0 rfl (lv_at hl 1 rfl) ?_
  refine lv_if_lt (tgt := 15) hx hb dX8_order_1 (by decide) (fun c1 => ?_) (fun c1 => ?_)
  · refine lv_iconst (v := (-1)) hx hb dX8_order_15 (by decide) ?_
    refine lv_goto (tgt := 28) hx hb dX8_order_16 (by decide) ?_
    have hP9 := hP.sub (ws' := [(ah0, .inr (8, [.ref ae0, .int 0, .ref ae1, .ref ae2, .ref ae3, .ref ae4, .ref ae5, .ref ae6, .ref ae7, .ref ae8, .ref ae9, .int (-1), .int (-1)])), (ae9, .inr (7, [.ref ae47, .ref ae48, .int 0, .ref ae1, .ref ae3, .ref ae49, .ref ae50, .ref ae51, .ref ae52, .ref ae53, .int 0, .ref ae54, .ref ae55, .int 0]))]) [0, 1] rfl
    have hD9 := hD.sub (ws' := [(ah0, .inr (8, [.ref ae0, .int 0, .ref ae1, .ref ae2, .ref ae3, .ref ae4, .ref ae5, .ref ae6, .ref ae7, .ref ae8, .ref ae9, .int (-1), .int (-1)])), (ae9, .inr (7, [.ref ae47, .ref ae48, .int 0, .ref ae1, .ref ae3, .ref ae49, .ref ae50, .ref ae51, .ref ae52, .ref ae53, .int 0, .ref ae54, .ref ae55, .int 0]))]) [0, 1] (by decide) rfl
    have hK9 := hK.sub (tys' := []) [] rfl
    refine W.widen (k := 0) (n := 0) (Nat.le_of_ble_eq_true rfl) (Nat.le_of_ble_eq_true rfl) ?_
    exact W.iret (v := (-1)) hx hb hr (fun t ht hW => ⟨⟨(-1), (), rfl, rfl, by rw [ht]; exact hP9, va_K.moved hW.alike hK9, hD9⟩, hS.F ht⟩) hS.2.2 dX8_order_28
  · refine lv_iload_n hx hb dX8_order_4 rfl (lv_at hl 1 rfl) ?_
    refine lv_aload_n hx hb dX8_order_5 rfl (lv_at hl 0 rfl) ?_
    refine va_get (D := (dC, dI)) (ci := 8) (v := .ref ae9) (C := RX8) (T := TX8) (N := 13) hx hb hg inG_X8 hown hK hP 0 rfl rfl 10 (by decide) (hg (.fieldLink RX8 78 "AttributeDesk" "worker" "LAttributeDesk$Worker;") gw_2_170) (fun _ h9 => h9) rfl dX8_order_6 ?_
    refine va_get (D := (dC, dI)) (ci := 7) (v := .int 0) (C := RX7) (T := TX7) (N := 14) hx hb hg inG_X7 hown hK hP 1 rfl rfl 2 (by decide) (hg (.fieldLink RX8 203 "AttributeDesk$Worker" "orderSize" "I") gw_2_119) (fun _ h9 => h9) rfl dX8_order_9 ?_
    refine lv_icmp_lt (tgt := 19) hx hb dX8_order_12 (by decide) (fun c2 => absurd c2 c1) (fun _ => ?_)
    refine lv_iconst (v := (-1)) hx hb dX8_order_15 (by decide) ?_
    refine lv_goto (tgt := 28) hx hb dX8_order_16 (by decide) ?_
    have hP9 := hP.sub (ws' := [(ah0, .inr (8, [.ref ae0, .int 0, .ref ae1, .ref ae2, .ref ae3, .ref ae4, .ref ae5, .ref ae6, .ref ae7, .ref ae8, .ref ae9, .int (-1), .int (-1)])), (ae9, .inr (7, [.ref ae47, .ref ae48, .int 0, .ref ae1, .ref ae3, .ref ae49, .ref ae50, .ref ae51, .ref ae52, .ref ae53, .int 0, .ref ae54, .ref ae55, .int 0]))]) [0, 1] rfl
    have hD9 := hD.sub (ws' := [(ah0, .inr (8, [.ref ae0, .int 0, .ref ae1, .ref ae2, .ref ae3, .ref ae4, .ref ae5, .ref ae6, .ref ae7, .ref ae8, .ref ae9, .int (-1), .int (-1)])), (ae9, .inr (7, [.ref ae47, .ref ae48, .int 0, .ref ae1, .ref ae3, .ref ae49, .ref ae50, .ref ae51, .ref ae52, .ref ae53, .int 0, .ref ae54, .ref ae55, .int 0]))]) [0, 1] (by decide) rfl
    have hK9 := hK.sub (tys' := []) [] rfl
    refine W.widen (k := 0) (n := 0) (Nat.le_of_ble_eq_true rfl) (Nat.le_of_ble_eq_true rfl) ?_
    exact W.iret (v := (-1)) hx hb hr (fun t ht hW => ⟨⟨(-1), (), rfl, rfl, by rw [ht]; exact hP9, va_K.moved hW.alike hK9, hD9⟩, hS.F ht⟩) hS.2.2 dX8_order_28

set_option maxHeartbeats 4000000 in
set_option maxRecDepth 100000 in
theorem c_X8_about (l : Launch) (dC : Nat → ClassId) (dI : Nat → Nat → Nat) (ah0 ae1 ae3 ae9 ae0 ae2 ae4 ae5 ae6 ae7 ae8 ae11 ae12 ae13 ae14 ae15 ae16 ae17 ae18 ae19 ae20 ae21 ae22 ae23 ae24 ae25 ae41 ae42 ae43 ae44 ae45 ae47 ae48 ae49 ae50 ae51 ae52 ae53 ae54 ae55 : Nat) (sz : Nat) (p0 : Int32) : Met l yX8_about wyX8_about ({ frames := 0, cells := 0, slots := 0, locals := 0 }) (va_Pc [.ref ah0, .int p0] (fun U => U.heap.size = sz ∧ va_P (dC, dI) vwCl [(ah0, .inr (8, [.ref ae0, .int 0, .ref ae1, .ref ae2, .ref ae3, .ref ae4, .ref ae5, .ref ae6, .ref ae7, .ref ae8, .ref ae9, .int (-1), .int (-1)])), (ae1, .inr (1, [.int 0, .ref ae11, .ref ae12, .ref ae13, .ref ae14, .ref ae15, .ref ae16, .int 0, .ref ae17, .ref ae18, .ref ae19, .ref ae20, .ref ae21, .ref ae22, .ref ae23, .ref ae24, .ref ae25, .int 0])), (ae3, .inr (4, [.int 0, .ref ae41, .ref ae42, .ref ae43, .ref ae44, .ref ae45])), (ae9, .inr (7, [.ref ae47, .ref ae48, .int 0, .ref ae1, .ref ae3, .ref ae49, .ref ae50, .ref ae51, .ref ae52, .ref ae53, .int 0, .ref ae54, .ref ae55, .int 0]))] U.heap ∧ va_K (dC, dI) vwCl [] U ∧ va_D (fun _ => True) [(ah0, .inr (8, [.ref ae0, .int 0, .ref ae1, .ref ae2, .ref ae3, .ref ae4, .ref ae5, .ref ae6, .ref ae7, .ref ae8, .ref ae9, .int (-1), .int (-1)])), (ae1, .inr (1, [.int 0, .ref ae11, .ref ae12, .ref ae13, .ref ae14, .ref ae15, .ref ae16, .int 0, .ref ae17, .ref ae18, .ref ae19, .ref ae20, .ref ae21, .ref ae22, .ref ae23, .ref ae24, .ref ae25, .int 0])), (ae3, .inr (4, [.int 0, .ref ae41, .ref ae42, .ref ae43, .ref ae44, .ref ae45])), (ae9, .inr (7, [.ref ae47, .ref ae48, .int 0, .ref ae1, .ref ae3, .ref ae49, .ref ae50, .ref ae51, .ref ae52, .ref ae53, .int 0, .ref ae54, .ref ae55, .int 0]))])) (va_Qi (fun (r : Int32) (_ : Unit) => r = aboutR p0) (fun _ t => va_P (dC, dI) vwCl [(ah0, .inr (8, [.ref ae0, .int 0, .ref ae1, .ref ae2, .ref ae3, .ref ae4, .ref ae5, .ref ae6, .ref ae7, .ref ae8, .ref ae9, .int (-1), .int (-1)])), (ae1, .inr (1, [.int 0, .ref ae11, .ref ae12, .ref ae13, .ref ae14, .ref ae15, .ref ae16, .int 0, .ref ae17, .ref ae18, .ref ae19, .ref ae20, .ref ae21, .ref ae22, .ref ae23, .ref ae24, .ref ae25, .int 0])), (ae3, .inr (4, [.int 0, .ref ae41, .ref ae42, .ref ae43, .ref ae44, .ref ae45])), (ae9, .inr (7, [.ref ae47, .ref ae48, .int 0, .ref ae1, .ref ae3, .ref ae49, .ref ae50, .ref ae51, .ref ae52, .ref ae53, .int 0, .ref ae54, .ref ae55, .int 0]))] t.heap ∧ va_K (dC, dI) vwCl [] t ∧ va_D (va_A [(ah0, .inr (8, [.ref ae0, .int 0, .ref ae1, .ref ae2, .ref ae3, .ref ae4, .ref ae5, .ref ae6, .ref ae7, .ref ae8, .ref ae9, .int (-1), .int (-1)])), (ae1, .inr (1, [.int 0, .ref ae11, .ref ae12, .ref ae13, .ref ae14, .ref ae15, .ref ae16, .int 0, .ref ae17, .ref ae18, .ref ae19, .ref ae20, .ref ae21, .ref ae22, .ref ae23, .ref ae24, .ref ae25, .int 0])), (ae3, .inr (4, [.int 0, .ref ae41, .ref ae42, .ref ae43, .ref ae44, .ref ae45])), (ae9, .inr (7, [.ref ae47, .ref ae48, .int 0, .ref ae1, .ref ae3, .ref ae49, .ref ae50, .ref ae51, .ref ae52, .ref ae53, .int 0, .ref ae54, .ref ae55, .int 0]))] sz) [(ah0, .inr (8, [.ref ae0, .int 0, .ref ae1, .ref ae2, .ref ae3, .ref ae4, .ref ae5, .ref ae6, .ref ae7, .ref ae8, .ref ae9, .int (-1), .int (-1)])), (ae1, .inr (1, [.int 0, .ref ae11, .ref ae12, .ref ae13, .ref ae14, .ref ae15, .ref ae16, .int 0, .ref ae17, .ref ae18, .ref ae19, .ref ae20, .ref ae21, .ref ae22, .ref ae23, .ref ae24, .ref ae25, .int 0])), (ae3, .inr (4, [.int 0, .ref ae41, .ref ae42, .ref ae43, .ref ae44, .ref ae45])), (ae9, .inr (7, [.ref ae47, .ref ae48, .int 0, .ref ae1, .ref ae3, .ref ae49, .ref ae50, .ref ae51, .ref ae52, .ref ae53, .int 0, .ref ae54, .ref ae55, .int 0]))]) (va_A [(ah0, .inr (8, [.ref ae0, .int 0, .ref ae1, .ref ae2, .ref ae3, .ref ae4, .ref ae5, .ref ae6, .ref ae7, .ref ae8, .ref ae9, .int (-1), .int (-1)])), (ae1, .inr (1, [.int 0, .ref ae11, .ref ae12, .ref ae13, .ref ae14, .ref ae15, .ref ae16, .int 0, .ref ae17, .ref ae18, .ref ae19, .ref ae20, .ref ae21, .ref ae22, .ref ae23, .ref ae24, .ref ae25, .int 0])), (ae3, .inr (4, [.int 0, .ref ae41, .ref ae42, .ref ae43, .ref ae44, .ref ae45])), (ae9, .inr (7, [.ref ae47, .ref ae48, .int 0, .ref ae1, .ref ae3, .ref ae49, .ref ae50, .ref ae51, .ref ae52, .ref ae53, .int 0, .ref ae54, .ref ae55, .int 0]))] sz)) 0 0 (va_A [(ah0, .inr (8, [.ref ae0, .int 0, .ref ae1, .ref ae2, .ref ae3, .ref ae4, .ref ae5, .ref ae6, .ref ae7, .ref ae8, .ref ae9, .int (-1), .int (-1)])), (ae1, .inr (1, [.int 0, .ref ae11, .ref ae12, .ref ae13, .ref ae14, .ref ae15, .ref ae16, .int 0, .ref ae17, .ref ae18, .ref ae19, .ref ae20, .ref ae21, .ref ae22, .ref ae23, .ref ae24, .ref ae25, .int 0])), (ae3, .inr (4, [.int 0, .ref ae41, .ref ae42, .ref ae43, .ref ae44, .ref ae45])), (ae9, .inr (7, [.ref ae47, .ref ae48, .int 0, .ref ae1, .ref ae3, .ref ae49, .ref ae50, .ref ae51, .ref ae52, .ref ae53, .int 0, .ref ae54, .ref ae55, .int 0]))] sz) := by
  refine Met.ofW (cc := cX8_about) (maxL := 2) (ret := (some .int)) (by decide) rfl ?_
  intro p e s m args below meth c s₁ B hml hv
  obtain ⟨rfl, hsz, hP, hK, hD0⟩ := hv
  have hx := B.exec
  have hb := B.bytes
  have hr := B.returns
  have hts := atoms_spec (ws := wyX8_about) B.pre
  have hg : ∀ w ∈ lw_G, w.before _ s = true := fun w h => hts w (List.mem_cons_of_mem _ h)
  have hown : s.vm.findClass RX8 = some m.cls := findClass_of_methodNamed B.named
  have hlocks := B.notSynchronized
  subst hsz
  have hD := hD0.self (sz := s.heap.size)
  generalize hAe : va_A [(ah0, .inr (8, [.ref ae0, .int 0, .ref ae1, .ref ae2, .ref ae3, .ref ae4, .ref ae5, .ref ae6, .ref ae7, .ref ae8, .ref ae9, .int (-1), .int (-1)])), (ae1, .inr (1, [.int 0, .ref ae11, .ref ae12, .ref ae13, .ref ae14, .ref ae15, .ref ae16, .int 0, .ref ae17, .ref ae18, .ref ae19, .ref ae20, .ref ae21, .ref ae22, .ref ae23, .ref ae24, .ref ae25, .int 0])), (ae3, .inr (4, [.int 0, .ref ae41, .ref ae42, .ref ae43, .ref ae44, .ref ae45])), (ae9, .inr (7, [.ref ae47, .ref ae48, .int 0, .ref ae1, .ref ae3, .ref ae49, .ref ae50, .ref ae51, .ref ae52, .ref ae53, .int 0, .ref ae54, .ref ae55, .int 0]))] s.heap.size = A at hD ⊢
  have hA : ∀ q : Nat, s.heap.size ≤ q → A q := fun q h => by rw [← hAe]; exact Or.inr h
  have hS : va_S A s.heap s.heap [] := va_S.rf
  have hP : va_P (dC, dI) vwCl [(ah0, .inr (8, [.ref ae0, .int 0, .ref ae1, .ref ae2, .ref ae3, .ref ae4, .ref ae5, .ref ae6, .ref ae7, .ref ae8, .ref ae9, .int (-1), .int (-1)])), (ae1, .inr (1, [.int 0, .ref ae11, .ref ae12, .ref ae13, .ref ae14, .ref ae15, .ref ae16, .int 0, .ref ae17, .ref ae18, .ref ae19, .ref ae20, .ref ae21, .ref ae22, .ref ae23, .ref ae24, .ref ae25, .int 0])), (ae3, .inr (4, [.int 0, .ref ae41, .ref ae42, .ref ae43, .ref ae44, .ref ae45])), (ae9, .inr (7, [.ref ae47, .ref ae48, .int 0, .ref ae1, .ref ae3, .ref ae49, .ref ae50, .ref ae51, .ref ae52, .ref ae53, .int 0, .ref ae54, .ref ae55, .int 0]))] s.heap := hP
  have hl := lv_entry ([.ref ah0, .int p0]) (n := 2) (Nat.le_of_ble_eq_true rfl)
  rw [lg_entry_eq]
  generalize (lg_sl ([.ref ah0, .int p0]) ++ List.replicate (2 - (lg_sl ([.ref ah0, .int p0])).length) Slot.unset).toArray = ls at hl ⊢
  have hl : lv_has ls 2 [(0, .ref ah0), (1, .int p0)] := hl
  refine lv_iload_n hx hb dX8_about_0 rfl (lv_at hl 1 rfl) ?_
  by_cases s1 : p0 = 0
  · obtain rfl := s1
    refine lv_tableIn (off := 35) (tgt := 36) hx hb dX8_about_1 (by decide) (by decide) (by decide) (by decide) ?_
    refine lv_aload_n hx hb dX8_about_36 rfl (lv_at hl 0 rfl) ?_
    refine va_get (D := (dC, dI)) (ci := 8) (v := .int 0) (C := RX8) (T := TX8) (N := 13) hx hb hg inG_X8 hown hK hP 0 rfl rfl 1 (by decide) (hg (.fieldLink RX8 13 "AttributeDesk" "tapeSize" "I") gw_2_161) (fun _ h9 => h9) rfl dX8_about_37 ?_
    have hP9 := hP.sub (ws' := [(ah0, .inr (8, [.ref ae0, .int 0, .ref ae1, .ref ae2, .ref ae3, .ref ae4, .ref ae5, .ref ae6, .ref ae7, .ref ae8, .ref ae9, .int (-1), .int (-1)])), (ae1, .inr (1, [.int 0, .ref ae11, .ref ae12, .ref ae13, .ref ae14, .ref ae15, .ref ae16, .int 0, .ref ae17, .ref ae18, .ref ae19, .ref ae20, .ref ae21, .ref ae22, .ref ae23, .ref ae24, .ref ae25, .int 0])), (ae3, .inr (4, [.int 0, .ref ae41, .ref ae42, .ref ae43, .ref ae44, .ref ae45])), (ae9, .inr (7, [.ref ae47, .ref ae48, .int 0, .ref ae1, .ref ae3, .ref ae49, .ref ae50, .ref ae51, .ref ae52, .ref ae53, .int 0, .ref ae54, .ref ae55, .int 0]))]) [0, 1, 2, 3] rfl
    have hD9 := hD.sub (ws' := [(ah0, .inr (8, [.ref ae0, .int 0, .ref ae1, .ref ae2, .ref ae3, .ref ae4, .ref ae5, .ref ae6, .ref ae7, .ref ae8, .ref ae9, .int (-1), .int (-1)])), (ae1, .inr (1, [.int 0, .ref ae11, .ref ae12, .ref ae13, .ref ae14, .ref ae15, .ref ae16, .int 0, .ref ae17, .ref ae18, .ref ae19, .ref ae20, .ref ae21, .ref ae22, .ref ae23, .ref ae24, .ref ae25, .int 0])), (ae3, .inr (4, [.int 0, .ref ae41, .ref ae42, .ref ae43, .ref ae44, .ref ae45])), (ae9, .inr (7, [.ref ae47, .ref ae48, .int 0, .ref ae1, .ref ae3, .ref ae49, .ref ae50, .ref ae51, .ref ae52, .ref ae53, .int 0, .ref ae54, .ref ae55, .int 0]))]) [0, 1, 2, 3] (by decide) rfl
    have hK9 := hK.sub (tys' := []) [] rfl
    refine W.widen (k := 0) (n := 0) (Nat.le_of_ble_eq_true rfl) (Nat.le_of_ble_eq_true rfl) ?_
    exact W.iret (v := 0) hx hb hr (fun t ht hW => ⟨⟨0, (), rfl, rfl, by rw [ht]; exact hP9, va_K.moved hW.alike hK9, hD9⟩, hS.F ht⟩) hS.2.2 dX8_about_40
  by_cases s2 : p0 = 1
  · obtain rfl := s2
    refine lv_tableIn (off := 40) (tgt := 41) hx hb dX8_about_1 (by decide) (by decide) (by decide) (by decide) ?_
    refine lv_aload_n hx hb dX8_about_41 rfl (lv_at hl 0 rfl) ?_
    refine va_get (D := (dC, dI)) (ci := 8) (v := .ref ae1) (C := RX8) (T := TX8) (N := 13) hx hb hg inG_X8 hown hK hP 0 rfl rfl 2 (by decide) (hg (.fieldLink RX8 20 "AttributeDesk" "known" "LAttributeDesk$Grammar;") gw_2_162) (fun _ h9 => h9) rfl dX8_about_42 ?_
    refine va_get (D := (dC, dI)) (ci := 1) (v := .int 0) (C := RX1) (T := TX1) (N := 18) hx hb hg inG_X1 hown hK hP 1 rfl rfl 0 (by decide) (hg (.fieldLink RX8 114 "AttributeDesk$Grammar" "symbolCount" "I") gw_1_28) (fun _ h9 => h9) rfl dX8_about_45 ?_
    have hP9 := hP.sub (ws' := [(ah0, .inr (8, [.ref ae0, .int 0, .ref ae1, .ref ae2, .ref ae3, .ref ae4, .ref ae5, .ref ae6, .ref ae7, .ref ae8, .ref ae9, .int (-1), .int (-1)])), (ae1, .inr (1, [.int 0, .ref ae11, .ref ae12, .ref ae13, .ref ae14, .ref ae15, .ref ae16, .int 0, .ref ae17, .ref ae18, .ref ae19, .ref ae20, .ref ae21, .ref ae22, .ref ae23, .ref ae24, .ref ae25, .int 0])), (ae3, .inr (4, [.int 0, .ref ae41, .ref ae42, .ref ae43, .ref ae44, .ref ae45])), (ae9, .inr (7, [.ref ae47, .ref ae48, .int 0, .ref ae1, .ref ae3, .ref ae49, .ref ae50, .ref ae51, .ref ae52, .ref ae53, .int 0, .ref ae54, .ref ae55, .int 0]))]) [0, 1, 2, 3] rfl
    have hD9 := hD.sub (ws' := [(ah0, .inr (8, [.ref ae0, .int 0, .ref ae1, .ref ae2, .ref ae3, .ref ae4, .ref ae5, .ref ae6, .ref ae7, .ref ae8, .ref ae9, .int (-1), .int (-1)])), (ae1, .inr (1, [.int 0, .ref ae11, .ref ae12, .ref ae13, .ref ae14, .ref ae15, .ref ae16, .int 0, .ref ae17, .ref ae18, .ref ae19, .ref ae20, .ref ae21, .ref ae22, .ref ae23, .ref ae24, .ref ae25, .int 0])), (ae3, .inr (4, [.int 0, .ref ae41, .ref ae42, .ref ae43, .ref ae44, .ref ae45])), (ae9, .inr (7, [.ref ae47, .ref ae48, .int 0, .ref ae1, .ref ae3, .ref ae49, .ref ae50, .ref ae51, .ref ae52, .ref ae53, .int 0, .ref ae54, .ref ae55, .int 0]))]) [0, 1, 2, 3] (by decide) rfl
    have hK9 := hK.sub (tys' := []) [] rfl
    refine W.widen (k := 0) (n := 0) (Nat.le_of_ble_eq_true rfl) (Nat.le_of_ble_eq_true rfl) ?_
    exact W.iret (v := 0) hx hb hr (fun t ht hW => ⟨⟨0, (), rfl, rfl, by rw [ht]; exact hP9, va_K.moved hW.alike hK9, hD9⟩, hS.F ht⟩) hS.2.2 dX8_about_48
  by_cases s3 : p0 = 2
  · obtain rfl := s3
    refine lv_tableIn (off := 48) (tgt := 49) hx hb dX8_about_1 (by decide) (by decide) (by decide) (by decide) ?_
    refine lv_aload_n hx hb dX8_about_49 rfl (lv_at hl 0 rfl) ?_
    refine va_get (D := (dC, dI)) (ci := 8) (v := .ref ae1) (C := RX8) (T := TX8) (N := 13) hx hb hg inG_X8 hown hK hP 0 rfl rfl 2 (by decide) (hg (.fieldLink RX8 20 "AttributeDesk" "known" "LAttributeDesk$Grammar;") gw_2_162) (fun _ h9 => h9) rfl dX8_about_50 ?_
    refine va_get (D := (dC, dI)) (ci := 1) (v := .int 0) (C := RX1) (T := TX1) (N := 18) hx hb hg inG_X1 hown hK hP 1 rfl rfl 7 (by decide) (hg (.fieldLink RX8 108 "AttributeDesk$Grammar" "ruleCount" "I") gw_1_43) (fun _ h9 => h9) rfl dX8_about_53 ?_
    have hP9 := hP.sub (ws' := [(ah0, .inr (8, [.ref ae0, .int 0, .ref ae1, .ref ae2, .ref ae3, .ref ae4, .ref ae5, .ref ae6, .ref ae7, .ref ae8, .ref ae9, .int (-1), .int (-1)])), (ae1, .inr (1, [.int 0, .ref ae11, .ref ae12, .ref ae13, .ref ae14, .ref ae15, .ref ae16, .int 0, .ref ae17, .ref ae18, .ref ae19, .ref ae20, .ref ae21, .ref ae22, .ref ae23, .ref ae24, .ref ae25, .int 0])), (ae3, .inr (4, [.int 0, .ref ae41, .ref ae42, .ref ae43, .ref ae44, .ref ae45])), (ae9, .inr (7, [.ref ae47, .ref ae48, .int 0, .ref ae1, .ref ae3, .ref ae49, .ref ae50, .ref ae51, .ref ae52, .ref ae53, .int 0, .ref ae54, .ref ae55, .int 0]))]) [0, 1, 2, 3] rfl
    have hD9 := hD.sub (ws' := [(ah0, .inr (8, [.ref ae0, .int 0, .ref ae1, .ref ae2, .ref ae3, .ref ae4, .ref ae5, .ref ae6, .ref ae7, .ref ae8, .ref ae9, .int (-1), .int (-1)])), (ae1, .inr (1, [.int 0, .ref ae11, .ref ae12, .ref ae13, .ref ae14, .ref ae15, .ref ae16, .int 0, .ref ae17, .ref ae18, .ref ae19, .ref ae20, .ref ae21, .ref ae22, .ref ae23, .ref ae24, .ref ae25, .int 0])), (ae3, .inr (4, [.int 0, .ref ae41, .ref ae42, .ref ae43, .ref ae44, .ref ae45])), (ae9, .inr (7, [.ref ae47, .ref ae48, .int 0, .ref ae1, .ref ae3, .ref ae49, .ref ae50, .ref ae51, .ref ae52, .ref ae53, .int 0, .ref ae54, .ref ae55, .int 0]))]) [0, 1, 2, 3] (by decide) rfl
    have hK9 := hK.sub (tys' := []) [] rfl
    refine W.widen (k := 0) (n := 0) (Nat.le_of_ble_eq_true rfl) (Nat.le_of_ble_eq_true rfl) ?_
    exact W.iret (v := 0) hx hb hr (fun t ht hW => ⟨⟨0, (), rfl, rfl, by rw [ht]; exact hP9, va_K.moved hW.alike hK9, hD9⟩, hS.F ht⟩) hS.2.2 dX8_about_56
  by_cases s4 : p0 = 3
  · obtain rfl := s4
    refine lv_tableIn (off := 56) (tgt := 57) hx hb dX8_about_1 (by decide) (by decide) (by decide) (by decide) ?_
    refine lv_aload_n hx hb dX8_about_57 rfl (lv_at hl 0 rfl) ?_
    refine va_get (D := (dC, dI)) (ci := 8) (v := .ref ae3) (C := RX8) (T := TX8) (N := 13) hx hb hg inG_X8 hown hK hP 0 rfl rfl 4 (by decide) (hg (.fieldLink RX8 30 "AttributeDesk" "grown" "LAttributeDesk$Tree;") gw_2_164) (fun _ h9 => h9) rfl dX8_about_58 ?_
    refine va_get (D := (dC, dI)) (ci := 4) (v := .int 0) (C := RX4) (T := TX4) (N := 6) hx hb hg inG_X4 hown hK hP 2 rfl rfl 0 (by decide) (hg (.fieldLink RX8 99 "AttributeDesk$Tree" "size" "I") gw_1_122) (fun _ h9 => h9) rfl dX8_about_61 ?_
    have hP9 := hP.sub (ws' := [(ah0, .inr (8, [.ref ae0, .int 0, .ref ae1, .ref ae2, .ref ae3, .ref ae4, .ref ae5, .ref ae6, .ref ae7, .ref ae8, .ref ae9, .int (-1), .int (-1)])), (ae1, .inr (1, [.int 0, .ref ae11, .ref ae12, .ref ae13, .ref ae14, .ref ae15, .ref ae16, .int 0, .ref ae17, .ref ae18, .ref ae19, .ref ae20, .ref ae21, .ref ae22, .ref ae23, .ref ae24, .ref ae25, .int 0])), (ae3, .inr (4, [.int 0, .ref ae41, .ref ae42, .ref ae43, .ref ae44, .ref ae45])), (ae9, .inr (7, [.ref ae47, .ref ae48, .int 0, .ref ae1, .ref ae3, .ref ae49, .ref ae50, .ref ae51, .ref ae52, .ref ae53, .int 0, .ref ae54, .ref ae55, .int 0]))]) [0, 1, 2, 3] rfl
    have hD9 := hD.sub (ws' := [(ah0, .inr (8, [.ref ae0, .int 0, .ref ae1, .ref ae2, .ref ae3, .ref ae4, .ref ae5, .ref ae6, .ref ae7, .ref ae8, .ref ae9, .int (-1), .int (-1)])), (ae1, .inr (1, [.int 0, .ref ae11, .ref ae12, .ref ae13, .ref ae14, .ref ae15, .ref ae16, .int 0, .ref ae17, .ref ae18, .ref ae19, .ref ae20, .ref ae21, .ref ae22, .ref ae23, .ref ae24, .ref ae25, .int 0])), (ae3, .inr (4, [.int 0, .ref ae41, .ref ae42, .ref ae43, .ref ae44, .ref ae45])), (ae9, .inr (7, [.ref ae47, .ref ae48, .int 0, .ref ae1, .ref ae3, .ref ae49, .ref ae50, .ref ae51, .ref ae52, .ref ae53, .int 0, .ref ae54, .ref ae55, .int 0]))]) [0, 1, 2, 3] (by decide) rfl
    have hK9 := hK.sub (tys' := []) [] rfl
    refine W.widen (k := 0) (n := 0) (Nat.le_of_ble_eq_true rfl) (Nat.le_of_ble_eq_true rfl) ?_
    exact W.iret (v := 0) hx hb hr (fun t ht hW => ⟨⟨0, (), rfl, rfl, by rw [ht]; exact hP9, va_K.moved hW.alike hK9, hD9⟩, hS.F ht⟩) hS.2.2 dX8_about_64
  by_cases s5 : p0 = 4
  · obtain rfl := s5
    refine lv_tableIn (off := 64) (tgt := 65) hx hb dX8_about_1 (by decide) (by decide) (by decide) (by decide) ?_
    refine lv_aload_n hx hb dX8_about_65 rfl (lv_at hl 0 rfl) ?_
    refine va_get (D := (dC, dI)) (ci := 8) (v := .ref ae9) (C := RX8) (T := TX8) (N := 13) hx hb hg inG_X8 hown hK hP 0 rfl rfl 10 (by decide) (hg (.fieldLink RX8 78 "AttributeDesk" "worker" "LAttributeDesk$Worker;") gw_2_170) (fun _ h9 => h9) rfl dX8_about_66 ?_
    refine va_get (D := (dC, dI)) (ci := 7) (v := .int 0) (C := RX7) (T := TX7) (N := 14) hx hb hg inG_X7 hown hK hP 3 rfl rfl 2 (by decide) (hg (.fieldLink RX8 203 "AttributeDesk$Worker" "orderSize" "I") gw_2_119) (fun _ h9 => h9) rfl dX8_about_69 ?_
    have hP9 := hP.sub (ws' := [(ah0, .inr (8, [.ref ae0, .int 0, .ref ae1, .ref ae2, .ref ae3, .ref ae4, .ref ae5, .ref ae6, .ref ae7, .ref ae8, .ref ae9, .int (-1), .int (-1)])), (ae1, .inr (1, [.int 0, .ref ae11, .ref ae12, .ref ae13, .ref ae14, .ref ae15, .ref ae16, .int 0, .ref ae17, .ref ae18, .ref ae19, .ref ae20, .ref ae21, .ref ae22, .ref ae23, .ref ae24, .ref ae25, .int 0])), (ae3, .inr (4, [.int 0, .ref ae41, .ref ae42, .ref ae43, .ref ae44, .ref ae45])), (ae9, .inr (7, [.ref ae47, .ref ae48, .int 0, .ref ae1, .ref ae3, .ref ae49, .ref ae50, .ref ae51, .ref ae52, .ref ae53, .int 0, .ref ae54, .ref ae55, .int 0]))]) [0, 1, 2, 3] rfl
    have hD9 := hD.sub (ws' := [(ah0, .inr (8, [.ref ae0, .int 0, .ref ae1, .ref ae2, .ref ae3, .ref ae4, .ref ae5, .ref ae6, .ref ae7, .ref ae8, .ref ae9, .int (-1), .int (-1)])), (ae1, .inr (1, [.int 0, .ref ae11, .ref ae12, .ref ae13, .ref ae14, .ref ae15, .ref ae16, .int 0, .ref ae17, .ref ae18, .ref ae19, .ref ae20, .ref ae21, .ref ae22, .ref ae23, .ref ae24, .ref ae25, .int 0])), (ae3, .inr (4, [.int 0, .ref ae41, .ref ae42, .ref ae43, .ref ae44, .ref ae45])), (ae9, .inr (7, [.ref ae47, .ref ae48, .int 0, .ref ae1, .ref ae3, .ref ae49, .ref ae50, .ref ae51, .ref ae52, .ref ae53, .int 0, .ref ae54, .ref ae55, .int 0]))]) [0, 1, 2, 3] (by decide) rfl
    have hK9 := hK.sub (tys' := []) [] rfl
    refine W.widen (k := 0) (n := 0) (Nat.le_of_ble_eq_true rfl) (Nat.le_of_ble_eq_true rfl) ?_
    exact W.iret (v := 0) hx hb hr (fun t ht hW => ⟨⟨0, (), rfl, rfl, by rw [ht]; exact hP9, va_K.moved hW.alike hK9, hD9⟩, hS.F ht⟩) hS.2.2 dX8_about_72
  refine lv_tableOut (tgt := 73) hx hb dX8_about_1 (sw_0_4 s1 s2 s3 s4 s5) (by decide) ?_
  refine lv_iconst (v := (-1)) hx hb dX8_about_73 (by decide) ?_
  have hP9 := hP.sub (ws' := [(ah0, .inr (8, [.ref ae0, .int 0, .ref ae1, .ref ae2, .ref ae3, .ref ae4, .ref ae5, .ref ae6, .ref ae7, .ref ae8, .ref ae9, .int (-1), .int (-1)])), (ae1, .inr (1, [.int 0, .ref ae11, .ref ae12, .ref ae13, .ref ae14, .ref ae15, .ref ae16, .int 0, .ref ae17, .ref ae18, .ref ae19, .ref ae20, .ref ae21, .ref ae22, .ref ae23, .ref ae24, .ref ae25, .int 0])), (ae3, .inr (4, [.int 0, .ref ae41, .ref ae42, .ref ae43, .ref ae44, .ref ae45])), (ae9, .inr (7, [.ref ae47, .ref ae48, .int 0, .ref ae1, .ref ae3, .ref ae49, .ref ae50, .ref ae51, .ref ae52, .ref ae53, .int 0, .ref ae54, .ref ae55, .int 0]))]) [0, 1, 2, 3] rfl
  have hD9 := hD.sub (ws' := [(ah0, .inr (8, [.ref ae0, .int 0, .ref ae1, .ref ae2, .ref ae3, .ref ae4, .ref ae5, .ref ae6, .ref ae7, .ref ae8, .ref ae9, .int (-1), .int (-1)])), (ae1, .inr (1, [.int 0, .ref ae11, .ref ae12, .ref ae13, .ref ae14, .ref ae15, .ref ae16, .int 0, .ref ae17, .ref ae18, .ref ae19, .ref ae20, .ref ae21, .ref ae22, .ref ae23, .ref ae24, .ref ae25, .int 0])), (ae3, .inr (4, [.int 0, .ref ae41, .ref ae42, .ref ae43, .ref ae44, .ref ae45])), (ae9, .inr (7, [.ref ae47, .ref ae48, .int 0, .ref ae1, .ref ae3, .ref ae49, .ref ae50, .ref ae51, .ref ae52, .ref ae53, .int 0, .ref ae54, .ref ae55, .int 0]))]) [0, 1, 2, 3] (by decide) rfl
  have hK9 := hK.sub (tys' := []) [] rfl
  refine W.widen (k := 0) (n := 0) (Nat.le_of_ble_eq_true rfl) (Nat.le_of_ble_eq_true rfl) ?_
  exact W.iret (v := (-1)) hx hb hr (fun t ht hW => ⟨⟨(-1), (), rfl, aboutR_n s1 s2 s3 s4 s5, by rw [ht]; exact hP9, va_K.moved hW.alike hK9, hD9⟩, hS.F ht⟩) hS.2.2 dX8_about_74
