set_option maxHeartbeats 4000000 in
set_option maxRecDepth 100000 in
theorem c_X2_go (l : Launch) (dC : Nat → ClassId) (dI : Nat → Nat → Nat) (gd tk xr gr : Nat) (sz : Nat) (gst_ : Int) (gri_ : Int) (gtp_ : Int) (gts_ : Int) (nx_ : Int) : Met l yX2_go wyX2_go ({ frames := 0, cells := 0, slots := 0, locals := 0 }) (va_Pc [.ref gd, .int (zI nx_)] (fun U => U.heap.size = sz ∧ va_P (dC, dI) vwCl [(gd, .inr (2, [.ref tk, .ref xr, .ref gr, .int (zI gst_), .int (zI gri_), .int (zI gtp_), .int (zI gts_)]))] U.heap ∧ va_K (dC, dI) vwCl [] U ∧ va_D (fun _ => True) [(gd, .inr (2, [.ref tk, .ref xr, .ref gr, .int (zI gst_), .int (zI gri_), .int (zI gtp_), .int (zI gts_)]))])) (va_Qi (fun (rr : Int32) (_ : Unit) => rr = zI 0) (fun _ t => va_P (dC, dI) vwCl [(gd, .inr (2, [.ref tk, .ref xr, .ref gr, .int (zI nx_), .int (zI gri_), .int (zI gtp_), .int (zI gts_)]))] t.heap ∧ va_K (dC, dI) vwCl [] t ∧ va_D (va_A [(gd, .inr (2, [.ref tk, .ref xr, .ref gr, .int (zI gst_), .int (zI gri_), .int (zI gtp_), .int (zI gts_)]))] sz) [(gd, .inr (2, [.ref tk, .ref xr, .ref gr, .int (zI nx_), .int (zI gri_), .int (zI gtp_), .int (zI gts_)]))]) (va_A [(gd, .inr (2, [.ref tk, .ref xr, .ref gr, .int (zI gst_), .int (zI gri_), .int (zI gtp_), .int (zI gts_)]))] sz)) 0 0 (va_A [(gd, .inr (2, [.ref tk, .ref xr, .ref gr, .int (zI gst_), .int (zI gri_), .int (zI gtp_), .int (zI gts_)]))] sz) := by
  refine Met.ofW (cc := cX2_go) (maxL := 2) (ret := (some .int)) (by decide) rfl ?_
  intro p e s m args below meth c s₁ B hml hv
  obtain ⟨rfl, hsz, hP, hK, hD0⟩ := hv
  have hx := B.exec
  have hb := B.bytes
  have hr := B.returns
  have hts := atoms_spec (ws := wyX2_go) B.pre
  have hg : ∀ w ∈ lw_G, w.before _ s = true := fun w h => hts w (List.mem_cons_of_mem _ h)
  have hown : s.vm.findClass RX2 = some m.cls := findClass_of_methodNamed B.named
  have hlocks := B.notSynchronized
  subst hsz
  have hD := hD0.self (sz := s.heap.size)
  generalize hAe : va_A [(gd, .inr (2, [.ref tk, .ref xr, .ref gr, .int (zI gst_), .int (zI gri_), .int (zI gtp_), .int (zI gts_)]))] s.heap.size = A at hD ⊢
  have hA : ∀ q : Nat, s.heap.size ≤ q → A q := fun q h => by rw [← hAe]; exact Or.inr h
  have hS : va_S A s.heap s.heap [] := va_S.rf
  have hP : va_P (dC, dI) vwCl [(gd, .inr (2, [.ref tk, .ref xr, .ref gr, .int (zI gst_), .int (zI gri_), .int (zI gtp_), .int (zI gts_)]))] s.heap := hP
  have hl := lv_entry ([.ref gd, .int (zI nx_)]) (n := 2) (Nat.le_of_ble_eq_true rfl)
  rw [lg_entry_eq]
  generalize (lg_sl ([.ref gd, .int (zI nx_)]) ++ List.replicate (2 - (lg_sl ([.ref gd, .int (zI nx_)])).length) Slot.unset).toArray = ls at hl ⊢
  have hl : lv_has ls 2 [(0, .ref gd), (1, .int (zI nx_))] := hl
  refine lv_aload_n hx hb dX2_go_0 rfl (lv_at hl 0 rfl) ?_
  refine lv_iload_n hx hb dX2_go_1 rfl (lv_at hl 1 rfl) ?_
  refine va_put (D := (dC, dI)) (ci := 2) (v := .int (zI nx_)) (ty := .int) (C := RX2) (T := TX2) (N := 7) hx hb hg inG_X2 tyX2 tyX2_ok nmX2 hown hK hP hD hS 0 rfl rfl 3 (by decide) (hg (.fieldLink RX2 11 "AttributeDesk$GrammarReader" "state" "I") gw_2_2) (fun _ h9 => h9) rfl (by decide +kernel) rfl rfl (Nat.le_of_ble_eq_true rfl) dX2_go_2 (fun H locs hP hD hS => ?_)
  have hP : va_P (dC, dI) vwCl [(gd, .inr (2, [.ref tk, .ref xr, .ref gr, .int (zI nx_), .int (zI gri_), .int (zI gtp_), .int (zI gts_)]))] H := hP
  have hD : va_D A [(gd, .inr (2, [.ref tk, .ref xr, .ref gr, .int (zI nx_), .int (zI gri_), .int (zI gtp_), .int (zI gts_)]))] := hD
  refine lv_iconst (v := zI 0) hx hb dX2_go_5 rfl ?_
  have hP9 := hP.sub (ws' := [(gd, .inr (2, [.ref tk, .ref xr, .ref gr, .int (zI nx_), .int (zI gri_), .int (zI gtp_), .int (zI gts_)]))]) [0] rfl
  have hD9 := hD.sub (ws' := [(gd, .inr (2, [.ref tk, .ref xr, .ref gr, .int (zI nx_), .int (zI gri_), .int (zI gtp_), .int (zI gts_)]))]) [0] (by decide) rfl
  have hK9 := hK.sub (tys' := []) [] rfl
  exact W.iret (v := zI 0) hx hb hr (fun t ht hW => ⟨⟨zI 0, (), rfl, rfl, by rw [ht]; exact hP9, va_K.moved hW.alike hK9, hD9⟩, hS.F ht⟩) hS.2.2 dX2_go_6

set_option maxHeartbeats 4000000 in
set_option maxRecDepth 100000 in
theorem c_X2_goIf (l : Launch) (dC : Nat → ClassId) (dI : Nat → Nat → Nat) (gd tk xr gr tp : Nat) (sz : Nat) (gst_ : Int) (gri_ : Int) (gtp_ : Int) (gts_ : Int) (tk_size : Int) (tk_behind : Int) (tk_kind : Int) (tk_at : Int) (tk_name : Int) (tk_number : Int) (k_ : Int) (nx_ : Int) (hkr : -128 ≤ tk_kind ∧ tk_kind < 128) (hk_ : -2147483648 ≤ k_ ∧ k_ < 2147483648) : Met l yX2_goIf wyX2_goIf ({ frames := 1, cells := 0, slots := 0, locals := 21 }) (va_Pc [.ref gd, .int (zI k_), .int (zI nx_)] (fun U => U.heap.size = sz ∧ va_P (dC, dI) vwCl [(gd, .inr (2, [.ref tk, .ref xr, .ref gr, .int (zI gst_), .int (zI gri_), .int (zI gtp_), .int (zI gts_)])), (tk, .inr (3, [.ref tp, .int (zI tk_size), .int (zI tk_behind), .int (zI tk_kind), .int (zI tk_at), .long (lI tk_name), .long (lI tk_number)]))] U.heap ∧ va_K (dC, dI) vwCl [] U ∧ va_D (fun _ => True) [(gd, .inr (2, [.ref tk, .ref xr, .ref gr, .int (zI gst_), .int (zI gri_), .int (zI gtp_), .int (zI gts_)])), (tk, .inr (3, [.ref tp, .int (zI tk_size), .int (zI tk_behind), .int (zI tk_kind), .int (zI tk_at), .long (lI tk_name), .long (lI tk_number)]))])) (va_Qi (fun (rr : Int32) (r : Int) => rr = zI r) (fun r t => ∃ (st2_ : Int), (oGoIf tk_kind k_ nx_ gst_ r st2_) ∧ va_P (dC, dI) vwCl [(gd, .inr (2, [.ref tk, .ref xr, .ref gr, .int (zI st2_), .int (zI gri_), .int (zI gtp_), .int (zI gts_)])), (tk, .inr (3, [.ref tp, .int (zI tk_size), .int (zI tk_behind), .int (zI tk_kind), .int (zI tk_at), .long (lI tk_name), .long (lI tk_number)]))] t.heap ∧ va_K (dC, dI) vwCl [] t ∧ va_D (va_A [(gd, .inr (2, [.ref tk, .ref xr, .ref gr, .int (zI gst_), .int (zI gri_), .int (zI gtp_), .int (zI gts_)])), (tk, .inr (3, [.ref tp, .int (zI tk_size), .int (zI tk_behind), .int (zI tk_kind), .int (zI tk_at), .long (lI tk_name), .long (lI tk_number)]))] sz) [(gd, .inr (2, [.ref tk, .ref xr, .ref gr, .int (zI st2_), .int (zI gri_), .int (zI gtp_), .int (zI gts_)])), (tk, .inr (3, [.ref tp, .int (zI tk_size), .int (zI tk_behind), .int (zI tk_kind), .int (zI tk_at), .long (lI tk_name), .long (lI tk_number)]))]) (va_A [(gd, .inr (2, [.ref tk, .ref xr, .ref gr, .int (zI gst_), .int (zI gri_), .int (zI gtp_), .int (zI gts_)])), (tk, .inr (3, [.ref tp, .int (zI tk_size), .int (zI tk_behind), .int (zI tk_kind), .int (zI tk_at), .long (lI tk_name), .long (lI tk_number)]))] sz)) 0 0 (va_A [(gd, .inr (2, [.ref tk, .ref xr, .ref gr, .int (zI gst_), .int (zI gri_), .int (zI gtp_), .int (zI gts_)])), (tk, .inr (3, [.ref tp, .int (zI tk_size), .int (zI tk_behind), .int (zI tk_kind), .int (zI tk_at), .long (lI tk_name), .long (lI tk_number)]))] sz) := by
  refine Met.ofW (cc := cX2_goIf) (maxL := 3) (ret := (some .int)) (by decide) rfl ?_
  intro p e s m args below meth c s₁ B hml hv
  obtain ⟨rfl, hsz, hP, hK, hD0⟩ := hv
  have hx := B.exec
  have hb := B.bytes
  have hr := B.returns
  have hts := atoms_spec (ws := wyX2_goIf) B.pre
  have hg : ∀ w ∈ lw_G, w.before _ s = true := fun w h => hts w (List.mem_cons_of_mem _ h)
  have hown : s.vm.findClass RX2 = some m.cls := findClass_of_methodNamed B.named
  have hlocks := B.notSynchronized
  subst hsz
  have hD := hD0.self (sz := s.heap.size)
  generalize hAe : va_A [(gd, .inr (2, [.ref tk, .ref xr, .ref gr, .int (zI gst_), .int (zI gri_), .int (zI gtp_), .int (zI gts_)])), (tk, .inr (3, [.ref tp, .int (zI tk_size), .int (zI tk_behind), .int (zI tk_kind), .int (zI tk_at), .long (lI tk_name), .long (lI tk_number)]))] s.heap.size = A at hD ⊢
  have hA : ∀ q : Nat, s.heap.size ≤ q → A q := fun q h => by rw [← hAe]; exact Or.inr h
  have hS : va_S A s.heap s.heap [] := va_S.rf
  have hP : va_P (dC, dI) vwCl [(gd, .inr (2, [.ref tk, .ref xr, .ref gr, .int (zI gst_), .int (zI gri_), .int (zI gtp_), .int (zI gts_)])), (tk, .inr (3, [.ref tp, .int (zI tk_size), .int (zI tk_behind), .int (zI tk_kind), .int (zI tk_at), .long (lI tk_name), .long (lI tk_number)]))] s.heap := hP
  have hl := lv_entry ([.ref gd, .int (zI k_), .int (zI nx_)]) (n := 3) (Nat.le_of_ble_eq_true rfl)
  rw [lg_entry_eq]
  generalize (lg_sl ([.ref gd, .int (zI k_), .int (zI nx_)]) ++ List.replicate (3 - (lg_sl ([.ref gd, .int (zI k_), .int (zI nx_)])).length) Slot.unset).toArray = ls at hl ⊢
  have hl : lv_has ls 3 [(0, .ref gd), (1, .int (zI k_)), (2, .int (zI nx_))] := hl
  refine lv_aload_n hx hb dX2_goIf_0 rfl (lv_at hl 0 rfl) ?_
  refine va_get (D := (dC, dI)) (ci := 2) (v := .ref tk) (C := RX2) (T := TX2) (N := 7) hx hb hg inG_X2 hown hK hP 0 rfl rfl 0 (by decide) (hg (.fieldLink RX2 25 "AttributeDesk$GrammarReader" "tokens" "LAttributeDesk$Tokens;") gw_1_239) (fun _ h9 => h9) rfl dX2_goIf_1 ?_
  refine va_get (D := (dC, dI)) (ci := 3) (v := .int (zI tk_kind)) (C := RX3) (T := TX3) (N := 7) hx hb hg inG_X3 hown hK hP 1 rfl rfl 3 (by decide) (hg (.fieldLink RX2 73 "AttributeDesk$Tokens" "kind" "I") gw_1_166) (fun _ h9 => h9) rfl dX2_goIf_4 ?_
  refine lv_iload_n hx hb dX2_goIf_7 rfl (lv_at hl 1 rfl) ?_
  refine zv_icmp_ne (tgt := 19) hx hb dX2_goIf_8 (by decide) (by omega) (by omega) (fun c1 => ?_) (fun c1 => ?_)
  · refine lv_iconst (v := zI 1) hx hb dX2_goIf_19 rfl ?_
    have hP9 := hP.sub (ws' := [(gd, .inr (2, [.ref tk, .ref xr, .ref gr, .int (zI gst_), .int (zI gri_), .int (zI gtp_), .int (zI gts_)])), (tk, .inr (3, [.ref tp, .int (zI tk_size), .int (zI tk_behind), .int (zI tk_kind), .int (zI tk_at), .long (lI tk_name), .long (lI tk_number)]))]) [0, 1] rfl
    have hD9 := hD.sub (ws' := [(gd, .inr (2, [.ref tk, .ref xr, .ref gr, .int (zI gst_), .int (zI gri_), .int (zI gtp_), .int (zI gts_)])), (tk, .inr (3, [.ref tp, .int (zI tk_size), .int (zI tk_behind), .int (zI tk_kind), .int (zI tk_at), .long (lI tk_name), .long (lI tk_number)]))]) [0, 1] (by decide) rfl
    have hK9 := hK.sub (tys' := []) [] rfl
    exact W.iret (v := zI 1) hx hb hr (fun t ht hW => ⟨⟨zI 1, 1, rfl, rfl, gst_, (Or.inr ⟨rfl, by omega, rfl⟩), by rw [ht]; exact hP9, va_K.moved hW.alike hK9, hD9⟩, hS.F ht⟩) hS.2.2 dX2_goIf_20
  · refine lv_aload_n hx hb dX2_goIf_11 rfl (lv_at hl 0 rfl) ?_
    refine lv_iload_n hx hb dX2_goIf_12 rfl (lv_at hl 2 rfl) ?_
    have hPc := hP.sub (ws' := [(gd, .inr (2, [.ref tk, .ref xr, .ref gr, .int (zI gst_), .int (zI gri_), .int (zI gtp_), .int (zI gts_)]))]) [0] rfl
    have hDc := hD.sub (ws' := [(gd, .inr (2, [.ref tk, .ref xr, .ref gr, .int (zI gst_), .int (zI gri_), .int (zI gtp_), .int (zI gts_)]))]) [0] (by decide) rfl
    have hKc := hK.sub (tys' := []) [] rfl
    have hFc := va_free (wc := [(gd, .inr (2, [.ref tk, .ref xr, .ref gr, .int (zI gst_), .int (zI gri_), .int (zI gtp_), .int (zI gts_)]))]) hD hS hA [0] rfl
    refine va_calli (va_runV (As := [.int (zI nx_)]) (rest := []) ⟨hx, hb, hml, hown, hg⟩ (c_X2_go l dC dI gd tk xr gr s.heap.size gst_ gri_ gtp_ gts_ nx_) (cwV 1 hg gc_X2_76 rfl rfl rfl (by decide +kernel) ⟨Nat.le_of_ble_eq_true rfl, Nat.le_of_ble_eq_true rfl⟩) ⟨fun a U g mk q => by obtain ⟨q0, q1, qP, qK, qD⟩ := q; exact ⟨q0, q1, qP, va_K.moved (u := U) (U := U.calling g mk a) (Vm.Alike.refl U.vm) qK, qD⟩, va_recv hKc hPc (ci := 2) (q0 := 0) rfl rfl, fun U hU hW => ⟨rfl, by rw [hU], by rw [hU]; exact hPc, va_K.moved hW.alike hKc, hDc.weaken (fun _ _ _ _ => trivial)⟩⟩ rfl rfl hl.1 rfl (lv_room (Nat.le_of_ble_eq_true rfl)) dX2_goIf_13 ⟨Nat.le_of_ble_eq_true rfl, Nat.le_of_ble_eq_true rfl⟩) hS (fun q _ h => hFc q h) hFc (fun r2 u2 t H1 locs ht hvm hw2 hB hz1 hk1 hS => ?_)
    obtain ⟨hP1, hK1, hD1⟩ := hB
    rw [ht] at hP1
    have hK1 := va_K.moved hvm.symm hK1
    obtain ⟨hP, hD⟩ := va_join (wr := [(tk, .inr (3, [.ref tp, .int (zI tk_size), .int (zI tk_behind), .int (zI tk_kind), .int (zI tk_at), .long (lI tk_name), .long (lI tk_number)]))]) (w1 := [(gd, .inr (2, [.ref tk, .ref xr, .ref gr, .int (zI nx_), .int (zI gri_), .int (zI gtp_), .int (zI gts_)]))]) hP hD [0] [1] rfl rfl (by decide) (by decide) hk1 hFc hP1 hD1
    have hK := (hK.sub (tys' := []) [] rfl).app hK1
    generalize H1 = H at hP hS ⊢
    have hP : va_P (dC, dI) vwCl [(tk, .inr (3, [.ref tp, .int (zI tk_size), .int (zI tk_behind), .int (zI tk_kind), .int (zI tk_at), .long (lI tk_name), .long (lI tk_number)])), (gd, .inr (2, [.ref tk, .ref xr, .ref gr, .int (zI nx_), .int (zI gri_), .int (zI gtp_), .int (zI gts_)]))] H := hP
    have hD : va_D A [(tk, .inr (3, [.ref tp, .int (zI tk_size), .int (zI tk_behind), .int (zI tk_kind), .int (zI tk_at), .long (lI tk_name), .long (lI tk_number)])), (gd, .inr (2, [.ref tk, .ref xr, .ref gr, .int (zI nx_), .int (zI gri_), .int (zI gtp_), .int (zI gts_)]))] := hD
    have hK : va_K (dC, dI) vwCl [] s := hK
    obtain rfl : r2 = zI 0 := hw2
    refine lv_goto (tgt := 20) hx hb dX2_goIf_16 (by decide) ?_
    have hP9 := hP.sub (ws' := [(gd, .inr (2, [.ref tk, .ref xr, .ref gr, .int (zI nx_), .int (zI gri_), .int (zI gtp_), .int (zI gts_)])), (tk, .inr (3, [.ref tp, .int (zI tk_size), .int (zI tk_behind), .int (zI tk_kind), .int (zI tk_at), .long (lI tk_name), .long (lI tk_number)]))]) [1, 0] rfl
    have hD9 := hD.sub (ws' := [(gd, .inr (2, [.ref tk, .ref xr, .ref gr, .int (zI nx_), .int (zI gri_), .int (zI gtp_), .int (zI gts_)])), (tk, .inr (3, [.ref tp, .int (zI tk_size), .int (zI tk_behind), .int (zI tk_kind), .int (zI tk_at), .long (lI tk_name), .long (lI tk_number)]))]) [1, 0] (by decide) rfl
    have hK9 := hK.sub (tys' := []) [] rfl
    exact W.iret (v := zI 0) hx hb hr (fun t ht hW => ⟨⟨zI 0, 0, rfl, rfl, nx_, (Or.inl ⟨rfl, by omega, rfl⟩), by rw [ht]; exact hP9, va_K.moved hW.alike hK9, hD9⟩, hS.F ht⟩) hS.2.2 dX2_goIf_20

set_option maxHeartbeats 4000000 in
set_option maxRecDepth 100000 in
theorem c_X2_symbolName (l : Launch) (dC : Nat → ClassId) (dI : Nat → Nat → Nat) (gd tk gr gsn gac gic xr tp gan gih grk grn grs gcc gec gcs gce ghg gop god : Nat) (cJ cI : ClassId) (sz : Nat) (gst_ : Int) (gri_ : Int) (gtp_ : Int) (gts_ : Int) (tk_size : Int) (tk_behind : Int) (tk_kind : Int) (tk_at : Int) (tk_name : Int) (tk_number : Int) (sc_ : Int) (rc_ : Int) (cz_ : Int) (sn_ : Int → Int) (ac_ : Int → Int) (ic_ : Int → Int) (hkr : -128 ≤ tk_kind ∧ tk_kind < 128) (hnk : tk_kind = 1 → 0 ≤ tk_name ∧ tk_name < 9223372036854775808) (hsc : 0 ≤ sc_ ∧ sc_ ≤ 12) (hsn : ∀ j : Int, 0 ≤ j ∧ j < 12 → 0 ≤ sn_ j ∧ sn_ j < 9223372036854775808) : Met l yX2_symbolName wyX2_symbolName ({ frames := 1, cells := 0, slots := 0, locals := 23 }) (va_Pc [.ref gd] (fun U => U.heap.size = sz ∧ va_P (dC, dI) vwCl [(gd, .inr (2, [.ref tk, .ref xr, .ref gr, .int (zI gst_), .int (zI gri_), .int (zI gtp_), .int (zI gts_)])), (tk, .inr (3, [.ref tp, .int (zI tk_size), .int (zI tk_behind), .int (zI tk_kind), .int (zI tk_at), .long (lI tk_name), .long (lI tk_number)])), (gr, .inr (1, [.int (zI sc_), .ref gsn, .ref gac, .ref gic, .ref gan, .ref gih, .ref grk, .int (zI rc_), .ref grn, .ref grs, .ref gcc, .ref gec, .ref gcs, .ref gce, .ref ghg, .ref gop, .ref god, .int (zI cz_)])), (gsn, .inl (cJ, 12, .inr (.inl (lF sn_)))), (gac, .inl (cI, 12, .inl (zF ac_))), (gic, .inl (cI, 12, .inl (zF ic_)))] U.heap ∧ va_K (dC, dI) vwCl [(cJ, .long), (cI, .int)] U ∧ va_D (fun _ => True) [(gd, .inr (2, [.ref tk, .ref xr, .ref gr, .int (zI gst_), .int (zI gri_), .int (zI gtp_), .int (zI gts_)])), (tk, .inr (3, [.ref tp, .int (zI tk_size), .int (zI tk_behind), .int (zI tk_kind), .int (zI tk_at), .long (lI tk_name), .long (lI tk_number)])), (gr, .inr (1, [.int (zI sc_), .ref gsn, .ref gac, .ref gic, .ref gan, .ref gih, .ref grk, .int (zI rc_), .ref grn, .ref grs, .ref gcc, .ref gec, .ref gcs, .ref gce, .ref ghg, .ref gop, .ref god, .int (zI cz_)])), (gsn, .inl (cJ, 12, .inr (.inl (lF sn_)))), (gac, .inl (cI, 12, .inl (zF ac_))), (gic, .inl (cI, 12, .inl (zF ic_)))])) (va_Qi (fun (rr : Int32) (r : Int) => rr = zI r) (fun r t => ∃ (st2_ : Int), ∃ (sc2_ : Int), ∃ (sn2_ : Int → Int), ∃ (ac2_ : Int → Int), ∃ (ic2_ : Int → Int), (oSymN tk_kind tk_name sc_ sn_ ac_ ic_ gst_ r st2_ sc2_ sn2_ ac2_ ic2_) ∧ va_P (dC, dI) vwCl [(gd, .inr (2, [.ref tk, .ref xr, .ref gr, .int (zI st2_), .int (zI gri_), .int (zI gtp_), .int (zI gts_)])), (tk, .inr (3, [.ref tp, .int (zI tk_size), .int (zI tk_behind), .int (zI tk_kind), .int (zI tk_at), .long (lI tk_name), .long (lI tk_number)])), (gr, .inr (1, [.int (zI sc2_), .ref gsn, .ref gac, .ref gic, .ref gan, .ref gih, .ref grk, .int (zI rc_), .ref grn, .ref grs, .ref gcc, .ref gec, .ref gcs, .ref gce, .ref ghg, .ref gop, .ref god, .int (zI cz_)])), (gsn, .inl (cJ, 12, .inr (.inl (lF sn2_)))), (gac, .inl (cI, 12, .inl (zF ac2_))), (gic, .inl (cI, 12, .inl (zF ic2_)))] t.heap ∧ va_K (dC, dI) vwCl [(cJ, .long), (cI, .int)] t ∧ va_D (va_A [(gd, .inr (2, [.ref tk, .ref xr, .ref gr, .int (zI gst_), .int (zI gri_), .int (zI gtp_), .int (zI gts_)])), (tk, .inr (3, [.ref tp, .int (zI tk_size), .int (zI tk_behind), .int (zI tk_kind), .int (zI tk_at), .long (lI tk_name), .long (lI tk_number)])), (gr, .inr (1, [.int (zI sc_), .ref gsn, .ref gac, .ref gic, .ref gan, .ref gih, .ref grk, .int (zI rc_), .ref grn, .ref grs, .ref gcc, .ref gec, .ref gcs, .ref gce, .ref ghg, .ref gop, .ref god, .int (zI cz_)])), (gsn, .inl (cJ, 12, .inr (.inl (lF sn_)))), (gac, .inl (cI, 12, .inl (zF ac_))), (gic, .inl (cI, 12, .inl (zF ic_)))] sz) [(gd, .inr (2, [.ref tk, .ref xr, .ref gr, .int (zI st2_), .int (zI gri_), .int (zI gtp_), .int (zI gts_)])), (tk, .inr (3, [.ref tp, .int (zI tk_size), .int (zI tk_behind), .int (zI tk_kind), .int (zI tk_at), .long (lI tk_name), .long (lI tk_number)])), (gr, .inr (1, [.int (zI sc2_), .ref gsn, .ref gac, .ref gic, .ref gan, .ref gih, .ref grk, .int (zI rc_), .ref grn, .ref grs, .ref gcc, .ref gec, .ref gcs, .ref gce, .ref ghg, .ref gop, .ref god, .int (zI cz_)])), (gsn, .inl (cJ, 12, .inr (.inl (lF sn2_)))), (gac, .inl (cI, 12, .inl (zF ac2_))), (gic, .inl (cI, 12, .inl (zF ic2_)))]) (va_A [(gd, .inr (2, [.ref tk, .ref xr, .ref gr, .int (zI gst_), .int (zI gri_), .int (zI gtp_), .int (zI gts_)])), (tk, .inr (3, [.ref tp, .int (zI tk_size), .int (zI tk_behind), .int (zI tk_kind), .int (zI tk_at), .long (lI tk_name), .long (lI tk_number)])), (gr, .inr (1, [.int (zI sc_), .ref gsn, .ref gac, .ref gic, .ref gan, .ref gih, .ref grk, .int (zI rc_), .ref grn, .ref grs, .ref gcc, .ref gec, .ref gcs, .ref gce, .ref ghg, .ref gop, .ref god, .int (zI cz_)])), (gsn, .inl (cJ, 12, .inr (.inl (lF sn_)))), (gac, .inl (cI, 12, .inl (zF ac_))), (gic, .inl (cI, 12, .inl (zF ic_)))] sz)) 0 0 (va_A [(gd, .inr (2, [.ref tk, .ref xr, .ref gr, .int (zI gst_), .int (zI gri_), .int (zI gtp_), .int (zI gts_)])), (tk, .inr (3, [.ref tp, .int (zI tk_size), .int (zI tk_behind), .int (zI tk_kind), .int (zI tk_at), .long (lI tk_name), .long (lI tk_number)])), (gr, .inr (1, [.int (zI sc_), .ref gsn, .ref gac, .ref gic, .ref gan, .ref gih, .ref grk, .int (zI rc_), .ref grn, .ref grs, .ref gcc, .ref gec, .ref gcs, .ref gce, .ref ghg, .ref gop, .ref god, .int (zI cz_)])), (gsn, .inl (cJ, 12, .inr (.inl (lF sn_)))), (gac, .inl (cI, 12, .inl (zF ac_))), (gic, .inl (cI, 12, .inl (zF ic_)))] sz) := by
  refine Met.ofW (cc := cX2_symbolName) (maxL := 1) (ret := (some .int)) (by decide) rfl ?_
  intro p e s m args below meth c s₁ B hml hv
  obtain ⟨rfl, hsz, hP, hK, hD0⟩ := hv
  have hx := B.exec
  have hb := B.bytes
  have hr := B.returns
  have hts := atoms_spec (ws := wyX2_symbolName) B.pre
  have hg : ∀ w ∈ lw_G, w.before _ s = true := fun w h => hts w (List.mem_cons_of_mem _ h)
  have hown : s.vm.findClass RX2 = some m.cls := findClass_of_methodNamed B.named
  have hlocks := B.notSynchronized
  subst hsz
  have hD := hD0.self (sz := s.heap.size)
  generalize hAe : va_A [(gd, .inr (2, [.ref tk, .ref xr, .ref gr, .int (zI gst_), .int (zI gri_), .int (zI gtp_), .int (zI gts_)])), (tk, .inr (3, [.ref tp, .int (zI tk_size), .int (zI tk_behind), .int (zI tk_kind), .int (zI tk_at), .long (lI tk_name), .long (lI tk_number)])), (gr, .inr (1, [.int (zI sc_), .ref gsn, .ref gac, .ref gic, .ref gan, .ref gih, .ref grk, .int (zI rc_), .ref grn, .ref grs, .ref gcc, .ref gec, .ref gcs, .ref gce, .ref ghg, .ref gop, .ref god, .int (zI cz_)])), (gsn, .inl (cJ, 12, .inr (.inl (lF sn_)))), (gac, .inl (cI, 12, .inl (zF ac_))), (gic, .inl (cI, 12, .inl (zF ic_)))] s.heap.size = A at hD ⊢
  have hA : ∀ q : Nat, s.heap.size ≤ q → A q := fun q h => by rw [← hAe]; exact Or.inr h
  have hS : va_S A s.heap s.heap [] := va_S.rf
  have hP : va_P (dC, dI) vwCl [(gd, .inr (2, [.ref tk, .ref xr, .ref gr, .int (zI gst_), .int (zI gri_), .int (zI gtp_), .int (zI gts_)])), (tk, .inr (3, [.ref tp, .int (zI tk_size), .int (zI tk_behind), .int (zI tk_kind), .int (zI tk_at), .long (lI tk_name), .long (lI tk_number)])), (gr, .inr (1, [.int (zI sc_), .ref gsn, .ref gac, .ref gic, .ref gan, .ref gih, .ref grk, .int (zI rc_), .ref grn, .ref grs, .ref gcc, .ref gec, .ref gcs, .ref gce, .ref ghg, .ref gop, .ref god, .int (zI cz_)])), (gsn, .inl (cJ, 12, .inr (.inl (lF sn_)))), (gac, .inl (cI, 12, .inl (zF ac_))), (gic, .inl (cI, 12, .inl (zF ic_)))] s.heap := hP
  have hl := lv_entry ([.ref gd]) (n := 1) (Nat.le_of_ble_eq_true rfl)
  rw [lg_entry_eq]
  generalize (lg_sl ([.ref gd]) ++ List.replicate (1 - (lg_sl ([.ref gd])).length) Slot.unset).toArray = ls at hl ⊢
  have hl : lv_has ls 1 [(0, .ref gd)] := hl
  refine lv_aload_n hx hb dX2_symbolName_0 rfl (lv_at hl 0 rfl) ?_
  refine va_get (D := (dC, dI)) (ci := 2) (v := .ref tk) (C := RX2) (T := TX2) (N := 7) hx hb hg inG_X2 hown hK hP 0 rfl rfl 0 (by decide) (hg (.fieldLink RX2 25 "AttributeDesk$GrammarReader" "tokens" "LAttributeDesk$Tokens;") gw_1_239) (fun _ h9 => h9) rfl dX2_symbolName_1 ?_
  refine va_get (D := (dC, dI)) (ci := 3) (v := .int (zI tk_kind)) (C := RX3) (T := TX3) (N := 7) hx hb hg inG_X3 hown hK hP 1 rfl rfl 3 (by decide) (hg (.fieldLink RX2 73 "AttributeDesk$Tokens" "kind" "I") gw_1_166) (fun _ h9 => h9) rfl dX2_symbolName_4 ?_
  refine lv_iconst (v := zI 1) hx hb dX2_symbolName_7 rfl ?_
  refine zv_icmp_eq (tgt := 13) hx hb dX2_symbolName_8 (by decide) (by omega) (by decide) (fun c1 => ?_) (fun c1 => ?_)
  · have hn1 := hnk (by omega)
    refine lv_aload_n hx hb dX2_symbolName_13 rfl (lv_at hl 0 rfl) ?_
    refine va_get (D := (dC, dI)) (ci := 2) (v := .ref gr) (C := RX2) (T := TX2) (N := 7) hx hb hg inG_X2 hown hK hP 0 rfl rfl 2 (by decide) (hg (.fieldLink RX2 29 "AttributeDesk$GrammarReader" "grammar" "LAttributeDesk$Grammar;") gw_2_1) (fun _ h9 => h9) rfl dX2_symbolName_14 ?_
    refine lv_aload_n hx hb dX2_symbolName_17 rfl (lv_at hl 0 rfl) ?_
    refine va_get (D := (dC, dI)) (ci := 2) (v := .ref tk) (C := RX2) (T := TX2) (N := 7) hx hb hg inG_X2 hown hK hP 0 rfl rfl 0 (by decide) (hg (.fieldLink RX2 25 "AttributeDesk$GrammarReader" "tokens" "LAttributeDesk$Tokens;") gw_1_239) (fun _ h9 => h9) rfl dX2_symbolName_18 ?_
    refine va_get (D := (dC, dI)) (ci := 3) (v := .long (lI tk_name)) (C := RX3) (T := TX3) (N := 7) hx hb hg inG_X3 hown hK hP 1 rfl rfl 5 (by decide) (hg (.fieldLink RX2 93 "AttributeDesk$Tokens" "name" "J") gw_1_171) (fun _ h9 => h9) rfl dX2_symbolName_21 ?_
    have hPc := hP.sub (ws' := [(gr, .inr (1, [.int (zI sc_), .ref gsn, .ref gac, .ref gic, .ref gan, .ref gih, .ref grk, .int (zI rc_), .ref grn, .ref grs, .ref gcc, .ref gec, .ref gcs, .ref gce, .ref ghg, .ref gop, .ref god, .int (zI cz_)])), (gsn, .inl (cJ, 12, .inr (.inl (lF sn_))))]) [2, 3] rfl
    have hDc := hD.sub (ws' := [(gr, .inr (1, [.int (zI sc_), .ref gsn, .ref gac, .ref gic, .ref gan, .ref gih, .ref grk, .int (zI rc_), .ref grn, .ref grs, .ref gcc, .ref gec, .ref gcs, .ref gce, .ref ghg, .ref gop, .ref god, .int (zI cz_)])), (gsn, .inl (cJ, 12, .inr (.inl (lF sn_))))]) [2, 3] (by decide) rfl
    have hKc := hK.sub (tys' := [(cJ, .long)]) [0] rfl
    have hFc := va_free (wc := [(gr, .inr (1, [.int (zI sc_), .ref gsn, .ref gac, .ref gic, .ref gan, .ref gih, .ref grk, .int (zI rc_), .ref grn, .ref grs, .ref gcc, .ref gec, .ref gcs, .ref gce, .ref ghg, .ref gop, .ref god, .int (zI cz_)])), (gsn, .inl (cJ, 12, .inr (.inl (lF sn_))))]) hD hS hA [2, 3] rfl
    refine va_calli (va_runV (As := [.long (lI tk_name)]) (rest := []) ⟨hx, hb, hml, hown, hg⟩ (c_X1_findSymbol l dC dI gr gsn gac gic gan gih grk grn grs gcc gec gcs gce ghg gop god cJ s.heap.size sc_ rc_ cz_ sn_ tk_name (by omega) (by omega) hsn) (cwV 1 hg gc_X2_97 rfl rfl rfl (by decide +kernel) ⟨Nat.le_of_ble_eq_true rfl, Nat.le_of_ble_eq_true rfl⟩) ⟨fun a U g mk q => by obtain ⟨q0, q1, qP, qK, qD⟩ := q; exact ⟨q0, q1, qP, va_K.moved (u := U) (U := U.calling g mk a) (Vm.Alike.refl U.vm) qK, qD⟩, va_recv hKc hPc (ci := 1) (q0 := 0) rfl rfl, fun U hU hW => ⟨rfl, by rw [hU], by rw [hU]; exact hPc, va_K.moved hW.alike hKc, hDc.weaken (fun _ _ _ _ => trivial)⟩⟩ rfl rfl hl.1 rfl (lv_room (Nat.le_of_ble_eq_true rfl)) dX2_symbolName_24 ⟨Nat.le_of_ble_eq_true rfl, Nat.le_of_ble_eq_true rfl⟩) hS (fun q _ h => hFc q h) hFc (fun r2 u2 t H1 locs ht hvm hw2 hB hz1 hk1 hS => ?_)
    obtain ⟨hP1, hK1, hD1⟩ := hB
    rw [ht] at hP1
    have hK1 := va_K.moved hvm.symm hK1
    obtain ⟨hP, hD⟩ := va_join (wr := [(gd, .inr (2, [.ref tk, .ref xr, .ref gr, .int (zI gst_), .int (zI gri_), .int (zI gtp_), .int (zI gts_)])), (tk, .inr (3, [.ref tp, .int (zI tk_size), .int (zI tk_behind), .int (zI tk_kind), .int (zI tk_at), .long (lI tk_name), .long (lI tk_number)])), (gac, .inl (cI, 12, .inl (zF ac_))), (gic, .inl (cI, 12, .inl (zF ic_)))]) (w1 := [(gr, .inr (1, [.int (zI sc_), .ref gsn, .ref gac, .ref gic, .ref gan, .ref gih, .ref grk, .int (zI rc_), .ref grn, .ref grs, .ref gcc, .ref gec, .ref gcs, .ref gce, .ref ghg, .ref gop, .ref god, .int (zI cz_)])), (gsn, .inl (cJ, 12, .inr (.inl (lF sn_))))]) hP hD [2, 3] [0, 1, 4, 5] rfl rfl (by decide) (by decide) hk1 hFc hP1 hD1
    have hK := (hK.sub (tys' := [(cI, .int)]) [1] rfl).app hK1
    generalize H1 = H at hP hS ⊢
    have hP : va_P (dC, dI) vwCl [(gd, .inr (2, [.ref tk, .ref xr, .ref gr, .int (zI gst_), .int (zI gri_), .int (zI gtp_), .int (zI gts_)])), (tk, .inr (3, [.ref tp, .int (zI tk_size), .int (zI tk_behind), .int (zI tk_kind), .int (zI tk_at), .long (lI tk_name), .long (lI tk_number)])), (gac, .inl (cI, 12, .inl (zF ac_))), (gic, .inl (cI, 12, .inl (zF ic_))), (gr, .inr (1, [.int (zI sc_), .ref gsn, .ref gac, .ref gic, .ref gan, .ref gih, .ref grk, .int (zI rc_), .ref grn, .ref grs, .ref gcc, .ref gec, .ref gcs, .ref gce, .ref ghg, .ref gop, .ref god, .int (zI cz_)])), (gsn, .inl (cJ, 12, .inr (.inl (lF sn_))))] H := hP
    have hD : va_D A [(gd, .inr (2, [.ref tk, .ref xr, .ref gr, .int (zI gst_), .int (zI gri_), .int (zI gtp_), .int (zI gts_)])), (tk, .inr (3, [.ref tp, .int (zI tk_size), .int (zI tk_behind), .int (zI tk_kind), .int (zI tk_at), .long (lI tk_name), .long (lI tk_number)])), (gac, .inl (cI, 12, .inl (zF ac_))), (gic, .inl (cI, 12, .inl (zF ic_))), (gr, .inr (1, [.int (zI sc_), .ref gsn, .ref gac, .ref gic, .ref gan, .ref gih, .ref grk, .int (zI rc_), .ref grn, .ref grs, .ref gcc, .ref gec, .ref gcs, .ref gce, .ref ghg, .ref gop, .ref god, .int (zI cz_)])), (gsn, .inl (cJ, 12, .inr (.inl (lF sn_))))] := hD
    have hK : va_K (dC, dI) vwCl [(cI, .int), (cJ, .long)] s := hK
    obtain rfl : r2 = zI ((kFnd sn_ sc_ tk_name 0)) := hw2
    have hfr := kFnd_rng sn_ sc_ tk_name 0
    refine lv_iconst (v := zI (-1)) hx hb dX2_symbolName_27 rfl ?_
    refine zv_icmp_eq (tgt := 33) hx hb dX2_symbolName_28 (by decide) (by omega) (by decide) (fun c3 => ?_) (fun c3 => ?_)
    · refine lv_aload_n hx hb dX2_symbolName_33 rfl (lv_at hl 0 rfl) ?_
      refine va_get (D := (dC, dI)) (ci := 2) (v := .ref gr) (C := RX2) (T := TX2) (N := 7) hx hb hg inG_X2 hown hK hP 0 rfl rfl 2 (by decide) (hg (.fieldLink RX2 29 "AttributeDesk$GrammarReader" "grammar" "LAttributeDesk$Grammar;") gw_2_1) (fun _ h9 => h9) rfl dX2_symbolName_34 ?_
      refine va_get (D := (dC, dI)) (ci := 1) (v := .int (zI sc_)) (C := RX1) (T := TX1) (N := 18) hx hb hg inG_X1 hown hK hP 4 rfl rfl 0 (by decide) (hg (.fieldLink RX2 101 "AttributeDesk$Grammar" "symbolCount" "I") gw_1_29) (fun _ h9 => h9) rfl dX2_symbolName_37 ?_
      refine lv_bipush (v := zI 12) hx hb dX2_symbolName_40 (by decide) ?_
      refine zv_icmp_lt (tgt := 47) hx hb dX2_symbolName_42 (by decide) (by omega) (by decide) (fun c4 => ?_) (fun c4 => ?_)
      · refine lv_aload_n hx hb dX2_symbolName_47 rfl (lv_at hl 0 rfl) ?_
        refine va_get (D := (dC, dI)) (ci := 2) (v := .ref gr) (C := RX2) (T := TX2) (N := 7) hx hb hg inG_X2 hown hK hP 0 rfl rfl 2 (by decide) (hg (.fieldLink RX2 29 "AttributeDesk$GrammarReader" "grammar" "LAttributeDesk$Grammar;") gw_2_1) (fun _ h9 => h9) rfl dX2_symbolName_48 ?_
        refine lv_aload_n hx hb dX2_symbolName_51 rfl (lv_at hl 0 rfl) ?_
        refine va_get (D := (dC, dI)) (ci := 2) (v := .ref tk) (C := RX2) (T := TX2) (N := 7) hx hb hg inG_X2 hown hK hP 0 rfl rfl 0 (by decide) (hg (.fieldLink RX2 25 "AttributeDesk$GrammarReader" "tokens" "LAttributeDesk$Tokens;") gw_1_239) (fun _ h9 => h9) rfl dX2_symbolName_52 ?_
        refine va_get (D := (dC, dI)) (ci := 3) (v := .long (lI tk_name)) (C := RX3) (T := TX3) (N := 7) hx hb hg inG_X3 hown hK hP 1 rfl rfl 5 (by decide) (hg (.fieldLink RX2 93 "AttributeDesk$Tokens" "name" "J") gw_1_171) (fun _ h9 => h9) rfl dX2_symbolName_55 ?_
        have hPc := hP.sub (ws' := [(gr, .inr (1, [.int (zI sc_), .ref gsn, .ref gac, .ref gic, .ref gan, .ref gih, .ref grk, .int (zI rc_), .ref grn, .ref grs, .ref gcc, .ref gec, .ref gcs, .ref gce, .ref ghg, .ref gop, .ref god, .int (zI cz_)])), (gsn, .inl (cJ, 12, .inr (.inl (lF sn_)))), (gac, .inl (cI, 12, .inl (zF ac_))), (gic, .inl (cI, 12, .inl (zF ic_)))]) [4, 5, 2, 3] rfl
        have hDc := hD.sub (ws' := [(gr, .inr (1, [.int (zI sc_), .ref gsn, .ref gac, .ref gic, .ref gan, .ref gih, .ref grk, .int (zI rc_), .ref grn, .ref grs, .ref gcc, .ref gec, .ref gcs, .ref gce, .ref ghg, .ref gop, .ref god, .int (zI cz_)])), (gsn, .inl (cJ, 12, .inr (.inl (lF sn_)))), (gac, .inl (cI, 12, .inl (zF ac_))), (gic, .inl (cI, 12, .inl (zF ic_)))]) [4, 5, 2, 3] (by decide) rfl
        have hKc := hK.sub (tys' := [(cJ, .long), (cI, .int)]) [1, 0] rfl
        have hFc := va_free (wc := [(gr, .inr (1, [.int (zI sc_), .ref gsn, .ref gac, .ref gic, .ref gan, .ref gih, .ref grk, .int (zI rc_), .ref grn, .ref grs, .ref gcc, .ref gec, .ref gcs, .ref gce, .ref ghg, .ref gop, .ref god, .int (zI cz_)])), (gsn, .inl (cJ, 12, .inr (.inl (lF sn_)))), (gac, .inl (cI, 12, .inl (zF ac_))), (gic, .inl (cI, 12, .inl (zF ic_)))]) hD hS hA [4, 5, 2, 3] rfl
        refine va_callv (va_runV (As := [.long (lI tk_name)]) (rest := []) ⟨hx, hb, hml, hown, hg⟩ (c_X1_addSymbol l dC dI gr gsn gac gic gan gih grk grn grs gcc gec gcs gce ghg gop god cJ cI H.size sc_ rc_ cz_ sn_ ac_ ic_ tk_name (by omega)) (cwV 1 hg gc_X2_104 rfl rfl rfl (by decide +kernel) ⟨Nat.le_of_ble_eq_true rfl, Nat.le_of_ble_eq_true rfl⟩) ⟨fun a U g mk q => by obtain ⟨q0, q1, qP, qK, qD⟩ := q; exact ⟨q0, q1, qP, va_K.moved (u := U) (U := U.calling g mk a) (Vm.Alike.refl U.vm) qK, qD⟩, va_recv hKc hPc (ci := 1) (q0 := 0) rfl rfl, fun U hU hW => ⟨rfl, by rw [hU], by rw [hU]; exact hPc, va_K.moved hW.alike hKc, hDc.weaken (fun _ _ _ _ => trivial)⟩⟩ rfl rfl hl.1 rfl (lv_room (Nat.le_of_ble_eq_true rfl)) dX2_symbolName_58 ⟨Nat.le_of_ble_eq_true rfl, Nat.le_of_ble_eq_true rfl⟩) hS (fun q _ h => hFc q h) hFc (fun u5 t H1 locs ht hvm hw5 hB hz1 hk1 hS => ?_)
        obtain ⟨hP1, hK1, hD1⟩ := hB
        rw [ht] at hP1
        have hK1 := va_K.moved hvm.symm hK1
        obtain ⟨hP, hD⟩ := va_join (wr := [(gd, .inr (2, [.ref tk, .ref xr, .ref gr, .int (zI gst_), .int (zI gri_), .int (zI gtp_), .int (zI gts_)])), (tk, .inr (3, [.ref tp, .int (zI tk_size), .int (zI tk_behind), .int (zI tk_kind), .int (zI tk_at), .long (lI tk_name), .long (lI tk_number)]))]) (w1 := [(gr, .inr (1, [.int (zI (sc_ + 1)), .ref gsn, .ref gac, .ref gic, .ref gan, .ref gih, .ref grk, .int (zI rc_), .ref grn, .ref grs, .ref gcc, .ref gec, .ref gcs, .ref gce, .ref ghg, .ref gop, .ref god, .int (zI cz_)])), (gsn, .inl (cJ, 12, .inr (.inl (lF (zU sn_ sc_ tk_name))))), (gac, .inl (cI, 12, .inl (zF (zU ac_ sc_ 0)))), (gic, .inl (cI, 12, .inl (zF (zU ic_ sc_ 0))))]) hP hD [4, 5, 2, 3] [0, 1] rfl rfl (by decide) (by decide) hk1 hFc hP1 hD1
        have hK := (hK.sub (tys' := []) [] rfl).app hK1
        generalize H1 = H at hP hS ⊢
        have hP : va_P (dC, dI) vwCl [(gd, .inr (2, [.ref tk, .ref xr, .ref gr, .int (zI gst_), .int (zI gri_), .int (zI gtp_), .int (zI gts_)])), (tk, .inr (3, [.ref tp, .int (zI tk_size), .int (zI tk_behind), .int (zI tk_kind), .int (zI tk_at), .long (lI tk_name), .long (lI tk_number)])), (gr, .inr (1, [.int (zI (sc_ + 1)), .ref gsn, .ref gac, .ref gic, .ref gan, .ref gih, .ref grk, .int (zI rc_), .ref grn, .ref grs, .ref gcc, .ref gec, .ref gcs, .ref gce, .ref ghg, .ref gop, .ref god, .int (zI cz_)])), (gsn, .inl (cJ, 12, .inr (.inl (lF (zU sn_ sc_ tk_name))))), (gac, .inl (cI, 12, .inl (zF (zU ac_ sc_ 0)))), (gic, .inl (cI, 12, .inl (zF (zU ic_ sc_ 0))))] H := hP
        have hD : va_D A [(gd, .inr (2, [.ref tk, .ref xr, .ref gr, .int (zI gst_), .int (zI gri_), .int (zI gtp_), .int (zI gts_)])), (tk, .inr (3, [.ref tp, .int (zI tk_size), .int (zI tk_behind), .int (zI tk_kind), .int (zI tk_at), .long (lI tk_name), .long (lI tk_number)])), (gr, .inr (1, [.int (zI (sc_ + 1)), .ref gsn, .ref gac, .ref gic, .ref gan, .ref gih, .ref grk, .int (zI rc_), .ref grn, .ref grs, .ref gcc, .ref gec, .ref gcs, .ref gce, .ref ghg, .ref gop, .ref god, .int (zI cz_)])), (gsn, .inl (cJ, 12, .inr (.inl (lF (zU sn_ sc_ tk_name))))), (gac, .inl (cI, 12, .inl (zF (zU ac_ sc_ 0)))), (gic, .inl (cI, 12, .inl (zF (zU ic_ sc_ 0))))] := hD
        have hK : va_K (dC, dI) vwCl [(cJ, .long), (cI, .int)] s := hK
        refine lv_aload_n hx hb dX2_symbolName_61 rfl (lv_at hl 0 rfl) ?_
        refine lv_iconst (v := zI 2) hx hb dX2_symbolName_62 rfl ?_
        have hPc := hP.sub (ws' := [(gd, .inr (2, [.ref tk, .ref xr, .ref gr, .int (zI gst_), .int (zI gri_), .int (zI gtp_), .int (zI gts_)]))]) [0] rfl
        have hDc := hD.sub (ws' := [(gd, .inr (2, [.ref tk, .ref xr, .ref gr, .int (zI gst_), .int (zI gri_), .int (zI gtp_), .int (zI gts_)]))]) [0] (by decide) rfl
        have hKc := hK.sub (tys' := []) [] rfl
        have hFc := va_free (wc := [(gd, .inr (2, [.ref tk, .ref xr, .ref gr, .int (zI gst_), .int (zI gri_), .int (zI gtp_), .int (zI gts_)]))]) hD hS hA [0] rfl
        refine va_calli (va_runV (As := [.int (zI 2)]) (rest := []) ⟨hx, hb, hml, hown, hg⟩ (c_X2_go l dC dI gd tk xr gr H.size gst_ gri_ gtp_ gts_ 2) (cwV 1 hg gc_X2_76 rfl rfl rfl (by decide +kernel) ⟨Nat.le_of_ble_eq_true rfl, Nat.le_of_ble_eq_true rfl⟩) ⟨fun a U g mk q => by obtain ⟨q0, q1, qP, qK, qD⟩ := q; exact ⟨q0, q1, qP, va_K.moved (u := U) (U := U.calling g mk a) (Vm.Alike.refl U.vm) qK, qD⟩, va_recv hKc hPc (ci := 2) (q0 := 0) rfl rfl, fun U hU hW => ⟨rfl, by rw [hU], by rw [hU]; exact hPc, va_K.moved hW.alike hKc, hDc.weaken (fun _ _ _ _ => trivial)⟩⟩ rfl rfl hl.1 rfl (lv_room (Nat.le_of_ble_eq_true rfl)) dX2_symbolName_63 ⟨Nat.le_of_ble_eq_true rfl, Nat.le_of_ble_eq_true rfl⟩) hS (fun q _ h => hFc q h) hFc (fun r6 u6 t H1 locs ht hvm hw6 hB hz1 hk1 hS => ?_)
        obtain ⟨hP1, hK1, hD1⟩ := hB
        rw [ht] at hP1
        have hK1 := va_K.moved hvm.symm hK1
        obtain ⟨hP, hD⟩ := va_join (wr := [(tk, .inr (3, [.ref tp, .int (zI tk_size), .int (zI tk_behind), .int (zI tk_kind), .int (zI tk_at), .long (lI tk_name), .long (lI tk_number)])), (gr, .inr (1, [.int (zI (sc_ + 1)), .ref gsn, .ref gac, .ref gic, .ref gan, .ref gih, .ref grk, .int (zI rc_), .ref grn, .ref grs, .ref gcc, .ref gec, .ref gcs, .ref gce, .ref ghg, .ref gop, .ref god, .int (zI cz_)])), (gsn, .inl (cJ, 12, .inr (.inl (lF (zU sn_ sc_ tk_name))))), (gac, .inl (cI, 12, .inl (zF (zU ac_ sc_ 0)))), (gic, .inl (cI, 12, .inl (zF (zU ic_ sc_ 0))))]) (w1 := [(gd, .inr (2, [.ref tk, .ref xr, .ref gr, .int (zI 2), .int (zI gri_), .int (zI gtp_), .int (zI gts_)]))]) hP hD [0] [1, 2, 3, 4, 5] rfl rfl (by decide) (by decide) hk1 hFc hP1 hD1
        have hK := (hK.sub (tys' := [(cJ, .long), (cI, .int)]) [0, 1] rfl).app hK1
        generalize H1 = H at hP hS ⊢
        have hP : va_P (dC, dI) vwCl [(tk, .inr (3, [.ref tp, .int (zI tk_size), .int (zI tk_behind), .int (zI tk_kind), .int (zI tk_at), .long (lI tk_name), .long (lI tk_number)])), (gr, .inr (1, [.int (zI (sc_ + 1)), .ref gsn, .ref gac, .ref gic, .ref gan, .ref gih, .ref grk, .int (zI rc_), .ref grn, .ref grs, .ref gcc, .ref gec, .ref gcs, .ref gce, .ref ghg, .ref gop, .ref god, .int (zI cz_)])), (gsn, .inl (cJ, 12, .inr (.inl (lF (zU sn_ sc_ tk_name))))), (gac, .inl (cI, 12, .inl (zF (zU ac_ sc_ 0)))), (gic, .inl (cI, 12, .inl (zF (zU ic_ sc_ 0)))), (gd, .inr (2, [.ref tk, .ref xr, .ref gr, .int (zI 2), .int (zI gri_), .int (zI gtp_), .int (zI gts_)]))] H := hP
        have hD : va_D A [(tk, .inr (3, [.ref tp, .int (zI tk_size), .int (zI tk_behind), .int (zI tk_kind), .int (zI tk_at), .long (lI tk_name), .long (lI tk_number)])), (gr, .inr (1, [.int (zI (sc_ + 1)), .ref gsn, .ref gac, .ref gic, .ref gan, .ref gih, .ref grk, .int (zI rc_), .ref grn, .ref grs, .ref gcc, .ref gec, .ref gcs, .ref gce, .ref ghg, .ref gop, .ref god, .int (zI cz_)])), (gsn, .inl (cJ, 12, .inr (.inl (lF (zU sn_ sc_ tk_name))))), (gac, .inl (cI, 12, .inl (zF (zU ac_ sc_ 0)))), (gic, .inl (cI, 12, .inl (zF (zU ic_ sc_ 0)))), (gd, .inr (2, [.ref tk, .ref xr, .ref gr, .int (zI 2), .int (zI gri_), .int (zI gtp_), .int (zI gts_)]))] := hD
        have hK : va_K (dC, dI) vwCl [(cJ, .long), (cI, .int)] s := hK
        obtain rfl : r6 = zI 0 := hw6
        have hP9 := hP.sub (ws' := [(gd, .inr (2, [.ref tk, .ref xr, .ref gr, .int (zI 2), .int (zI gri_), .int (zI gtp_), .int (zI gts_)])), (tk, .inr (3, [.ref tp, .int (zI tk_size), .int (zI tk_behind), .int (zI tk_kind), .int (zI tk_at), .long (lI tk_name), .long (lI tk_number)])), (gr, .inr (1, [.int (zI (sc_ + 1)), .ref gsn, .ref gac, .ref gic, .ref gan, .ref gih, .ref grk, .int (zI rc_), .ref grn, .ref grs, .ref gcc, .ref gec, .ref gcs, .ref gce, .ref ghg, .ref gop, .ref god, .int (zI cz_)])), (gsn, .inl (cJ, 12, .inr (.inl (lF (zU sn_ sc_ tk_name))))), (gac, .inl (cI, 12, .inl (zF (zU ac_ sc_ 0)))), (gic, .inl (cI, 12, .inl (zF (zU ic_ sc_ 0))))]) [5, 0, 1, 2, 3, 4] rfl
        have hD9 := hD.sub (ws' := [(gd, .inr (2, [.ref tk, .ref xr, .ref gr, .int (zI 2), .int (zI gri_), .int (zI gtp_), .int (zI gts_)])), (tk, .inr (3, [.ref tp, .int (zI tk_size), .int (zI tk_behind), .int (zI tk_kind), .int (zI tk_at), .long (lI tk_name), .long (lI tk_number)])), (gr, .inr (1, [.int (zI (sc_ + 1)), .ref gsn, .ref gac, .ref gic, .ref gan, .ref gih, .ref grk, .int (zI rc_), .ref grn, .ref grs, .ref gcc, .ref gec, .ref gcs, .ref gce, .ref ghg, .ref gop, .ref god, .int (zI cz_)])), (gsn, .inl (cJ, 12, .inr (.inl (lF (zU sn_ sc_ tk_name))))), (gac, .inl (cI, 12, .inl (zF (zU ac_ sc_ 0)))), (gic, .inl (cI, 12, .inl (zF (zU ic_ sc_ 0))))]) [5, 0, 1, 2, 3, 4] (by decide) rfl
        have hK9 := hK.sub (tys' := [(cJ, .long), (cI, .int)]) [0, 1] rfl
        exact W.iret (v := zI 0) hx hb hr (fun t ht hW => ⟨⟨zI 0, 0, rfl, rfl, 2, (sc_ + 1), (zU sn_ sc_ tk_name), (zU ac_ sc_ 0), (zU ic_ sc_ 0), (Or.inr ⟨rfl, by omega, by omega, by omega, rfl, rfl, rfl, rfl, rfl⟩), by rw [ht]; exact hP9, va_K.moved hW.alike hK9, hD9⟩, hS.F ht⟩) hS.2.2 dX2_symbolName_66
      · refine lv_iconst (v := zI 4) hx hb dX2_symbolName_45 rfl ?_
        have hP9 := hP.sub (ws' := [(gd, .inr (2, [.ref tk, .ref xr, .ref gr, .int (zI gst_), .int (zI gri_), .int (zI gtp_), .int (zI gts_)])), (tk, .inr (3, [.ref tp, .int (zI tk_size), .int (zI tk_behind), .int (zI tk_kind), .int (zI tk_at), .long (lI tk_name), .long (lI tk_number)])), (gr, .inr (1, [.int (zI sc_), .ref gsn, .ref gac, .ref gic, .ref gan, .ref gih, .ref grk, .int (zI rc_), .ref grn, .ref grs, .ref gcc, .ref gec, .ref gcs, .ref gce, .ref ghg, .ref gop, .ref god, .int (zI cz_)])), (gsn, .inl (cJ, 12, .inr (.inl (lF sn_)))), (gac, .inl (cI, 12, .inl (zF ac_))), (gic, .inl (cI, 12, .inl (zF ic_)))]) [0, 1, 4, 5, 2, 3] rfl
        have hD9 := hD.sub (ws' := [(gd, .inr (2, [.ref tk, .ref xr, .ref gr, .int (zI gst_), .int (zI gri_), .int (zI gtp_), .int (zI gts_)])), (tk, .inr (3, [.ref tp, .int (zI tk_size), .int (zI tk_behind), .int (zI tk_kind), .int (zI tk_at), .long (lI tk_name), .long (lI tk_number)])), (gr, .inr (1, [.int (zI sc_), .ref gsn, .ref gac, .ref gic, .ref gan, .ref gih, .ref grk, .int (zI rc_), .ref grn, .ref grs, .ref gcc, .ref gec, .ref gcs, .ref gce, .ref ghg, .ref gop, .ref god, .int (zI cz_)])), (gsn, .inl (cJ, 12, .inr (.inl (lF sn_)))), (gac, .inl (cI, 12, .inl (zF ac_))), (gic, .inl (cI, 12, .inl (zF ic_)))]) [0, 1, 4, 5, 2, 3] (by decide) rfl
        have hK9 := hK.sub (tys' := [(cJ, .long), (cI, .int)]) [1, 0] rfl
        exact W.iret (v := zI 4) hx hb hr (fun t ht hW => ⟨⟨zI 4, 4, rfl, rfl, gst_, sc_, sn_, ac_, ic_, (Or.inl ⟨Or.inr (Or.inr ⟨rfl, by omega, by omega, by omega⟩), rfl, rfl, rfl, rfl, rfl⟩), by rw [ht]; exact hP9, va_K.moved hW.alike hK9, hD9⟩, hS.F ht⟩) hS.2.2 dX2_symbolName_46
    · refine lv_iconst (v := zI 2) hx hb dX2_symbolName_31 rfl ?_
      have hP9 := hP.sub (ws' := [(gd, .inr (2, [.ref tk, .ref xr, .ref gr, .int (zI gst_), .int (zI gri_), .int (zI gtp_), .int (zI gts_)])), (tk, .inr (3, [.ref tp, .int (zI tk_size), .int (zI tk_behind), .int (zI tk_kind), .int (zI tk_at), .long (lI tk_name), .long (lI tk_number)])), (gr, .inr (1, [.int (zI sc_), .ref gsn, .ref gac, .ref gic, .ref gan, .ref gih, .ref grk, .int (zI rc_), .ref grn, .ref grs, .ref gcc, .ref gec, .ref gcs, .ref gce, .ref ghg, .ref gop, .ref god, .int (zI cz_)])), (gsn, .inl (cJ, 12, .inr (.inl (lF sn_)))), (gac, .inl (cI, 12, .inl (zF ac_))), (gic, .inl (cI, 12, .inl (zF ic_)))]) [0, 1, 4, 5, 2, 3] rfl
      have hD9 := hD.sub (ws' := [(gd, .inr (2, [.ref tk, .ref xr, .ref gr, .int (zI gst_), .int (zI gri_), .int (zI gtp_), .int (zI gts_)])), (tk, .inr (3, [.ref tp, .int (zI tk_size), .int (zI tk_behind), .int (zI tk_kind), .int (zI tk_at), .long (lI tk_name), .long (lI tk_number)])), (gr, .inr (1, [.int (zI sc_), .ref gsn, .ref gac, .ref gic, .ref gan, .ref gih, .ref grk, .int (zI rc_), .ref grn, .ref grs, .ref gcc, .ref gec, .ref gcs, .ref gce, .ref ghg, .ref gop, .ref god, .int (zI cz_)])), (gsn, .inl (cJ, 12, .inr (.inl (lF sn_)))), (gac, .inl (cI, 12, .inl (zF ac_))), (gic, .inl (cI, 12, .inl (zF ic_)))]) [0, 1, 4, 5, 2, 3] (by decide) rfl
      have hK9 := hK.sub (tys' := [(cJ, .long), (cI, .int)]) [1, 0] rfl
      exact W.iret (v := zI 2) hx hb hr (fun t ht hW => ⟨⟨zI 2, 2, rfl, rfl, gst_, sc_, sn_, ac_, ic_, (Or.inl ⟨Or.inr (Or.inl ⟨rfl, by omega, by omega⟩), rfl, rfl, rfl, rfl, rfl⟩), by rw [ht]; exact hP9, va_K.moved hW.alike hK9, hD9⟩, hS.F ht⟩) hS.2.2 dX2_symbolName_32
  · refine lv_iconst (v := zI 1) hx hb dX2_symbolName_11 rfl ?_
    have hP9 := hP.sub (ws' := [(gd, .inr (2, [.ref tk, .ref xr, .ref gr, .int (zI gst_), .int (zI gri_), .int (zI gtp_), .int (zI gts_)])), (tk, .inr (3, [.ref tp, .int (zI tk_size), .int (zI tk_behind), .int (zI tk_kind), .int (zI tk_at), .long (lI tk_name), .long (lI tk_number)])), (gr, .inr (1, [.int (zI sc_), .ref gsn, .ref gac, .ref gic, .ref gan, .ref gih, .ref grk, .int (zI rc_), .ref grn, .ref grs, .ref gcc, .ref gec, .ref gcs, .ref gce, .ref ghg, .ref gop, .ref god, .int (zI cz_)])), (gsn, .inl (cJ, 12, .inr (.inl (lF sn_)))), (gac, .inl (cI, 12, .inl (zF ac_))), (gic, .inl (cI, 12, .inl (zF ic_)))]) [0, 1, 2, 3, 4, 5] rfl
    have hD9 := hD.sub (ws' := [(gd, .inr (2, [.ref tk, .ref xr, .ref gr, .int (zI gst_), .int (zI gri_), .int (zI gtp_), .int (zI gts_)])), (tk, .inr (3, [.ref tp, .int (zI tk_size), .int (zI tk_behind), .int (zI tk_kind), .int (zI tk_at), .long (lI tk_name), .long (lI tk_number)])), (gr, .inr (1, [.int (zI sc_), .ref gsn, .ref gac, .ref gic, .ref gan, .ref gih, .ref grk, .int (zI rc_), .ref grn, .ref grs, .ref gcc, .ref gec, .ref gcs, .ref gce, .ref ghg, .ref gop, .ref god, .int (zI cz_)])), (gsn, .inl (cJ, 12, .inr (.inl (lF sn_)))), (gac, .inl (cI, 12, .inl (zF ac_))), (gic, .inl (cI, 12, .inl (zF ic_)))]) [0, 1, 2, 3, 4, 5] (by decide) rfl
    have hK9 := hK.sub (tys' := [(cJ, .long), (cI, .int)]) [0, 1] rfl
    exact W.iret (v := zI 1) hx hb hr (fun t ht hW => ⟨⟨zI 1, 1, rfl, rfl, gst_, sc_, sn_, ac_, ic_, (Or.inl ⟨Or.inl ⟨rfl, by omega⟩, rfl, rfl, rfl, rfl, rfl⟩), by rw [ht]; exact hP9, va_K.moved hW.alike hK9, hD9⟩, hS.F ht⟩) hS.2.2 dX2_symbolName_12

set_option maxHeartbeats 4000000 in
set_option maxRecDepth 100000 in
theorem c_X2_symbolBody (l : Launch) (dC : Nat → ClassId) (dI : Nat → Nat → Nat) (gd tk xr gr tp : Nat) (sz : Nat) (gst_ : Int) (gri_ : Int) (gtp_ : Int) (gts_ : Int) (tk_size : Int) (tk_behind : Int) (tk_kind : Int) (tk_at : Int) (tk_name : Int) (tk_number : Int) (hkr : -128 ≤ tk_kind ∧ tk_kind < 128) : Met l yX2_symbolBody wyX2_symbolBody ({ frames := 1, cells := 0, slots := 0, locals := 21 }) (va_Pc [.ref gd] (fun U => U.heap.size = sz ∧ va_P (dC, dI) vwCl [(gd, .inr (2, [.ref tk, .ref xr, .ref gr, .int (zI gst_), .int (zI gri_), .int (zI gtp_), .int (zI gts_)])), (tk, .inr (3, [.ref tp, .int (zI tk_size), .int (zI tk_behind), .int (zI tk_kind), .int (zI tk_at), .long (lI tk_name), .long (lI tk_number)]))] U.heap ∧ va_K (dC, dI) vwCl [] U ∧ va_D (fun _ => True) [(gd, .inr (2, [.ref tk, .ref xr, .ref gr, .int (zI gst_), .int (zI gri_), .int (zI gtp_), .int (zI gts_)])), (tk, .inr (3, [.ref tp, .int (zI tk_size), .int (zI tk_behind), .int (zI tk_kind), .int (zI tk_at), .long (lI tk_name), .long (lI tk_number)]))])) (va_Qi (fun (rr : Int32) (r : Int) => rr = zI r) (fun r t => ∃ (st2_ : Int), ∃ (ri2_ : Int), (oSymB tk_kind gst_ gri_ r st2_ ri2_) ∧ va_P (dC, dI) vwCl [(gd, .inr (2, [.ref tk, .ref xr, .ref gr, .int (zI st2_), .int (zI ri2_), .int (zI gtp_), .int (zI gts_)])), (tk, .inr (3, [.ref tp, .int (zI tk_size), .int (zI tk_behind), .int (zI tk_kind), .int (zI tk_at), .long (lI tk_name), .long (lI tk_number)]))] t.heap ∧ va_K (dC, dI) vwCl [] t ∧ va_D (va_A [(gd, .inr (2, [.ref tk, .ref xr, .ref gr, .int (zI gst_), .int (zI gri_), .int (zI gtp_), .int (zI gts_)])), (tk, .inr (3, [.ref tp, .int (zI tk_size), .int (zI tk_behind), .int (zI tk_kind), .int (zI tk_at), .long (lI tk_name), .long (lI tk_number)]))] sz) [(gd, .inr (2, [.ref tk, .ref xr, .ref gr, .int (zI st2_), .int (zI ri2_), .int (zI gtp_), .int (zI gts_)])), (tk, .inr (3, [.ref tp, .int (zI tk_size), .int (zI tk_behind), .int (zI tk_kind), .int (zI tk_at), .long (lI tk_name), .long (lI tk_number)]))]) (va_A [(gd, .inr (2, [.ref tk, .ref xr, .ref gr, .int (zI gst_), .int (zI gri_), .int (zI gtp_), .int (zI gts_)])), (tk, .inr (3, [.ref tp, .int (zI tk_size), .int (zI tk_behind), .int (zI tk_kind), .int (zI tk_at), .long (lI tk_name), .long (lI tk_number)]))] sz)) 0 0 (va_A [(gd, .inr (2, [.ref tk, .ref xr, .ref gr, .int (zI gst_), .int (zI gri_), .int (zI gtp_), .int (zI gts_)])), (tk, .inr (3, [.ref tp, .int (zI tk_size), .int (zI tk_behind), .int (zI tk_kind), .int (zI tk_at), .long (lI tk_name), .long (lI tk_number)]))] sz) := by
  refine Met.ofW (cc := cX2_symbolBody) (maxL := 1) (ret := (some .int)) (by decide) rfl ?_
  intro p e s m args below meth c s₁ B hml hv
  obtain ⟨rfl, hsz, hP, hK, hD0⟩ := hv
  have hx := B.exec
  have hb := B.bytes
  have hr := B.returns
  have hts := atoms_spec (ws := wyX2_symbolBody) B.pre
  have hg : ∀ w ∈ lw_G, w.before _ s = true := fun w h => hts w (List.mem_cons_of_mem _ h)
  have hown : s.vm.findClass RX2 = some m.cls := findClass_of_methodNamed B.named
  have hlocks := B.notSynchronized
  subst hsz
  have hD := hD0.self (sz := s.heap.size)
  generalize hAe : va_A [(gd, .inr (2, [.ref tk, .ref xr, .ref gr, .int (zI gst_), .int (zI gri_), .int (zI gtp_), .int (zI gts_)])), (tk, .inr (3, [.ref tp, .int (zI tk_size), .int (zI tk_behind), .int (zI tk_kind), .int (zI tk_at), .long (lI tk_name), .long (lI tk_number)]))] s.heap.size = A at hD ⊢
  have hA : ∀ q : Nat, s.heap.size ≤ q → A q := fun q h => by rw [← hAe]; exact Or.inr h
  have hS : va_S A s.heap s.heap [] := va_S.rf
  have hP : va_P (dC, dI) vwCl [(gd, .inr (2, [.ref tk, .ref xr, .ref gr, .int (zI gst_), .int (zI gri_), .int (zI gtp_), .int (zI gts_)])), (tk, .inr (3, [.ref tp, .int (zI tk_size), .int (zI tk_behind), .int (zI tk_kind), .int (zI tk_at), .long (lI tk_name), .long (lI tk_number)]))] s.heap := hP
  have hl := lv_entry ([.ref gd]) (n := 1) (Nat.le_of_ble_eq_true rfl)
  rw [lg_entry_eq]
  generalize (lg_sl ([.ref gd]) ++ List.replicate (1 - (lg_sl ([.ref gd])).length) Slot.unset).toArray = ls at hl ⊢
  have hl : lv_has ls 1 [(0, .ref gd)] := hl
  refine lv_aload_n hx hb dX2_symbolBody_0 rfl (lv_at hl 0 rfl) ?_
  refine va_get (D := (dC, dI)) (ci := 2) (v := .ref tk) (C := RX2) (T := TX2) (N := 7) hx hb hg inG_X2 hown hK hP 0 rfl rfl 0 (by decide) (hg (.fieldLink RX2 25 "AttributeDesk$GrammarReader" "tokens" "LAttributeDesk$Tokens;") gw_1_239) (fun _ h9 => h9) rfl dX2_symbolBody_1 ?_
  refine va_get (D := (dC, dI)) (ci := 3) (v := .int (zI tk_kind)) (C := RX3) (T := TX3) (N := 7) hx hb hg inG_X3 hown hK hP 1 rfl rfl 3 (by decide) (hg (.fieldLink RX2 73 "AttributeDesk$Tokens" "kind" "I") gw_1_166) (fun _ h9 => h9) rfl dX2_symbolBody_4 ?_
  refine lv_bipush (v := zI 59) hx hb dX2_symbolBody_7 (by decide) ?_
  refine zv_icmp_ne (tgt := 18) hx hb dX2_symbolBody_9 (by decide) (by omega) (by decide) (fun c1 => ?_) (fun c1 => ?_)
  · refine lv_aload_n hx hb dX2_symbolBody_18 rfl (lv_at hl 0 rfl) ?_
    refine va_get (D := (dC, dI)) (ci := 2) (v := .ref tk) (C := RX2) (T := TX2) (N := 7) hx hb hg inG_X2 hown hK hP 0 rfl rfl 0 (by decide) (hg (.fieldLink RX2 25 "AttributeDesk$GrammarReader" "tokens" "LAttributeDesk$Tokens;") gw_1_239) (fun _ h9 => h9) rfl dX2_symbolBody_19 ?_
    refine va_get (D := (dC, dI)) (ci := 3) (v := .int (zI tk_kind)) (C := RX3) (T := TX3) (N := 7) hx hb hg inG_X3 hown hK hP 1 rfl rfl 3 (by decide) (hg (.fieldLink RX2 73 "AttributeDesk$Tokens" "kind" "I") gw_1_166) (fun _ h9 => h9) rfl dX2_symbolBody_22 ?_
    refine lv_iconst (v := zI 4) hx hb dX2_symbolBody_25 rfl ?_
    refine zv_icmp_eq (tgt := 42) hx hb dX2_symbolBody_26 (by decide) (by omega) (by decide) (fun c2 => ?_) (fun c2 => ?_)
    · refine lv_aload_n hx hb dX2_symbolBody_42 rfl (lv_at hl 0 rfl) ?_
      refine lv_aload_n hx hb dX2_symbolBody_43 rfl (lv_at hl 0 rfl) ?_
      refine va_get (D := (dC, dI)) (ci := 2) (v := .ref tk) (C := RX2) (T := TX2) (N := 7) hx hb hg inG_X2 hown hK hP 0 rfl rfl 0 (by decide) (hg (.fieldLink RX2 25 "AttributeDesk$GrammarReader" "tokens" "LAttributeDesk$Tokens;") gw_1_239) (fun _ h9 => h9) rfl dX2_symbolBody_44 ?_
      refine va_get (D := (dC, dI)) (ci := 3) (v := .int (zI tk_kind)) (C := RX3) (T := TX3) (N := 7) hx hb hg inG_X3 hown hK hP 1 rfl rfl 3 (by decide) (hg (.fieldLink RX2 73 "AttributeDesk$Tokens" "kind" "I") gw_1_166) (fun _ h9 => h9) rfl dX2_symbolBody_47 ?_
      refine lv_iconst (v := zI 4) hx hb dX2_symbolBody_50 rfl ?_
      refine zv_icmp_ne (tgt := 58) hx hb dX2_symbolBody_51 (by decide) (by omega) (by decide) (fun c3 => ?_) (fun c3 => ?_)
      · refine lv_iconst (v := zI 0) hx hb dX2_symbolBody_58 rfl ?_
        refine va_put (D := (dC, dI)) (ci := 2) (v := .int (zI 0)) (ty := .boolean) (C := RX2) (T := TX2) (N := 7) hx hb hg inG_X2 tyX2 tyX2_ok nmX2 hown hK hP hD hS 0 rfl rfl 4 (by decide) (hg (.fieldLink RX2 15 "AttributeDesk$GrammarReader" "readsInherited" "Z") gw_2_3) (fun _ h9 => h9) rfl (by decide +kernel) rfl rfl (Nat.le_of_ble_eq_true rfl) dX2_symbolBody_59 (fun H locs hP hD hS => ?_)
        have hP : va_P (dC, dI) vwCl [(gd, .inr (2, [.ref tk, .ref xr, .ref gr, .int (zI gst_), .int (zI 0), .int (zI gtp_), .int (zI gts_)])), (tk, .inr (3, [.ref tp, .int (zI tk_size), .int (zI tk_behind), .int (zI tk_kind), .int (zI tk_at), .long (lI tk_name), .long (lI tk_number)]))] H := hP
        have hD : va_D A [(gd, .inr (2, [.ref tk, .ref xr, .ref gr, .int (zI gst_), .int (zI 0), .int (zI gtp_), .int (zI gts_)])), (tk, .inr (3, [.ref tp, .int (zI tk_size), .int (zI tk_behind), .int (zI tk_kind), .int (zI tk_at), .long (lI tk_name), .long (lI tk_number)]))] := hD
        refine lv_aload_n hx hb dX2_symbolBody_62 rfl (lv_at hl 0 rfl) ?_
        refine lv_iconst (v := zI 3) hx hb dX2_symbolBody_63 rfl ?_
        have hPc := hP.sub (ws' := [(gd, .inr (2, [.ref tk, .ref xr, .ref gr, .int (zI gst_), .int (zI 0), .int (zI gtp_), .int (zI gts_)]))]) [0] rfl
        have hDc := hD.sub (ws' := [(gd, .inr (2, [.ref tk, .ref xr, .ref gr, .int (zI gst_), .int (zI 0), .int (zI gtp_), .int (zI gts_)]))]) [0] (by decide) rfl
        have hKc := hK.sub (tys' := []) [] rfl
        have hFc := va_free (wc := [(gd, .inr (2, [.ref tk, .ref xr, .ref gr, .int (zI gst_), .int (zI 0), .int (zI gtp_), .int (zI gts_)]))]) hD hS hA [0] rfl
        refine va_calli (va_runV (As := [.int (zI 3)]) (rest := []) ⟨hx, hb, hml, hown, hg⟩ (c_X2_go l dC dI gd tk xr gr H.size gst_ 0 gtp_ gts_ 3) (cwV 1 hg gc_X2_76 rfl rfl rfl (by decide +kernel) ⟨Nat.le_of_ble_eq_true rfl, Nat.le_of_ble_eq_true rfl⟩) ⟨fun a U g mk q => by obtain ⟨q0, q1, qP, qK, qD⟩ := q; exact ⟨q0, q1, qP, va_K.moved (u := U) (U := U.calling g mk a) (Vm.Alike.refl U.vm) qK, qD⟩, va_recv hKc hPc (ci := 2) (q0 := 0) rfl rfl, fun U hU hW => ⟨rfl, by rw [hU], by rw [hU]; exact hPc, va_K.moved hW.alike hKc, hDc.weaken (fun _ _ _ _ => trivial)⟩⟩ rfl rfl hl.1 rfl (lv_room (Nat.le_of_ble_eq_true rfl)) dX2_symbolBody_64 ⟨Nat.le_of_ble_eq_true rfl, Nat.le_of_ble_eq_true rfl⟩) hS (fun q _ h => hFc q h) hFc (fun r4 u4 t H1 locs ht hvm hw4 hB hz1 hk1 hS => ?_)
        obtain ⟨hP1, hK1, hD1⟩ := hB
        rw [ht] at hP1
        have hK1 := va_K.moved hvm.symm hK1
        obtain ⟨hP, hD⟩ := va_join (wr := [(tk, .inr (3, [.ref tp, .int (zI tk_size), .int (zI tk_behind), .int (zI tk_kind), .int (zI tk_at), .long (lI tk_name), .long (lI tk_number)]))]) (w1 := [(gd, .inr (2, [.ref tk, .ref xr, .ref gr, .int (zI 3), .int (zI 0), .int (zI gtp_), .int (zI gts_)]))]) hP hD [0] [1] rfl rfl (by decide) (by decide) hk1 hFc hP1 hD1
        have hK := (hK.sub (tys' := []) [] rfl).app hK1
        generalize H1 = H at hP hS ⊢
        have hP : va_P (dC, dI) vwCl [(tk, .inr (3, [.ref tp, .int (zI tk_size), .int (zI tk_behind), .int (zI tk_kind), .int (zI tk_at), .long (lI tk_name), .long (lI tk_number)])), (gd, .inr (2, [.ref tk, .ref xr, .ref gr, .int (zI 3), .int (zI 0), .int (zI gtp_), .int (zI gts_)]))] H := hP
        have hD : va_D A [(tk, .inr (3, [.ref tp, .int (zI tk_size), .int (zI tk_behind), .int (zI tk_kind), .int (zI tk_at), .long (lI tk_name), .long (lI tk_number)])), (gd, .inr (2, [.ref tk, .ref xr, .ref gr, .int (zI 3), .int (zI 0), .int (zI gtp_), .int (zI gts_)]))] := hD
        have hK : va_K (dC, dI) vwCl [] s := hK
        obtain rfl : r4 = zI 0 := hw4
        have hP9 := hP.sub (ws' := [(gd, .inr (2, [.ref tk, .ref xr, .ref gr, .int (zI 3), .int (zI 0), .int (zI gtp_), .int (zI gts_)])), (tk, .inr (3, [.ref tp, .int (zI tk_size), .int (zI tk_behind), .int (zI tk_kind), .int (zI tk_at), .long (lI tk_name), .long (lI tk_number)]))]) [1, 0] rfl
        have hD9 := hD.sub (ws' := [(gd, .inr (2, [.ref tk, .ref xr, .ref gr, .int (zI 3), .int (zI 0), .int (zI gtp_), .int (zI gts_)])), (tk, .inr (3, [.ref tp, .int (zI tk_size), .int (zI tk_behind), .int (zI tk_kind), .int (zI tk_at), .long (lI tk_name), .long (lI tk_number)]))]) [1, 0] (by decide) rfl
        have hK9 := hK.sub (tys' := []) [] rfl
        exact W.iret (v := zI 0) hx hb hr (fun t ht hW => ⟨⟨zI 0, 0, rfl, rfl, 3, 0, (Or.inr (Or.inr (Or.inr ⟨rfl, by omega, rfl, rfl⟩))), by rw [ht]; exact hP9, va_K.moved hW.alike hK9, hD9⟩, hS.F ht⟩) hS.2.2 dX2_symbolBody_67
      · refine lv_iconst (v := zI 1) hx hb dX2_symbolBody_54 rfl ?_
        refine lv_goto (tgt := 59) hx hb dX2_symbolBody_55 (by decide) ?_
        refine va_put (D := (dC, dI)) (ci := 2) (v := .int (zI 1)) (ty := .boolean) (C := RX2) (T := TX2) (N := 7) hx hb hg inG_X2 tyX2 tyX2_ok nmX2 hown hK hP hD hS 0 rfl rfl 4 (by decide) (hg (.fieldLink RX2 15 "AttributeDesk$GrammarReader" "readsInherited" "Z") gw_2_3) (fun _ h9 => h9) rfl (by decide +kernel) rfl rfl (Nat.le_of_ble_eq_true rfl) dX2_symbolBody_59 (fun H locs hP hD hS => ?_)
        have hP : va_P (dC, dI) vwCl [(gd, .inr (2, [.ref tk, .ref xr, .ref gr, .int (zI gst_), .int (zI 1), .int (zI gtp_), .int (zI gts_)])), (tk, .inr (3, [.ref tp, .int (zI tk_size), .int (zI tk_behind), .int (zI tk_kind), .int (zI tk_at), .long (lI tk_name), .long (lI tk_number)]))] H := hP
        have hD : va_D A [(gd, .inr (2, [.ref tk, .ref xr, .ref gr, .int (zI gst_), .int (zI 1), .int (zI gtp_), .int (zI gts_)])), (tk, .inr (3, [.ref tp, .int (zI tk_size), .int (zI tk_behind), .int (zI tk_kind), .int (zI tk_at), .long (lI tk_name), .long (lI tk_number)]))] := hD
        refine lv_aload_n hx hb dX2_symbolBody_62 rfl (lv_at hl 0 rfl) ?_
        refine lv_iconst (v := zI 3) hx hb dX2_symbolBody_63 rfl ?_
        have hPc := hP.sub (ws' := [(gd, .inr (2, [.ref tk, .ref xr, .ref gr, .int (zI gst_), .int (zI 1), .int (zI gtp_), .int (zI gts_)]))]) [0] rfl
        have hDc := hD.sub (ws' := [(gd, .inr (2, [.ref tk, .ref xr, .ref gr, .int (zI gst_), .int (zI 1), .int (zI gtp_), .int (zI gts_)]))]) [0] (by decide) rfl
        have hKc := hK.sub (tys' := []) [] rfl
        have hFc := va_free (wc := [(gd, .inr (2, [.ref tk, .ref xr, .ref gr, .int (zI gst_), .int (zI 1), .int (zI gtp_), .int (zI gts_)]))]) hD hS hA [0] rfl
        refine va_calli (va_runV (As := [.int (zI 3)]) (rest := []) ⟨hx, hb, hml, hown, hg⟩ (c_X2_go l dC dI gd tk xr gr H.size gst_ 1 gtp_ gts_ 3) (cwV 1 hg gc_X2_76 rfl rfl rfl (by decide +kernel) ⟨Nat.le_of_ble_eq_true rfl, Nat.le_of_ble_eq_true rfl⟩) ⟨fun a U g mk q => by obtain ⟨q0, q1, qP, qK, qD⟩ := q; exact ⟨q0, q1, qP, va_K.moved (u := U) (U := U.calling g mk a) (Vm.Alike.refl U.vm) qK, qD⟩, va_recv hKc hPc (ci := 2) (q0 := 0) rfl rfl, fun U hU hW => ⟨rfl, by rw [hU], by rw [hU]; exact hPc, va_K.moved hW.alike hKc, hDc.weaken (fun _ _ _ _ => trivial)⟩⟩ rfl rfl hl.1 rfl (lv_room (Nat.le_of_ble_eq_true rfl)) dX2_symbolBody_64 ⟨Nat.le_of_ble_eq_true rfl, Nat.le_of_ble_eq_true rfl⟩) hS (fun q _ h => hFc q h) hFc (fun r5 u5 t H1 locs ht hvm hw5 hB hz1 hk1 hS => ?_)
        obtain ⟨hP1, hK1, hD1⟩ := hB
        rw [ht] at hP1
        have hK1 := va_K.moved hvm.symm hK1
        obtain ⟨hP, hD⟩ := va_join (wr := [(tk, .inr (3, [.ref tp, .int (zI tk_size), .int (zI tk_behind), .int (zI tk_kind), .int (zI tk_at), .long (lI tk_name), .long (lI tk_number)]))]) (w1 := [(gd, .inr (2, [.ref tk, .ref xr, .ref gr, .int (zI 3), .int (zI 1), .int (zI gtp_), .int (zI gts_)]))]) hP hD [0] [1] rfl rfl (by decide) (by decide) hk1 hFc hP1 hD1
        have hK := (hK.sub (tys' := []) [] rfl).app hK1
        generalize H1 = H at hP hS ⊢
        have hP : va_P (dC, dI) vwCl [(tk, .inr (3, [.ref tp, .int (zI tk_size), .int (zI tk_behind), .int (zI tk_kind), .int (zI tk_at), .long (lI tk_name), .long (lI tk_number)])), (gd, .inr (2, [.ref tk, .ref xr, .ref gr, .int (zI 3), .int (zI 1), .int (zI gtp_), .int (zI gts_)]))] H := hP
        have hD : va_D A [(tk, .inr (3, [.ref tp, .int (zI tk_size), .int (zI tk_behind), .int (zI tk_kind), .int (zI tk_at), .long (lI tk_name), .long (lI tk_number)])), (gd, .inr (2, [.ref tk, .ref xr, .ref gr, .int (zI 3), .int (zI 1), .int (zI gtp_), .int (zI gts_)]))] := hD
        have hK : va_K (dC, dI) vwCl [] s := hK
        obtain rfl : r5 = zI 0 := hw5
        have hP9 := hP.sub (ws' := [(gd, .inr (2, [.ref tk, .ref xr, .ref gr, .int (zI 3), .int (zI 1), .int (zI gtp_), .int (zI gts_)])), (tk, .inr (3, [.ref tp, .int (zI tk_size), .int (zI tk_behind), .int (zI tk_kind), .int (zI tk_at), .long (lI tk_name), .long (lI tk_number)]))]) [1, 0] rfl
        have hD9 := hD.sub (ws' := [(gd, .inr (2, [.ref tk, .ref xr, .ref gr, .int (zI 3), .int (zI 1), .int (zI gtp_), .int (zI gts_)])), (tk, .inr (3, [.ref tp, .int (zI tk_size), .int (zI tk_behind), .int (zI tk_kind), .int (zI tk_at), .long (lI tk_name), .long (lI tk_number)]))]) [1, 0] (by decide) rfl
        have hK9 := hK.sub (tys' := []) [] rfl
        exact W.iret (v := zI 0) hx hb hr (fun t ht hW => ⟨⟨zI 0, 0, rfl, rfl, 3, 1, (Or.inr (Or.inr (Or.inl ⟨rfl, by omega, rfl, rfl⟩))), by rw [ht]; exact hP9, va_K.moved hW.alike hK9, hD9⟩, hS.F ht⟩) hS.2.2 dX2_symbolBody_67
    · refine lv_aload_n hx hb dX2_symbolBody_29 rfl (lv_at hl 0 rfl) ?_
      refine va_get (D := (dC, dI)) (ci := 2) (v := .ref tk) (C := RX2) (T := TX2) (N := 7) hx hb hg inG_X2 hown hK hP 0 rfl rfl 0 (by decide) (hg (.fieldLink RX2 25 "AttributeDesk$GrammarReader" "tokens" "LAttributeDesk$Tokens;") gw_1_239) (fun _ h9 => h9) rfl dX2_symbolBody_30 ?_
      refine va_get (D := (dC, dI)) (ci := 3) (v := .int (zI tk_kind)) (C := RX3) (T := TX3) (N := 7) hx hb hg inG_X3 hown hK hP 1 rfl rfl 3 (by decide) (hg (.fieldLink RX2 73 "AttributeDesk$Tokens" "kind" "I") gw_1_166) (fun _ h9 => h9) rfl dX2_symbolBody_33 ?_
      refine lv_iconst (v := zI 5) hx hb dX2_symbolBody_36 rfl ?_
      refine zv_icmp_eq (tgt := 42) hx hb dX2_symbolBody_37 (by decide) (by omega) (by decide) (fun c6 => ?_) (fun c6 => ?_)
      · refine lv_aload_n hx hb dX2_symbolBody_42 rfl (lv_at hl 0 rfl) ?_
        refine lv_aload_n hx hb dX2_symbolBody_43 rfl (lv_at hl 0 rfl) ?_
        refine va_get (D := (dC, dI)) (ci := 2) (v := .ref tk) (C := RX2) (T := TX2) (N := 7) hx hb hg inG_X2 hown hK hP 0 rfl rfl 0 (by decide) (hg (.fieldLink RX2 25 "AttributeDesk$GrammarReader" "tokens" "LAttributeDesk$Tokens;") gw_1_239) (fun _ h9 => h9) rfl dX2_symbolBody_44 ?_
        refine va_get (D := (dC, dI)) (ci := 3) (v := .int (zI tk_kind)) (C := RX3) (T := TX3) (N := 7) hx hb hg inG_X3 hown hK hP 1 rfl rfl 3 (by decide) (hg (.fieldLink RX2 73 "AttributeDesk$Tokens" "kind" "I") gw_1_166) (fun _ h9 => h9) rfl dX2_symbolBody_47 ?_
        refine lv_iconst (v := zI 4) hx hb dX2_symbolBody_50 rfl ?_
        refine zv_icmp_ne (tgt := 58) hx hb dX2_symbolBody_51 (by decide) (by omega) (by decide) (fun c7 => ?_) (fun c7 => ?_)
        · refine lv_iconst (v := zI 0) hx hb dX2_symbolBody_58 rfl ?_
          refine va_put (D := (dC, dI)) (ci := 2) (v := .int (zI 0)) (ty := .boolean) (C := RX2) (T := TX2) (N := 7) hx hb hg inG_X2 tyX2 tyX2_ok nmX2 hown hK hP hD hS 0 rfl rfl 4 (by decide) (hg (.fieldLink RX2 15 "AttributeDesk$GrammarReader" "readsInherited" "Z") gw_2_3) (fun _ h9 => h9) rfl (by decide +kernel) rfl rfl (Nat.le_of_ble_eq_true rfl) dX2_symbolBody_59 (fun H locs hP hD hS => ?_)
          have hP : va_P (dC, dI) vwCl [(gd, .inr (2, [.ref tk, .ref xr, .ref gr, .int (zI gst_), .int (zI 0), .int (zI gtp_), .int (zI gts_)])), (tk, .inr (3, [.ref tp, .int (zI tk_size), .int (zI tk_behind), .int (zI tk_kind), .int (zI tk_at), .long (lI tk_name), .long (lI tk_number)]))] H := hP
          have hD : va_D A [(gd, .inr (2, [.ref tk, .ref xr, .ref gr, .int (zI gst_), .int (zI 0), .int (zI gtp_), .int (zI gts_)])), (tk, .inr (3, [.ref tp, .int (zI tk_size), .int (zI tk_behind), .int (zI tk_kind), .int (zI tk_at), .long (lI tk_name), .long (lI tk_number)]))] := hD
          refine lv_aload_n hx hb dX2_symbolBody_62 rfl (lv_at hl 0 rfl) ?_
          refine lv_iconst (v := zI 3) hx hb dX2_symbolBody_63 rfl ?_
          have hPc := hP.sub (ws' := [(gd, .inr (2, [.ref tk, .ref xr, .ref gr, .int (zI gst_), .int (zI 0), .int (zI gtp_), .int (zI gts_)]))]) [0] rfl
          have hDc := hD.sub (ws' := [(gd, .inr (2, [.ref tk, .ref xr, .ref gr, .int (zI gst_), .int (zI 0), .int (zI gtp_), .int (zI gts_)]))]) [0] (by decide) rfl
          have hKc := hK.sub (tys' := []) [] rfl
          have hFc := va_free (wc := [(gd, .inr (2, [.ref tk, .ref xr, .ref gr, .int (zI gst_), .int (zI 0), .int (zI gtp_), .int (zI gts_)]))]) hD hS hA [0] rfl
          refine va_calli (va_runV (As := [.int (zI 3)]) (rest := []) ⟨hx, hb, hml, hown, hg⟩ (c_X2_go l dC dI gd tk xr gr H.size gst_ 0 gtp_ gts_ 3) (cwV 1 hg gc_X2_76 rfl rfl rfl (by decide +kernel) ⟨Nat.le_of_ble_eq_true rfl, Nat.le_of_ble_eq_true rfl⟩) ⟨fun a U g mk q => by obtain ⟨q0, q1, qP, qK, qD⟩ := q; exact ⟨q0, q1, qP, va_K.moved (u := U) (U := U.calling g mk a) (Vm.Alike.refl U.vm) qK, qD⟩, va_recv hKc hPc (ci := 2) (q0 := 0) rfl rfl, fun U hU hW => ⟨rfl, by rw [hU], by rw [hU]; exact hPc, va_K.moved hW.alike hKc, hDc.weaken (fun _ _ _ _ => trivial)⟩⟩ rfl rfl hl.1 rfl (lv_room (Nat.le_of_ble_eq_true rfl)) dX2_symbolBody_64 ⟨Nat.le_of_ble_eq_true rfl, Nat.le_of_ble_eq_true rfl⟩) hS (fun q _ h => hFc q h) hFc (fun r8 u8 t H1 locs ht hvm hw8 hB hz1 hk1 hS => ?_)
          obtain ⟨hP1, hK1, hD1⟩ := hB
          rw [ht] at hP1
          have hK1 := va_K.moved hvm.symm hK1
          obtain ⟨hP, hD⟩ := va_join (wr := [(tk, .inr (3, [.ref tp, .int (zI tk_size), .int (zI tk_behind), .int (zI tk_kind), .int (zI tk_at), .long (lI tk_name), .long (lI tk_number)]))]) (w1 := [(gd, .inr (2, [.ref tk, .ref xr, .ref gr, .int (zI 3), .int (zI 0), .int (zI gtp_), .int (zI gts_)]))]) hP hD [0] [1] rfl rfl (by decide) (by decide) hk1 hFc hP1 hD1
          have hK := (hK.sub (tys' := []) [] rfl).app hK1
          generalize H1 = H at hP hS ⊢
          have hP : va_P (dC, dI) vwCl [(tk, .inr (3, [.ref tp, .int (zI tk_size), .int (zI tk_behind), .int (zI tk_kind), .int (zI tk_at), .long (lI tk_name), .long (lI tk_number)])), (gd, .inr (2, [.ref tk, .ref xr, .ref gr, .int (zI 3), .int (zI 0), .int (zI gtp_), .int (zI gts_)]))] H := hP
          have hD : va_D A [(tk, .inr (3, [.ref tp, .int (zI tk_size), .int (zI tk_behind), .int (zI tk_kind), .int (zI tk_at), .long (lI tk_name), .long (lI tk_number)])), (gd, .inr (2, [.ref tk, .ref xr, .ref gr, .int (zI 3), .int (zI 0), .int (zI gtp_), .int (zI gts_)]))] := hD
          have hK : va_K (dC, dI) vwCl [] s := hK
          obtain rfl : r8 = zI 0 := hw8
          have hP9 := hP.sub (ws' := [(gd, .inr (2, [.ref tk, .ref xr, .ref gr, .int (zI 3), .int (zI 0), .int (zI gtp_), .int (zI gts_)])), (tk, .inr (3, [.ref tp, .int (zI tk_size), .int (zI tk_behind), .int (zI tk_kind), .int (zI tk_at), .long (lI tk_name), .long (lI tk_number)]))]) [1, 0] rfl
          have hD9 := hD.sub (ws' := [(gd, .inr (2, [.ref tk, .ref xr, .ref gr, .int (zI 3), .int (zI 0), .int (zI gtp_), .int (zI gts_)])), (tk, .inr (3, [.ref tp, .int (zI tk_size), .int (zI tk_behind), .int (zI tk_kind), .int (zI tk_at), .long (lI tk_name), .long (lI tk_number)]))]) [1, 0] (by decide) rfl
          have hK9 := hK.sub (tys' := []) [] rfl
          exact W.iret (v := zI 0) hx hb hr (fun t ht hW => ⟨⟨zI 0, 0, rfl, rfl, 3, 0, (Or.inr (Or.inr (Or.inr ⟨rfl, by omega, rfl, rfl⟩))), by rw [ht]; exact hP9, va_K.moved hW.alike hK9, hD9⟩, hS.F ht⟩) hS.2.2 dX2_symbolBody_67
        · refine lv_iconst (v := zI 1) hx hb dX2_symbolBody_54 rfl ?_
          refine lv_goto (tgt := 59) hx hb dX2_symbolBody_55 (by decide) ?_
          refine va_put (D := (dC, dI)) (ci := 2) (v := .int (zI 1)) (ty := .boolean) (C := RX2) (T := TX2) (N := 7) hx hb hg inG_X2 tyX2 tyX2_ok nmX2 hown hK hP hD hS 0 rfl rfl 4 (by decide) (hg (.fieldLink RX2 15 "AttributeDesk$GrammarReader" "readsInherited" "Z") gw_2_3) (fun _ h9 => h9) rfl (by decide +kernel) rfl rfl (Nat.le_of_ble_eq_true rfl) dX2_symbolBody_59 (fun H locs hP hD hS => ?_)
          have hP : va_P (dC, dI) vwCl [(gd, .inr (2, [.ref tk, .ref xr, .ref gr, .int (zI gst_), .int (zI 1), .int (zI gtp_), .int (zI gts_)])), (tk, .inr (3, [.ref tp, .int (zI tk_size), .int (zI tk_behind), .int (zI tk_kind), .int (zI tk_at), .long (lI tk_name), .long (lI tk_number)]))] H := hP
          have hD : va_D A [(gd, .inr (2, [.ref tk, .ref xr, .ref gr, .int (zI gst_), .int (zI 1), .int (zI gtp_), .int (zI gts_)])), (tk, .inr (3, [.ref tp, .int (zI tk_size), .int (zI tk_behind), .int (zI tk_kind), .int (zI tk_at), .long (lI tk_name), .long (lI tk_number)]))] := hD
          refine lv_aload_n hx hb dX2_symbolBody_62 rfl (lv_at hl 0 rfl) ?_
          refine lv_iconst (v := zI 3) hx hb dX2_symbolBody_63 rfl ?_
          have hPc := hP.sub (ws' := [(gd, .inr (2, [.ref tk, .ref xr, .ref gr, .int (zI gst_), .int (zI 1), .int (zI gtp_), .int (zI gts_)]))]) [0] rfl
          have hDc := hD.sub (ws' := [(gd, .inr (2, [.ref tk, .ref xr, .ref gr, .int (zI gst_), .int (zI 1), .int (zI gtp_), .int (zI gts_)]))]) [0] (by decide) rfl
          have hKc := hK.sub (tys' := []) [] rfl
          have hFc := va_free (wc := [(gd, .inr (2, [.ref tk, .ref xr, .ref gr, .int (zI gst_), .int (zI 1), .int (zI gtp_), .int (zI gts_)]))]) hD hS hA [0] rfl
          refine va_calli (va_runV (As := [.int (zI 3)]) (rest := []) ⟨hx, hb, hml, hown, hg⟩ (c_X2_go l dC dI gd tk xr gr H.size gst_ 1 gtp_ gts_ 3) (cwV 1 hg gc_X2_76 rfl rfl rfl (by decide +kernel) ⟨Nat.le_of_ble_eq_true rfl, Nat.le_of_ble_eq_true rfl⟩) ⟨fun a U g mk q => by obtain ⟨q0, q1, qP, qK, qD⟩ := q; exact ⟨q0, q1, qP, va_K.moved (u := U) (U := U.calling g mk a) (Vm.Alike.refl U.vm) qK, qD⟩, va_recv hKc hPc (ci := 2) (q0 := 0) rfl rfl, fun U hU hW => ⟨rfl, by rw [hU], by rw [hU]; exact hPc, va_K.moved hW.alike hKc, hDc.weaken (fun _ _ _ _ => trivial)⟩⟩ rfl rfl hl.1 rfl (lv_room (Nat.le_of_ble_eq_true rfl)) dX2_symbolBody_64 ⟨Nat.le_of_ble_eq_true rfl, Nat.le_of_ble_eq_true rfl⟩) hS (fun q _ h => hFc q h) hFc (fun r9 u9 t H1 locs ht hvm hw9 hB hz1 hk1 hS => ?_)
          obtain ⟨hP1, hK1, hD1⟩ := hB
          rw [ht] at hP1
          have hK1 := va_K.moved hvm.symm hK1
          obtain ⟨hP, hD⟩ := va_join (wr := [(tk, .inr (3, [.ref tp, .int (zI tk_size), .int (zI tk_behind), .int (zI tk_kind), .int (zI tk_at), .long (lI tk_name), .long (lI tk_number)]))]) (w1 := [(gd, .inr (2, [.ref tk, .ref xr, .ref gr, .int (zI 3), .int (zI 1), .int (zI gtp_), .int (zI gts_)]))]) hP hD [0] [1] rfl rfl (by decide) (by decide) hk1 hFc hP1 hD1
          have hK := (hK.sub (tys' := []) [] rfl).app hK1
          generalize H1 = H at hP hS ⊢
          have hP : va_P (dC, dI) vwCl [(tk, .inr (3, [.ref tp, .int (zI tk_size), .int (zI tk_behind), .int (zI tk_kind), .int (zI tk_at), .long (lI tk_name), .long (lI tk_number)])), (gd, .inr (2, [.ref tk, .ref xr, .ref gr, .int (zI 3), .int (zI 1), .int (zI gtp_), .int (zI gts_)]))] H := hP
          have hD : va_D A [(tk, .inr (3, [.ref tp, .int (zI tk_size), .int (zI tk_behind), .int (zI tk_kind), .int (zI tk_at), .long (lI tk_name), .long (lI tk_number)])), (gd, .inr (2, [.ref tk, .ref xr, .ref gr, .int (zI 3), .int (zI 1), .int (zI gtp_), .int (zI gts_)]))] := hD
          have hK : va_K (dC, dI) vwCl [] s := hK
          obtain rfl : r9 = zI 0 := hw9
          have hP9 := hP.sub (ws' := [(gd, .inr (2, [.ref tk, .ref xr, .ref gr, .int (zI 3), .int (zI 1), .int (zI gtp_), .int (zI gts_)])), (tk, .inr (3, [.ref tp, .int (zI tk_size), .int (zI tk_behind), .int (zI tk_kind), .int (zI tk_at), .long (lI tk_name), .long (lI tk_number)]))]) [1, 0] rfl
          have hD9 := hD.sub (ws' := [(gd, .inr (2, [.ref tk, .ref xr, .ref gr, .int (zI 3), .int (zI 1), .int (zI gtp_), .int (zI gts_)])), (tk, .inr (3, [.ref tp, .int (zI tk_size), .int (zI tk_behind), .int (zI tk_kind), .int (zI tk_at), .long (lI tk_name), .long (lI tk_number)]))]) [1, 0] (by decide) rfl
          have hK9 := hK.sub (tys' := []) [] rfl
          exact W.iret (v := zI 0) hx hb hr (fun t ht hW => ⟨⟨zI 0, 0, rfl, rfl, 3, 1, (Or.inr (Or.inr (Or.inl ⟨rfl, by omega, rfl, rfl⟩))), by rw [ht]; exact hP9, va_K.moved hW.alike hK9, hD9⟩, hS.F ht⟩) hS.2.2 dX2_symbolBody_67
      · refine lv_iconst (v := zI 1) hx hb dX2_symbolBody_40 rfl ?_
        have hP9 := hP.sub (ws' := [(gd, .inr (2, [.ref tk, .ref xr, .ref gr, .int (zI gst_), .int (zI gri_), .int (zI gtp_), .int (zI gts_)])), (tk, .inr (3, [.ref tp, .int (zI tk_size), .int (zI tk_behind), .int (zI tk_kind), .int (zI tk_at), .long (lI tk_name), .long (lI tk_number)]))]) [0, 1] rfl
        have hD9 := hD.sub (ws' := [(gd, .inr (2, [.ref tk, .ref xr, .ref gr, .int (zI gst_), .int (zI gri_), .int (zI gtp_), .int (zI gts_)])), (tk, .inr (3, [.ref tp, .int (zI tk_size), .int (zI tk_behind), .int (zI tk_kind), .int (zI tk_at), .long (lI tk_name), .long (lI tk_number)]))]) [0, 1] (by decide) rfl
        have hK9 := hK.sub (tys' := []) [] rfl
        exact W.iret (v := zI 1) hx hb hr (fun t ht hW => ⟨⟨zI 1, 1, rfl, rfl, gst_, gri_, (Or.inr (Or.inl ⟨rfl, by omega, rfl, rfl⟩)), by rw [ht]; exact hP9, va_K.moved hW.alike hK9, hD9⟩, hS.F ht⟩) hS.2.2 dX2_symbolBody_41
  · refine lv_aload_n hx hb dX2_symbolBody_12 rfl (lv_at hl 0 rfl) ?_
    refine lv_iconst (v := zI 4) hx hb dX2_symbolBody_13 rfl ?_
    have hPc := hP.sub (ws' := [(gd, .inr (2, [.ref tk, .ref xr, .ref gr, .int (zI gst_), .int (zI gri_), .int (zI gtp_), .int (zI gts_)]))]) [0] rfl
    have hDc := hD.sub (ws' := [(gd, .inr (2, [.ref tk, .ref xr, .ref gr, .int (zI gst_), .int (zI gri_), .int (zI gtp_), .int (zI gts_)]))]) [0] (by decide) rfl
    have hKc := hK.sub (tys' := []) [] rfl
    have hFc := va_free (wc := [(gd, .inr (2, [.ref tk, .ref xr, .ref gr, .int (zI gst_), .int (zI gri_), .int (zI gtp_), .int (zI gts_)]))]) hD hS hA [0] rfl
    refine va_calli (va_runV (As := [.int (zI 4)]) (rest := []) ⟨hx, hb, hml, hown, hg⟩ (c_X2_go l dC dI gd tk xr gr s.heap.size gst_ gri_ gtp_ gts_ 4) (cwV 1 hg gc_X2_76 rfl rfl rfl (by decide +kernel) ⟨Nat.le_of_ble_eq_true rfl, Nat.le_of_ble_eq_true rfl⟩) ⟨fun a U g mk q => by obtain ⟨q0, q1, qP, qK, qD⟩ := q; exact ⟨q0, q1, qP, va_K.moved (u := U) (U := U.calling g mk a) (Vm.Alike.refl U.vm) qK, qD⟩, va_recv hKc hPc (ci := 2) (q0 := 0) rfl rfl, fun U hU hW => ⟨rfl, by rw [hU], by rw [hU]; exact hPc, va_K.moved hW.alike hKc, hDc.weaken (fun _ _ _ _ => trivial)⟩⟩ rfl rfl hl.1 rfl (lv_room (Nat.le_of_ble_eq_true rfl)) dX2_symbolBody_14 ⟨Nat.le_of_ble_eq_true rfl, Nat.le_of_ble_eq_true rfl⟩) hS (fun q _ h => hFc q h) hFc (fun r10 u10 t H1 locs ht hvm hw10 hB hz1 hk1 hS => ?_)
    obtain ⟨hP1, hK1, hD1⟩ := hB
    rw [ht] at hP1
    have hK1 := va_K.moved hvm.symm hK1
    obtain ⟨hP, hD⟩ := va_join (wr := [(tk, .inr (3, [.ref tp, .int (zI tk_size), .int (zI tk_behind), .int (zI tk_kind), .int (zI tk_at), .long (lI tk_name), .long (lI tk_number)]))]) (w1 := [(gd, .inr (2, [.ref tk, .ref xr, .ref gr, .int (zI 4), .int (zI gri_), .int (zI gtp_), .int (zI gts_)]))]) hP hD [0] [1] rfl rfl (by decide) (by decide) hk1 hFc hP1 hD1
    have hK := (hK.sub (tys' := []) [] rfl).app hK1
    generalize H1 = H at hP hS ⊢
    have hP : va_P (dC, dI) vwCl [(tk, .inr (3, [.ref tp, .int (zI tk_size), .int (zI tk_behind), .int (zI tk_kind), .int (zI tk_at), .long (lI tk_name), .long (lI tk_number)])), (gd, .inr (2, [.ref tk, .ref xr, .ref gr, .int (zI 4), .int (zI gri_), .int (zI gtp_), .int (zI gts_)]))] H := hP
    have hD : va_D A [(tk, .inr (3, [.ref tp, .int (zI tk_size), .int (zI tk_behind), .int (zI tk_kind), .int (zI tk_at), .long (lI tk_name), .long (lI tk_number)])), (gd, .inr (2, [.ref tk, .ref xr, .ref gr, .int (zI 4), .int (zI gri_), .int (zI gtp_), .int (zI gts_)]))] := hD
    have hK : va_K (dC, dI) vwCl [] s := hK
    obtain rfl : r10 = zI 0 := hw10
    have hP9 := hP.sub (ws' := [(gd, .inr (2, [.ref tk, .ref xr, .ref gr, .int (zI 4), .int (zI gri_), .int (zI gtp_), .int (zI gts_)])), (tk, .inr (3, [.ref tp, .int (zI tk_size), .int (zI tk_behind), .int (zI tk_kind), .int (zI tk_at), .long (lI tk_name), .long (lI tk_number)]))]) [1, 0] rfl
    have hD9 := hD.sub (ws' := [(gd, .inr (2, [.ref tk, .ref xr, .ref gr, .int (zI 4), .int (zI gri_), .int (zI gtp_), .int (zI gts_)])), (tk, .inr (3, [.ref tp, .int (zI tk_size), .int (zI tk_behind), .int (zI tk_kind), .int (zI tk_at), .long (lI tk_name), .long (lI tk_number)]))]) [1, 0] (by decide) rfl
    have hK9 := hK.sub (tys' := []) [] rfl
    exact W.iret (v := zI 0) hx hb hr (fun t ht hW => ⟨⟨zI 0, 0, rfl, rfl, 4, gri_, (Or.inl ⟨rfl, by omega, rfl, rfl⟩), by rw [ht]; exact hP9, va_K.moved hW.alike hK9, hD9⟩, hS.F ht⟩) hS.2.2 dX2_symbolBody_17
