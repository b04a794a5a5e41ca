set_option maxHeartbeats 8000000 in
set_option maxRecDepth 100000 in
theorem law_2 {p : Program} {l : Launch} {e : Env} {s : State} {m : MethodId} {below : List Frame} {meth : Method} {c : Code} {dC : Nat → ClassId} {dI : Nat → Nat → Nat} {b L : Nat} {xs : Nat → Int32} {cB cI cZ cJ : ClassId} (C0 : lw_At p s m meth c b L xs) (hK : va_K (dC, dI) vwCl [(cB, .byte), (cJ, .long), (cI, .int), (cZ, .boolean)] s) {i_ L_ : Int} (hL0 : L_ = (L : Int)) (hi : (0 ≤ i_ ∧ i_ + 6 ≤ L_) ∧ L_ ≤ 3072) (hnx : LAT p l e s m below meth c dC dI b cB cI cZ cJ 553 i_) : LAT p l e s m below meth c dC dI b cB cI cZ cJ 194 i_ := by
  unfold LAT at hnx ⊢
  intro dk dtp gr gsn gac gic gan gih grk grn grs gcc gec gcs gce ghg gop god gs sgsn sgac sgic sgan sgih sgrk sgrn sgrs sgcc sgec sgcs sgce sghg sgop sgod tg trr tra trp tro trc tsp strr stra strp stro strc tk gd xr gwt tr trf wy wpl wpr wgr wgc wer wco whg wht wir wro wta wfi wsp wk kno kor kst kwy kba keq kca kva kbd mo mtp mtx mfo msn mac man mih mrn mcc mrs mec mef meo mem mor moo mop moa mfr mff mnr mna mnp mno mnc mwr mwa mwp mwo mwm mwc mcb mcm mia mhg mgr mpl mrp mir mre mch mfs mwk miw mib mnu mig mwf mwx mst msb gdg xg trgg trtt tn_ dk_latestFault dk_latestPlace gr_symbolCount gr_ruleCount gr_codeSize gs_symbolCount gs_ruleCount gs_codeSize tg_size tsp_size tk_size tk_behind tk_kind tk_at tk_name tk_number gd_state gd_readsInherited gd_targetPlace gd_targetSpot xr_rule xr_target xr_state xr_tokenCount xr_occPlace xr_waitingCount xr_openCount xr_isComplete tr_state tr_here tr_depth wy_tooLarge wk_orderSize wk_wayLength wk_valueCount mo_length mo_formerLength mo_hasGrammar mo_at mo_token mo_sort mo_told mo_wrong mo_wrongAt mo_fault mo_faultAt mo_nest mo_symbols mo_rules mo_orders mo_occs mo_occurK mo_occurA mo_frames mo_tokens mo_mode mo_nodes mo_newNodes mo_isLarge mo_worked mo_waits mo_top Rdtp Rgsn Rgac Rgic Rgan Rgih Rgrk Rgrn Rgrs Rgcc Rgec Rgcs Rgce Rghg Rgop Rgod Rsgsn Rsgac Rsgic Rsgan Rsgih Rsgrk Rsgrn Rsgrs Rsgcc Rsgec Rsgcs Rsgce Rsghg Rsgop Rsgod Rtrr Rtra Rtrp Rtro Rtrc Rstrr Rstra Rstrp Rstro Rstrc Rgwt Rtrf Rwpl Rwpr Rwgr Rwgc Rwer Rwco Rwhg Rwht Rwir Rwro Rwta Rwfi Rwsp Rkno Rkor Rkst Rkwy Rkba Rkeq Rkca Rkva Rkbd Rmtx Rmfo Rmsn Rmac Rman Rmih Rmrn Rmcc Rmrs Rmec Rmef Rmeo Rmem Rmor Rmoo Rmop Rmoa Rmfr Rmff Rmnr Rmna Rmnp Rmno Rmnc Rmwr Rmwa Rmwp Rmwo Rmwm Rmwc Rmcb Rmcm Rmia Rmhg Rmgr Rmpl Rmrp Rmir Rmre Rmch Rmfs Rmwk Rmiw Rmib Rmnu Rmig Rmwf Rmwx Rmst Rmsb f_tn f_nm f_nu f_ri f_tl f_os f_vc f_wl f_ts f_tss f_tbk f_tbs f_pkk f_pks f_bwt f_fi0 f_btp f_bod f_bec f_bhg f_brk f_btrr f_btra f_btrp f_btro f_btrc f_bstrr f_bstra f_bstrp f_bstro f_bstrc f_btrf f_bwpl f_bwpr f_bwgr f_bwgc f_bwer f_bwco f_bwhg f_bwht f_bwir f_bwro f_bwta f_bwfi f_bwsp f_bkno f_bkor f_bkst f_bkwy f_bkba f_bkeq f_bkca f_bkva f_bkbd f_bmtx f_bmfo f_bmsn f_bmac f_bman f_bmih f_bmrn f_bmcc f_bmrs f_bmec f_bmef f_bmeo f_bmem f_bmor f_bmoo f_bmop f_bmoa f_bmfr f_bmff f_bmnr f_bmna f_bmnp f_bmno f_bmnc f_bmwr f_bmwa f_bmwp f_bmwo f_bmwm f_bmwc f_bmcb f_bmcm f_bmia f_bmhg f_bmgr f_bmpl f_bmrp f_bmir f_bmre f_bmch f_bmfs f_bmwk f_bmiw f_bmib f_bmnu f_bmig f_bmwf f_bmwx f_bmst f_bmsb f_hg f_fl f_lg f_sy f_ru f_no f_wo f_cc f_eqb f_noi f_tri f_hg0 f_kig f_kw f_rg f_kfi f_sz f_teq f_flt H locs hP hD hS ls hl
  obtain ⟨hx, hb, hr, hml, hown, htsT, hX, hbl, hlocks, hgv⟩ := id C0
  have hg : ∀ w ∈ lw_G, w.before #[Value.ref b] s = true := fun w h => htsT w ((lwG_iff w).mp h).1
  have hown : s.vm.findClass RL = some m.cls := hown
  have hA : ∀ q : Nat, s.heap.size ≤ q → (fun q : Nat => s.heap.size ≤ q) q := fun _ h => h
  have hbA : ¬ (fun q : Nat => s.heap.size ≤ q) b := Nat.not_le.mpr hbl
  obtain ⟨⟨ytsc, ytrc⟩, ytsn, ytac, ytic, ytan, ytih, ytrk, ytrn, ytrs, ytcc, ytcs, ytce, ytcce⟩ := id f_tbk
  have ytic9 : BR Rgic 12 0 7 := fun j hj => by have z := ytic j hj; have z2 := ytac j hj; omega
  obtain ⟨S1, hS1⟩ := f_kfi
  refine lv_aload_n hx hb dL_law_194 rfl (lv_at hl 2 rfl) ?_
  have hPc := hP.sub (ws' := [(dk, .inr (8, [.ref dtp, .int (zI tn_), .ref gr, .ref gs, .ref tg, .ref tsp, .ref tk, .ref gd, .ref tr, .ref wy, .ref wk, .int (zI dk_latestFault), .int (zI dk_latestPlace)])), (tk, .inr (3, [.ref dtp, .int (zI tk_size), .int (zI tk_behind), .int (zI tk_kind), .int (zI tk_at), .long (lI tk_name), .long (lI tk_number)])), ri dtp cB 3000 Rdtp, (gd, .inr (2, [.ref tk, .ref xr, .ref gdg, .int (zI gd_state), .int (zI gd_readsInherited), .int (zI gd_targetPlace), .int (zI gd_targetSpot)])), (xr, .inr (0, [.ref tk, .ref xg, .int (zI xr_rule), .int (zI xr_target), .int (zI xr_state), .int (zI xr_tokenCount), .int (zI xr_occPlace), .ref gwt, .int (zI xr_waitingCount), .int (zI xr_openCount), .int (zI xr_isComplete)])), ri gwt cI 40 Rgwt, (gs, .inr (1, [.int (zI gs_symbolCount), .ref sgsn, .ref sgac, .ref sgic, .ref sgan, .ref sgih, .ref sgrk, .int (zI gs_ruleCount), .ref sgrn, .ref sgrs, .ref sgcc, .ref sgec, .ref sgcs, .ref sgce, .ref sghg, .ref sgop, .ref sgod, .int (zI gs_codeSize)])), rl sgsn cJ 12 Rsgsn, ri sgac cI 12 Rsgac, ri sgic cI 12 Rsgic, rl sgan cJ 72 Rsgan, ri sgih cZ 72 Rsgih, ri sgrk cI 72 Rsgrk, rl sgrn cJ 30 Rsgrn, ri sgrs cI 120 Rsgrs, ri sgcc cI 30 Rsgcc, ri sgec cI 30 Rsgec, ri sgcs cI 720 Rsgcs, ri sgce cI 720 Rsgce, ri sghg cI 720 Rsghg, ri sgop cI 3000 Rsgop, ri sgod cI 3000 Rsgod, (tg, .inr (4, [.int (zI tg_size), .ref trr, .ref tra, .ref trp, .ref tro, .ref trc])), (wk, .inr (7, [.ref kno, .ref kor, .int (zI wk_orderSize), .ref gr, .ref tg, .ref kst, .ref kwy, .ref kba, .ref keq, .ref kca, .int (zI wk_wayLength), .ref kva, .ref kbd, .int (zI wk_valueCount)])), ri kst cI 1200 Rkst, ri kor cI 1200 Rkor, ri kno cI 1200 Rkno, (wy, .inr (6, [.ref wpl, .ref wpr, .int (zI wy_tooLarge), .ref wgr, .ref wgc, .ref wer, .ref wco, .ref gr, .ref whg, .ref wht, .ref wir, .ref wro, .ref wta, .ref wfi, .ref wsp])), ri wpl cI 12 Rwpl, ri wpr cZ 30 Rwpr, ri wgr cI 6144 Rwgr, ri wgc cI 12 Rwgc, ri wer cZ 30 Rwer, ri wco cZ 30 Rwco, ri whg cZ 6144 Rwhg, ri wht cZ 12 Rwht, ri wir cZ 12 Rwir, ri wro cI 24 Rwro, ri wta cI 90 Rwta, ri wfi cI 3 Rwfi, ri wsp cI 3 Rwsp]) [0, 46, 1, 47, 48, 49, 18, 19, 20, 21, 22, 23, 24, 25, 26, 27, 28, 29, 30, 31, 32, 33, 34, 66, 69, 68, 67, 52, 53, 54, 55, 56, 57, 58, 59, 60, 61, 62, 63, 64, 65] rfl
  have hDc := hD.sub (ws' := [(dk, .inr (8, [.ref dtp, .int (zI tn_), .ref gr, .ref gs, .ref tg, .ref tsp, .ref tk, .ref gd, .ref tr, .ref wy, .ref wk, .int (zI dk_latestFault), .int (zI dk_latestPlace)])), (tk, .inr (3, [.ref dtp, .int (zI tk_size), .int (zI tk_behind), .int (zI tk_kind), .int (zI tk_at), .long (lI tk_name), .long (lI tk_number)])), ri dtp cB 3000 Rdtp, (gd, .inr (2, [.ref tk, .ref xr, .ref gdg, .int (zI gd_state), .int (zI gd_readsInherited), .int (zI gd_targetPlace), .int (zI gd_targetSpot)])), (xr, .inr (0, [.ref tk, .ref xg, .int (zI xr_rule), .int (zI xr_target), .int (zI xr_state), .int (zI xr_tokenCount), .int (zI xr_occPlace), .ref gwt, .int (zI xr_waitingCount), .int (zI xr_openCount), .int (zI xr_isComplete)])), ri gwt cI 40 Rgwt, (gs, .inr (1, [.int (zI gs_symbolCount), .ref sgsn, .ref sgac, .ref sgic, .ref sgan, .ref sgih, .ref sgrk, .int (zI gs_ruleCount), .ref sgrn, .ref sgrs, .ref sgcc, .ref sgec, .ref sgcs, .ref sgce, .ref sghg, .ref sgop, .ref sgod, .int (zI gs_codeSize)])), rl sgsn cJ 12 Rsgsn, ri sgac cI 12 Rsgac, ri sgic cI 12 Rsgic, rl sgan cJ 72 Rsgan, ri sgih cZ 72 Rsgih, ri sgrk cI 72 Rsgrk, rl sgrn cJ 30 Rsgrn, ri sgrs cI 120 Rsgrs, ri sgcc cI 30 Rsgcc, ri sgec cI 30 Rsgec, ri sgcs cI 720 Rsgcs, ri sgce cI 720 Rsgce, ri sghg cI 720 Rsghg, ri sgop cI 3000 Rsgop, ri sgod cI 3000 Rsgod, (tg, .inr (4, [.int (zI tg_size), .ref trr, .ref tra, .ref trp, .ref tro, .ref trc])), (wk, .inr (7, [.ref kno, .ref kor, .int (zI wk_orderSize), .ref gr, .ref tg, .ref kst, .ref kwy, .ref kba, .ref keq, .ref kca, .int (zI wk_wayLength), .ref kva, .ref kbd, .int (zI wk_valueCount)])), ri kst cI 1200 Rkst, ri kor cI 1200 Rkor, ri kno cI 1200 Rkno, (wy, .inr (6, [.ref wpl, .ref wpr, .int (zI wy_tooLarge), .ref wgr, .ref wgc, .ref wer, .ref wco, .ref gr, .ref whg, .ref wht, .ref wir, .ref wro, .ref wta, .ref wfi, .ref wsp])), ri wpl cI 12 Rwpl, ri wpr cZ 30 Rwpr, ri wgr cI 6144 Rwgr, ri wgc cI 12 Rwgc, ri wer cZ 30 Rwer, ri wco cZ 30 Rwco, ri whg cZ 6144 Rwhg, ri wht cZ 12 Rwht, ri wir cZ 12 Rwir, ri wro cI 24 Rwro, ri wta cI 90 Rwta, ri wfi cI 3 Rwfi, ri wsp cI 3 Rwsp]) [0, 46, 1, 47, 48, 49, 18, 19, 20, 21, 22, 23, 24, 25, 26, 27, 28, 29, 30, 31, 32, 33, 34, 66, 69, 68, 67, 52, 53, 54, 55, 56, 57, 58, 59, 60, 61, 62, 63, 64, 65] (by decide +kernel) rfl
  have hKc := hK.sub (tys' := [(cB, .byte), (cI, .int), (cJ, .long), (cZ, .boolean)]) [0, 2, 1, 3] rfl
  have hFc := va_free (wc := [(dk, .inr (8, [.ref dtp, .int (zI tn_), .ref gr, .ref gs, .ref tg, .ref tsp, .ref tk, .ref gd, .ref tr, .ref wy, .ref wk, .int (zI dk_latestFault), .int (zI dk_latestPlace)])), (tk, .inr (3, [.ref dtp, .int (zI tk_size), .int (zI tk_behind), .int (zI tk_kind), .int (zI tk_at), .long (lI tk_name), .long (lI tk_number)])), ri dtp cB 3000 Rdtp, (gd, .inr (2, [.ref tk, .ref xr, .ref gdg, .int (zI gd_state), .int (zI gd_readsInherited), .int (zI gd_targetPlace), .int (zI gd_targetSpot)])), (xr, .inr (0, [.ref tk, .ref xg, .int (zI xr_rule), .int (zI xr_target), .int (zI xr_state), .int (zI xr_tokenCount), .int (zI xr_occPlace), .ref gwt, .int (zI xr_waitingCount), .int (zI xr_openCount), .int (zI xr_isComplete)])), ri gwt cI 40 Rgwt, (gs, .inr (1, [.int (zI gs_symbolCount), .ref sgsn, .ref sgac, .ref sgic, .ref sgan, .ref sgih, .ref sgrk, .int (zI gs_ruleCount), .ref sgrn, .ref sgrs, .ref sgcc, .ref sgec, .ref sgcs, .ref sgce, .ref sghg, .ref sgop, .ref sgod, .int (zI gs_codeSize)])), rl sgsn cJ 12 Rsgsn, ri sgac cI 12 Rsgac, ri sgic cI 12 Rsgic, rl sgan cJ 72 Rsgan, ri sgih cZ 72 Rsgih, ri sgrk cI 72 Rsgrk, rl sgrn cJ 30 Rsgrn, ri sgrs cI 120 Rsgrs, ri sgcc cI 30 Rsgcc, ri sgec cI 30 Rsgec, ri sgcs cI 720 Rsgcs, ri sgce cI 720 Rsgce, ri sghg cI 720 Rsghg, ri sgop cI 3000 Rsgop, ri sgod cI 3000 Rsgod, (tg, .inr (4, [.int (zI tg_size), .ref trr, .ref tra, .ref trp, .ref tro, .ref trc])), (wk, .inr (7, [.ref kno, .ref kor, .int (zI wk_orderSize), .ref gr, .ref tg, .ref kst, .ref kwy, .ref kba, .ref keq, .ref kca, .int (zI wk_wayLength), .ref kva, .ref kbd, .int (zI wk_valueCount)])), ri kst cI 1200 Rkst, ri kor cI 1200 Rkor, ri kno cI 1200 Rkno, (wy, .inr (6, [.ref wpl, .ref wpr, .int (zI wy_tooLarge), .ref wgr, .ref wgc, .ref wer, .ref wco, .ref gr, .ref whg, .ref wht, .ref wir, .ref wro, .ref wta, .ref wfi, .ref wsp])), ri wpl cI 12 Rwpl, ri wpr cZ 30 Rwpr, ri wgr cI 6144 Rwgr, ri wgc cI 12 Rwgc, ri wer cZ 30 Rwer, ri wco cZ 30 Rwco, ri whg cZ 6144 Rwhg, ri wht cZ 12 Rwht, ri wir cZ 12 Rwir, ri wro cI 24 Rwro, ri wta cI 90 Rwta, ri wfi cI 3 Rwfi, ri wsp cI 3 Rwsp]) hD hS hA [0, 46, 1, 47, 48, 49, 18, 19, 20, 21, 22, 23, 24, 25, 26, 27, 28, 29, 30, 31, 32, 33, 34, 66, 69, 68, 67, 52, 53, 54, 55, 56, 57, 58, 59, 60, 61, 62, 63, 64, 65] rfl
  refine va_calli (va_runV (As := []) (rest := []) ⟨hx, hb, hml, hown, hg⟩ (c_X8_grammar l dC dI dk tk dtp gd xr gwt gs sgsn sgac sgic sgan sgih sgrk sgrn sgrs sgcc sgec sgcs sgce sghg sgop sgod tg wk kst kor kno wy wpl wpr wgr wgc wer wco whg wht wir wro wta wfi wsp gr tsp tr gdg xg trr tra trp tro trc kwy kba keq kca kva kbd cB cI cJ cZ H.size tn_ dk_latestFault dk_latestPlace tk_size tk_behind tk_kind tk_at tk_name tk_number Rdtp gd_state gd_readsInherited gd_targetPlace gd_targetSpot xr_rule xr_target xr_state xr_tokenCount xr_occPlace xr_waitingCount xr_openCount xr_isComplete Rgwt gs_symbolCount gs_ruleCount gs_codeSize Rsgsn Rsgac Rsgic Rsgan Rsgih Rsgrk Rsgrn Rsgrs Rsgcc Rsgec Rsgcs Rsgce Rsghg Rsgop Rsgod tg_size wk_orderSize wk_wayLength wk_valueCount Rkst Rkor Rkno wy_tooLarge Rwpl Rwpr Rwgr Rwgc Rwer Rwco Rwhg Rwht Rwir Rwro Rwta Rwfi Rwsp f_btp f_tn f_nm f_nu f_ri f_pks f_bwt f_tbs f_fi0 f_tl f_os f_bkst f_bkor f_bkno f_bwpl f_bwpr f_bwgr f_bwgc f_bwer f_bwco f_bwhg f_bwht f_bwir f_bwro f_bwta f_bwfi f_bwsp) (cwV 0 hg gc_L_23 rfl rfl rfl (by decide +kernel) ⟨Nat.le_of_ble_eq_true rfl, Nat.le_of_ble_eq_true rfl⟩) ⟨fun a U g mk q => by obtain ⟨q0, q1, qP, qK, qD⟩ := q; exact ⟨q0, q1, qP, va_K.moved (u := U) (U := U.calling g mk a) (Vm.Alike.refl U.vm) qK, qD⟩, va_recv hKc hPc (ci := 8) (q0 := 0) rfl rfl, fun U hU hW => ⟨rfl, by rw [hU], by rw [hU]; exact hPc, va_K.moved hW.alike hKc, hDc.weaken (fun _ _ _ _ => trivial)⟩⟩ rfl rfl hl.1 rfl (lv_room (Nat.le_of_ble_eq_true rfl)) dL_law_195 ⟨Nat.le_of_ble_eq_true rfl, Nat.le_of_ble_eq_true rfl⟩) hS (fun q _ h => hFc q h) hFc (fun r1 u1 t H1 locs ht hvm hw1 hB hz1 hk1 hS => ?_)
  refine Exists.elim hB (fun be2__2 hB0 => ?_)
  clear hB
  refine Exists.elim hB0 (fun ki2__3 hB => ?_)
  clear hB0
  refine Exists.elim hB (fun at2__4 hB0 => ?_)
  clear hB
  refine Exists.elim hB0 (fun nm2__5 hB => ?_)
  clear hB0
  refine Exists.elim hB (fun nu2__6 hB0 => ?_)
  clear hB
  refine Exists.elim hB0 (fun st2__7 hB => ?_)
  clear hB0
  refine Exists.elim hB (fun ri2__8 hB0 => ?_)
  clear hB
  refine Exists.elim hB0 (fun tp2__9 hB => ?_)
  clear hB0
  refine Exists.elim hB (fun ts2__10 hB0 => ?_)
  clear hB
  refine Exists.elim hB0 (fun xru2__11 hB => ?_)
  clear hB0
  refine Exists.elim hB (fun xta2__12 hB0 => ?_)
  clear hB
  refine Exists.elim hB0 (fun xst2__13 hB => ?_)
  clear hB0
  refine Exists.elim hB (fun xtc2__14 hB0 => ?_)
  clear hB
  refine Exists.elim hB0 (fun xop2__15 hB => ?_)
  clear hB0
  refine Exists.elim hB (fun xwc2__16 hB0 => ?_)
  clear hB
  refine Exists.elim hB0 (fun xoc2__17 hB => ?_)
  clear hB0
  refine Exists.elim hB (fun xic2__18 hB0 => ?_)
  clear hB
  refine Exists.elim hB0 (fun ssc2__19 hB => ?_)
  clear hB0
  refine Exists.elim hB (fun src2__20 hB0 => ?_)
  clear hB
  refine Exists.elim hB0 (fun scz2__21 hB => ?_)
  clear hB0
  refine Exists.elim hB (fun lf2__22 hB0 => ?_)
  clear hB
  refine Exists.elim hB0 (fun lp2__23 hB => ?_)
  clear hB0
  refine Exists.elim hB (fun tgs2__24 hB0 => ?_)
  clear hB
  refine Exists.elim hB0 (fun os2__25 hB => ?_)
  clear hB0
  refine Exists.elim hB (fun tl2__26 hB0 => ?_)
  clear hB
  refine Exists.elim hB0 (fun xg2_27 hB => ?_)
  clear hB0
  refine Exists.elim hB (fun kn2_28 hB0 => ?_)
  clear hB
  refine Exists.elim hB0 (fun sp2_29 hB => ?_)
  clear hB0
  refine Exists.elim hB (fun wt2__30 hB0 => ?_)
  clear hB
  refine Exists.elim hB0 (fun ssn2__31 hB => ?_)
  clear hB0
  refine Exists.elim hB (fun sac2__32 hB0 => ?_)
  clear hB
  refine Exists.elim hB0 (fun sic2__33 hB => ?_)
  clear hB0
  refine Exists.elim hB (fun san2__34 hB0 => ?_)
  clear hB
  refine Exists.elim hB0 (fun sih2__35 hB => ?_)
  clear hB0
  refine Exists.elim hB (fun srk2__36 hB0 => ?_)
  clear hB
  refine Exists.elim hB0 (fun srn2__37 hB => ?_)
  clear hB0
  refine Exists.elim hB (fun srs2__38 hB0 => ?_)
  clear hB
  refine Exists.elim hB0 (fun scc2__39 hB => ?_)
  clear hB0
  refine Exists.elim hB (fun sec2__40 hB0 => ?_)
  clear hB
  refine Exists.elim hB0 (fun scs2__41 hB => ?_)
  clear hB0
  refine Exists.elim hB (fun sce2__42 hB0 => ?_)
  clear hB
  refine Exists.elim hB0 (fun shgs2__43 hB => ?_)
  clear hB0
  refine Exists.elim hB (fun sop2__44 hB0 => ?_)
  clear hB
  refine Exists.elim hB0 (fun sod2__45 hB => ?_)
  clear hB0
  refine Exists.elim hB (fun ks2__46 hB0 => ?_)
  clear hB
  refine Exists.elim hB0 (fun no2__47 hB => ?_)
  clear hB0
  refine Exists.elim hB (fun pl2__48 hB0 => ?_)
  clear hB
  refine Exists.elim hB0 (fun pr2__49 hB => ?_)
  clear hB0
  refine Exists.elim hB (fun gg2__50 hB0 => ?_)
  clear hB
  refine Exists.elim hB0 (fun gc2__51 hB => ?_)
  clear hB0
  refine Exists.elim hB (fun er2__52 hB0 => ?_)
  clear hB
  refine Exists.elim hB0 (fun co2__53 hB => ?_)
  clear hB0
  refine Exists.elim hB (fun hg2__54 hB0 => ?_)
  clear hB
  refine Exists.elim hB0 (fun ht2__55 hB => ?_)
  clear hB0
  refine Exists.elim hB (fun ir2__56 hB0 => ?_)
  clear hB
  refine Exists.elim hB0 (fun ro2__57 hB => ?_)
  clear hB0
  refine Exists.elim hB (fun tn2__58 hB0 => ?_)
  clear hB
  refine Exists.elim hB0 (fun fi2__59 hB => ?_)
  clear hB0
  refine Exists.elim hB (fun sp2__60 hB0 => ?_)
  clear hB
  have p0_61 := hB0.1
  have hB := hB0.2
  clear hB0
  have p1_62 := hB.1
  have hB0 := hB.2
  clear hB
  have p2_63 := hB0.1
  have hB := hB0.2
  clear hB0
  have p3_64 := hB.1
  have hB0 := hB.2
  clear hB
  have p4_65 := hB0.1
  have hB := hB0.2
  clear hB0
  have p5_66 := hB.1
  have hB0 := hB.2
  clear hB
  have p6_67 := hB0.1
  have hB := hB0.2
  clear hB0
  have p7_68 := hB.1
  have hB0 := hB.2
  clear hB
  have p8_69 := hB0.1
  have hB := hB0.2
  clear hB0
  have p9_70 := hB.1
  have hB0 := hB.2
  clear hB
  have p10_71 := hB0.1
  have hB := hB0.2
  clear hB0
  have p11_72 := hB.1
  have hB0 := hB.2
  clear hB
  have p12_73 := hB0.1
  have hB := hB0.2
  clear hB0
  have p13_74 := hB.1
  have hB0 := hB.2
  clear hB
  have p14_75 := hB0.1
  have hB := hB0.2
  clear hB0
  have p15_76 := hB.1
  have hB0 := hB.2
  clear hB
  have p16_77 := hB0.1
  have hB := hB0.2
  clear hB0
  have p17_78 := hB.1
  have hB0 := hB.2
  clear hB
  have p18_79 := hB0.1
  have hB := hB0.2
  clear hB0
  have p19_80 := hB.1
  have hB0 := hB.2
  clear hB
  have p20_81 := hB0.1
  have hB := hB0.2
  clear hB0
  have p21_82 := hB.1
  have hB0 := hB.2
  clear hB
  have p22_83 := hB0.1
  have hB := hB0.2
  clear hB0
  have p23_84 := hB.1
  have hB0 := hB.2
  clear hB
  have p24_85 := hB0.1
  have hB := hB0.2
  clear hB0
  have p25_86 := hB.1
  have hB0 := hB.2
  clear hB
  have p26_87 := hB0.1
  have hB := hB0.2
  clear hB0
  have p27_88 := hB.1
  have hB0 := hB.2
  clear hB
  have p28_89 := hB0.1
  have hB := hB0.2
  clear hB0
  have p29_90 := hB.1
  have hB0 := hB.2
  clear hB
  have p30_91 := hB0.1
  have hB := hB0.2
  clear hB0
  have hP1 := hB.1
  have hB0 := hB.2
  clear hB
  have hK1 := hB0.1
  have hB := hB0.2
  clear hB0
  have hD1 := hB
  clear hB
  rcases p2_63 with ⟨rfl, hu92a, hu92b, hu92c, rfl, rfl, rfl⟩ | ⟨hlf9, rfl, hu92a, hu92b, hu92c, hu92d, hu92e⟩
  · obtain rfl := hu92a.symm
    obtain rfl := hu92b.symm
    obtain rfl := hu92c.symm
    rw [ht] at hP1
    have hK1 := va_K.moved hvm.symm hK1
    obtain ⟨hP, hD⟩ := va_join (wr := [(gr, .inr (1, [.int (zI gr_symbolCount), .ref gsn, .ref gac, .ref gic, .ref gan, .ref gih, .ref grk, .int (zI gr_ruleCount), .ref grn, .ref grs, .ref gcc, .ref gec, .ref gcs, .ref gce, .ref ghg, .ref gop, .ref god, .int (zI gr_codeSize)])), rl gsn cJ 12 Rgsn, ri gac cI 12 Rgac, ri gic cI 12 Rgic, rl gan cJ 72 Rgan, ri gih cZ 72 Rgih, ri grk cI 72 Rgrk, rl grn cJ 30 Rgrn, ri grs cI 120 Rgrs, ri gcc cI 30 Rgcc, ri gec cI 30 Rgec, ri gcs cI 720 Rgcs, ri gce cI 720 Rgce, ri ghg cI 720 Rghg, ri gop cI 3000 Rgop, ri god cI 3000 Rgod, ri trr cI 200 Rtrr, ri tra cI 200 Rtra, ri trp cI 200 Rtrp, ri tro cI 200 Rtro, ri trc cI 600 Rtrc, (tsp, .inr (4, [.int (zI tsp_size), .ref strr, .ref stra, .ref strp, .ref stro, .ref strc])), ri strr cI 200 Rstrr, ri stra cI 200 Rstra, ri strp cI 200 Rstrp, ri stro cI 200 Rstro, ri strc cI 600 Rstrc, (tr, .inr (5, [.ref tk, .ref trgg, .ref trtt, .int (zI tr_state), .int (zI tr_here), .int (zI tr_depth), .ref trf])), ri trf cI 200 Rtrf, ri kwy cI 1200 Rkwy, ri kba cI 1200 Rkba, ri keq cI 1200 Rkeq, ri kca cI 1200 Rkca, ri kva cI 40 Rkva, ri kbd cZ 40 Rkbd, (mo, .inr (9, [.ref mtp, .int (zI tn_), .ref mtx, .int (zI mo_length), .ref mfo, .int (zI mo_formerLength), .int (zI mo_hasGrammar), .int (zI mo_at), .int (zI mo_token), .int (zI mo_sort), .long (lI mo_told), .int (zI mo_wrong), .int (zI mo_wrongAt), .int (zI mo_fault), .int (zI mo_faultAt), .int (zI mo_nest), .int (zI mo_symbols), .ref msn, .ref mac, .ref man, .ref mih, .int (zI mo_rules), .ref mrn, .ref mcc, .ref mrs, .ref mec, .ref mef, .ref meo, .ref mem, .int (zI mo_orders), .ref mor, .ref moo, .int (zI mo_occs), .ref mop, .ref moa, .int (zI mo_occurK), .int (zI mo_occurA), .int (zI mo_frames), .ref mfr, .ref mff, .int (zI mo_tokens), .int (zI mo_mode), .int (zI mo_nodes), .ref mnr, .ref mna, .ref mnp, .ref mno, .ref mnc, .int (zI mo_newNodes), .ref mwr, .ref mwa, .ref mwp, .ref mwo, .ref mwm, .ref mwc, .ref mcb, .ref mcm, .ref mia, .int (zI mo_isLarge), .ref mhg, .ref mgr, .ref mpl, .ref mrp, .ref mir, .ref mre, .ref mch, .int (zI 0), .ref mfs, .int (zI mo_worked), .ref mwk, .ref miw, .ref mib, .ref mnu, .ref mig, .int (zI mo_waits), .ref mwf, .ref mwx, .int (zI mo_top), .ref mst, .ref msb])), ri mtp cB 3000 Rdtp, ri mtx cB 3000 Rmtx, ri mfo cB 3000 Rmfo, rl msn cJ 12 Rmsn, ri mac cI 12 Rmac, rl man cJ 72 Rman, ri mih cZ 72 Rmih, rl mrn cJ 30 Rmrn, ri mcc cI 30 Rmcc, ri mrs cI 120 Rmrs, ri mec cI 30 Rmec, ri mef cI 720 Rmef, ri meo cI 720 Rmeo, ri mem cI 720 Rmem, ri mor cI 4000 Rmor, ri moo cI 4000 Rmoo, ri mop cI 3000 Rmop, ri moa cI 3000 Rmoa, ri mfr cI 120 Rmfr, ri mff cI 120 Rmff, ri mnr cI 200 Rmnr, ri mna cI 200 Rmna, ri mnp cI 200 Rmnp, ri mno cI 200 Rmno, ri mnc cI 800 Rmnc, ri mwr cI 200 Rmwr, ri mwa cI 200 Rmwa, ri mwp cI 200 Rmwp, ri mwo cI 200 Rmwo, ri mwm cI 200 Rmwm, ri mwc cI 800 Rmwc, ri mcb cZ 12 Rmcb, ri mcm cZ 30 Rmcm, ri mia cZ 12 Rmia, ri mhg cZ 6144 Rmhg, ri mgr cI 12 Rmgr, ri mpl cI 12 Rmpl, ri mrp cZ 30 Rmrp, ri mir cZ 30 Rmir, ri mre cI 24 Rmre, ri mch cI 4 Rmch, ri mfs cI 2100 Rmfs, ri mwk cI 1200 Rmwk, ri miw cZ 1200 Rmiw, ri mib cZ 1200 Rmib, ri mnu cI 1200 Rmnu, ri mig cZ 1200 Rmig, ri mwf cI 1200 Rmwf, ri mwx cI 1200 Rmwx, ri mst cI 60 Rmst, ri msb cZ 60 Rmsb]) (w1 := [(dk, .inr (8, [.ref dtp, .int (zI 0), .ref gs, .ref gr, .ref tg, .ref tsp, .ref tk, .ref gd, .ref tr, .ref wy, .ref wk, .int (zI 0), .int (zI (-1))])), (tk, .inr (3, [.ref dtp, .int (zI tn_), .int (zI be2__2), .int (zI ki2__3), .int (zI at2__4), .long (lI nm2__5), .long (lI nu2__6)])), ri dtp cB 3000 Rdtp, (gd, .inr (2, [.ref tk, .ref xr, .ref gs, .int (zI st2__7), .int (zI ri2__8), .int (zI tp2__9), .int (zI ts2__10)])), (xr, .inr (0, [.ref tk, .ref xg2_27, .int (zI xru2__11), .int (zI xta2__12), .int (zI xst2__13), .int (zI xtc2__14), .int (zI xop2__15), .ref gwt, .int (zI xwc2__16), .int (zI xoc2__17), .int (zI xic2__18)])), ri gwt cI 40 wt2__30, (gs, .inr (1, [.int (zI ssc2__19), .ref sgsn, .ref sgac, .ref sgic, .ref sgan, .ref sgih, .ref sgrk, .int (zI src2__20), .ref sgrn, .ref sgrs, .ref sgcc, .ref sgec, .ref sgcs, .ref sgce, .ref sghg, .ref sgop, .ref sgod, .int (zI scz2__21)])), rl sgsn cJ 12 ssn2__31, ri sgac cI 12 sac2__32, ri sgic cI 12 sic2__33, rl sgan cJ 72 san2__34, ri sgih cZ 72 sih2__35, ri sgrk cI 72 srk2__36, rl sgrn cJ 30 srn2__37, ri sgrs cI 120 srs2__38, ri sgcc cI 30 scc2__39, ri sgec cI 30 sec2__40, ri sgcs cI 720 scs2__41, ri sgce cI 720 sce2__42, ri sghg cI 720 shgs2__43, ri sgop cI 3000 sop2__44, ri sgod cI 3000 sod2__45, (tg, .inr (4, [.int (zI 0), .ref trr, .ref tra, .ref trp, .ref tro, .ref trc])), (wk, .inr (7, [.ref kno, .ref kor, .int (zI 0), .ref gs, .ref tg, .ref kst, .ref kwy, .ref kba, .ref keq, .ref kca, .int (zI wk_wayLength), .ref kva, .ref kbd, .int (zI wk_valueCount)])), ri kst cI 1200 ks2__46, ri kor cI 1200 Rkor, ri kno cI 1200 no2__47, (wy, .inr (6, [.ref wpl, .ref wpr, .int (zI tl2__26), .ref wgr, .ref wgc, .ref wer, .ref wco, .ref gs, .ref whg, .ref wht, .ref wir, .ref wro, .ref wta, .ref wfi, .ref wsp])), ri wpl cI 12 pl2__48, ri wpr cZ 30 pr2__49, ri wgr cI 6144 gg2__50, ri wgc cI 12 gc2__51, ri wer cZ 30 er2__52, ri wco cZ 30 co2__53, ri whg cZ 6144 hg2__54, ri wht cZ 12 ht2__55, ri wir cZ 12 ir2__56, ri wro cI 24 ro2__57, ri wta cI 90 tn2__58, ri wfi cI 3 fi2__59, ri wsp cI 3 sp2__60]) hP hD [0, 46, 1, 47, 48, 49, 18, 19, 20, 21, 22, 23, 24, 25, 26, 27, 28, 29, 30, 31, 32, 33, 34, 66, 69, 68, 67, 52, 53, 54, 55, 56, 57, 58, 59, 60, 61, 62, 63, 64, 65] [2, 3, 4, 5, 6, 7, 8, 9, 10, 11, 12, 13, 14, 15, 16, 17, 35, 36, 37, 38, 39, 40, 41, 42, 43, 44, 45, 50, 51, 70, 71, 72, 73, 74, 75, 76, 77, 78, 79, 80, 81, 82, 83, 84, 85, 86, 87, 88, 89, 90, 91, 92, 93, 94, 95, 96, 97, 98, 99, 100, 101, 102, 103, 104, 105, 106, 107, 108, 109, 110, 111, 112, 113, 114, 115, 116, 117, 118, 119, 120, 121, 122, 123, 124, 125, 126, 127] rfl rfl (by decide +kernel) (by decide +kernel) hk1 hFc hP1 hD1
    have hK := (hK.sub (tys' := []) [] rfl).app hK1
    generalize H1 = H at hP hS ⊢
    clear hP1 hD1 hK1 hz1 hk1 hFc hPc hDc hKc hvm ht
    have hP : va_P (dC, dI) vwCl [(gr, .inr (1, [.int (zI gr_symbolCount), .ref gsn, .ref gac, .ref gic, .ref gan, .ref gih, .ref grk, .int (zI gr_ruleCount), .ref grn, .ref grs, .ref gcc, .ref gec, .ref gcs, .ref gce, .ref ghg, .ref gop, .ref god, .int (zI gr_codeSize)])), rl gsn cJ 12 Rgsn, ri gac cI 12 Rgac, ri gic cI 12 Rgic, rl gan cJ 72 Rgan, ri gih cZ 72 Rgih, ri grk cI 72 Rgrk, rl grn cJ 30 Rgrn, ri grs cI 120 Rgrs, ri gcc cI 30 Rgcc, ri gec cI 30 Rgec, ri gcs cI 720 Rgcs, ri gce cI 720 Rgce, ri ghg cI 720 Rghg, ri gop cI 3000 Rgop, ri god cI 3000 Rgod, ri trr cI 200 Rtrr, ri tra cI 200 Rtra, ri trp cI 200 Rtrp, ri tro cI 200 Rtro, ri trc cI 600 Rtrc, (tsp, .inr (4, [.int (zI tsp_size), .ref strr, .ref stra, .ref strp, .ref stro, .ref strc])), ri strr cI 200 Rstrr, ri stra cI 200 Rstra, ri strp cI 200 Rstrp, ri stro cI 200 Rstro, ri strc cI 600 Rstrc, (tr, .inr (5, [.ref tk, .ref trgg, .ref trtt, .int (zI tr_state), .int (zI tr_here), .int (zI tr_depth), .ref trf])), ri trf cI 200 Rtrf, ri kwy cI 1200 Rkwy, ri kba cI 1200 Rkba, ri keq cI 1200 Rkeq, ri kca cI 1200 Rkca, ri kva cI 40 Rkva, ri kbd cZ 40 Rkbd, (mo, .inr (9, [.ref mtp, .int (zI tn_), .ref mtx, .int (zI mo_length), .ref mfo, .int (zI mo_formerLength), .int (zI mo_hasGrammar), .int (zI mo_at), .int (zI mo_token), .int (zI mo_sort), .long (lI mo_told), .int (zI mo_wrong), .int (zI mo_wrongAt), .int (zI mo_fault), .int (zI mo_faultAt), .int (zI mo_nest), .int (zI mo_symbols), .ref msn, .ref mac, .ref man, .ref mih, .int (zI mo_rules), .ref mrn, .ref mcc, .ref mrs, .ref mec, .ref mef, .ref meo, .ref mem, .int (zI mo_orders), .ref mor, .ref moo, .int (zI mo_occs), .ref mop, .ref moa, .int (zI mo_occurK), .int (zI mo_occurA), .int (zI mo_frames), .ref mfr, .ref mff, .int (zI mo_tokens), .int (zI mo_mode), .int (zI mo_nodes), .ref mnr, .ref mna, .ref mnp, .ref mno, .ref mnc, .int (zI mo_newNodes), .ref mwr, .ref mwa, .ref mwp, .ref mwo, .ref mwm, .ref mwc, .ref mcb, .ref mcm, .ref mia, .int (zI mo_isLarge), .ref mhg, .ref mgr, .ref mpl, .ref mrp, .ref mir, .ref mre, .ref mch, .int (zI 0), .ref mfs, .int (zI mo_worked), .ref mwk, .ref miw, .ref mib, .ref mnu, .ref mig, .int (zI mo_waits), .ref mwf, .ref mwx, .int (zI mo_top), .ref mst, .ref msb])), ri mtp cB 3000 Rdtp, ri mtx cB 3000 Rmtx, ri mfo cB 3000 Rmfo, rl msn cJ 12 Rmsn, ri mac cI 12 Rmac, rl man cJ 72 Rman, ri mih cZ 72 Rmih, rl mrn cJ 30 Rmrn, ri mcc cI 30 Rmcc, ri mrs cI 120 Rmrs, ri mec cI 30 Rmec, ri mef cI 720 Rmef, ri meo cI 720 Rmeo, ri mem cI 720 Rmem, ri mor cI 4000 Rmor, ri moo cI 4000 Rmoo, ri mop cI 3000 Rmop, ri moa cI 3000 Rmoa, ri mfr cI 120 Rmfr, ri mff cI 120 Rmff, ri mnr cI 200 Rmnr, ri mna cI 200 Rmna, ri mnp cI 200 Rmnp, ri mno cI 200 Rmno, ri mnc cI 800 Rmnc, ri mwr cI 200 Rmwr, ri mwa cI 200 Rmwa, ri mwp cI 200 Rmwp, ri mwo cI 200 Rmwo, ri mwm cI 200 Rmwm, ri mwc cI 800 Rmwc, ri mcb cZ 12 Rmcb, ri mcm cZ 30 Rmcm, ri mia cZ 12 Rmia, ri mhg cZ 6144 Rmhg, ri mgr cI 12 Rmgr, ri mpl cI 12 Rmpl, ri mrp cZ 30 Rmrp, ri mir cZ 30 Rmir, ri mre cI 24 Rmre, ri mch cI 4 Rmch, ri mfs cI 2100 Rmfs, ri mwk cI 1200 Rmwk, ri miw cZ 1200 Rmiw, ri mib cZ 1200 Rmib, ri mnu cI 1200 Rmnu, ri mig cZ 1200 Rmig, ri mwf cI 1200 Rmwf, ri mwx cI 1200 Rmwx, ri mst cI 60 Rmst, ri msb cZ 60 Rmsb, (dk, .inr (8, [.ref dtp, .int (zI 0), .ref gs, .ref gr, .ref tg, .ref tsp, .ref tk, .ref gd, .ref tr, .ref wy, .ref wk, .int (zI 0), .int (zI (-1))])), (tk, .inr (3, [.ref dtp, .int (zI tn_), .int (zI be2__2), .int (zI ki2__3), .int (zI at2__4), .long (lI nm2__5), .long (lI nu2__6)])), ri dtp cB 3000 Rdtp, (gd, .inr (2, [.ref tk, .ref xr, .ref gs, .int (zI st2__7), .int (zI ri2__8), .int (zI tp2__9), .int (zI ts2__10)])), (xr, .inr (0, [.ref tk, .ref xg2_27, .int (zI xru2__11), .int (zI xta2__12), .int (zI xst2__13), .int (zI xtc2__14), .int (zI xop2__15), .ref gwt, .int (zI xwc2__16), .int (zI xoc2__17), .int (zI xic2__18)])), ri gwt cI 40 wt2__30, (gs, .inr (1, [.int (zI ssc2__19), .ref sgsn, .ref sgac, .ref sgic, .ref sgan, .ref sgih, .ref sgrk, .int (zI src2__20), .ref sgrn, .ref sgrs, .ref sgcc, .ref sgec, .ref sgcs, .ref sgce, .ref sghg, .ref sgop, .ref sgod, .int (zI scz2__21)])), rl sgsn cJ 12 ssn2__31, ri sgac cI 12 sac2__32, ri sgic cI 12 sic2__33, rl sgan cJ 72 san2__34, ri sgih cZ 72 sih2__35, ri sgrk cI 72 srk2__36, rl sgrn cJ 30 srn2__37, ri sgrs cI 120 srs2__38, ri sgcc cI 30 scc2__39, ri sgec cI 30 sec2__40, ri sgcs cI 720 scs2__41, ri sgce cI 720 sce2__42, ri sghg cI 720 shgs2__43, ri sgop cI 3000 sop2__44, ri sgod cI 3000 sod2__45, (tg, .inr (4, [.int (zI 0), .ref trr, .ref tra, .ref trp, .ref tro, .ref trc])), (wk, .inr (7, [.ref kno, .ref kor, .int (zI 0), .ref gs, .ref tg, .ref kst, .ref kwy, .ref kba, .ref keq, .ref kca, .int (zI wk_wayLength), .ref kva, .ref kbd, .int (zI wk_valueCount)])), ri kst cI 1200 ks2__46, ri kor cI 1200 Rkor, ri kno cI 1200 no2__47, (wy, .inr (6, [.ref wpl, .ref wpr, .int (zI tl2__26), .ref wgr, .ref wgc, .ref wer, .ref wco, .ref gs, .ref whg, .ref wht, .ref wir, .ref wro, .ref wta, .ref wfi, .ref wsp])), ri wpl cI 12 pl2__48, ri wpr cZ 30 pr2__49, ri wgr cI 6144 gg2__50, ri wgc cI 12 gc2__51, ri wer cZ 30 er2__52, ri wco cZ 30 co2__53, ri whg cZ 6144 hg2__54, ri wht cZ 12 ht2__55, ri wir cZ 12 ir2__56, ri wro cI 24 ro2__57, ri wta cI 90 tn2__58, ri wfi cI 3 fi2__59, ri wsp cI 3 sp2__60] H := hP
    have hD : va_D (fun q : Nat => s.heap.size ≤ q) [(gr, .inr (1, [.int (zI gr_symbolCount), .ref gsn, .ref gac, .ref gic, .ref gan, .ref gih, .ref grk, .int (zI gr_ruleCount), .ref grn, .ref grs, .ref gcc, .ref gec, .ref gcs, .ref gce, .ref ghg, .ref gop, .ref god, .int (zI gr_codeSize)])), rl gsn cJ 12 Rgsn, ri gac cI 12 Rgac, ri gic cI 12 Rgic, rl gan cJ 72 Rgan, ri gih cZ 72 Rgih, ri grk cI 72 Rgrk, rl grn cJ 30 Rgrn, ri grs cI 120 Rgrs, ri gcc cI 30 Rgcc, ri gec cI 30 Rgec, ri gcs cI 720 Rgcs, ri gce cI 720 Rgce, ri ghg cI 720 Rghg, ri gop cI 3000 Rgop, ri god cI 3000 Rgod, ri trr cI 200 Rtrr, ri tra cI 200 Rtra, ri trp cI 200 Rtrp, ri tro cI 200 Rtro, ri trc cI 600 Rtrc, (tsp, .inr (4, [.int (zI tsp_size), .ref strr, .ref stra, .ref strp, .ref stro, .ref strc])), ri strr cI 200 Rstrr, ri stra cI 200 Rstra, ri strp cI 200 Rstrp, ri stro cI 200 Rstro, ri strc cI 600 Rstrc, (tr, .inr (5, [.ref tk, .ref trgg, .ref trtt, .int (zI tr_state), .int (zI tr_here), .int (zI tr_depth), .ref trf])), ri trf cI 200 Rtrf, ri kwy cI 1200 Rkwy, ri kba cI 1200 Rkba, ri keq cI 1200 Rkeq, ri kca cI 1200 Rkca, ri kva cI 40 Rkva, ri kbd cZ 40 Rkbd, (mo, .inr (9, [.ref mtp, .int (zI tn_), .ref mtx, .int (zI mo_length), .ref mfo, .int (zI mo_formerLength), .int (zI mo_hasGrammar), .int (zI mo_at), .int (zI mo_token), .int (zI mo_sort), .long (lI mo_told), .int (zI mo_wrong), .int (zI mo_wrongAt), .int (zI mo_fault), .int (zI mo_faultAt), .int (zI mo_nest), .int (zI mo_symbols), .ref msn, .ref mac, .ref man, .ref mih, .int (zI mo_rules), .ref mrn, .ref mcc, .ref mrs, .ref mec, .ref mef, .ref meo, .ref mem, .int (zI mo_orders), .ref mor, .ref moo, .int (zI mo_occs), .ref mop, .ref moa, .int (zI mo_occurK), .int (zI mo_occurA), .int (zI mo_frames), .ref mfr, .ref mff, .int (zI mo_tokens), .int (zI mo_mode), .int (zI mo_nodes), .ref mnr, .ref mna, .ref mnp, .ref mno, .ref mnc, .int (zI mo_newNodes), .ref mwr, .ref mwa, .ref mwp, .ref mwo, .ref mwm, .ref mwc, .ref mcb, .ref mcm, .ref mia, .int (zI mo_isLarge), .ref mhg, .ref mgr, .ref mpl, .ref mrp, .ref mir, .ref mre, .ref mch, .int (zI 0), .ref mfs, .int (zI mo_worked), .ref mwk, .ref miw, .ref mib, .ref mnu, .ref mig, .int (zI mo_waits), .ref mwf, .ref mwx, .int (zI mo_top), .ref mst, .ref msb])), ri mtp cB 3000 Rdtp, ri mtx cB 3000 Rmtx, ri mfo cB 3000 Rmfo, rl msn cJ 12 Rmsn, ri mac cI 12 Rmac, rl man cJ 72 Rman, ri mih cZ 72 Rmih, rl mrn cJ 30 Rmrn, ri mcc cI 30 Rmcc, ri mrs cI 120 Rmrs, ri mec cI 30 Rmec, ri mef cI 720 Rmef, ri meo cI 720 Rmeo, ri mem cI 720 Rmem, ri mor cI 4000 Rmor, ri moo cI 4000 Rmoo, ri mop cI 3000 Rmop, ri moa cI 3000 Rmoa, ri mfr cI 120 Rmfr, ri mff cI 120 Rmff, ri mnr cI 200 Rmnr, ri mna cI 200 Rmna, ri mnp cI 200 Rmnp, ri mno cI 200 Rmno, ri mnc cI 800 Rmnc, ri mwr cI 200 Rmwr, ri mwa cI 200 Rmwa, ri mwp cI 200 Rmwp, ri mwo cI 200 Rmwo, ri mwm cI 200 Rmwm, ri mwc cI 800 Rmwc, ri mcb cZ 12 Rmcb, ri mcm cZ 30 Rmcm, ri mia cZ 12 Rmia, ri mhg cZ 6144 Rmhg, ri mgr cI 12 Rmgr, ri mpl cI 12 Rmpl, ri mrp cZ 30 Rmrp, ri mir cZ 30 Rmir, ri mre cI 24 Rmre, ri mch cI 4 Rmch, ri mfs cI 2100 Rmfs, ri mwk cI 1200 Rmwk, ri miw cZ 1200 Rmiw, ri mib cZ 1200 Rmib, ri mnu cI 1200 Rmnu, ri mig cZ 1200 Rmig, ri mwf cI 1200 Rmwf, ri mwx cI 1200 Rmwx, ri mst cI 60 Rmst, ri msb cZ 60 Rmsb, (dk, .inr (8, [.ref dtp, .int (zI 0), .ref gs, .ref gr, .ref tg, .ref tsp, .ref tk, .ref gd, .ref tr, .ref wy, .ref wk, .int (zI 0), .int (zI (-1))])), (tk, .inr (3, [.ref dtp, .int (zI tn_), .int (zI be2__2), .int (zI ki2__3), .int (zI at2__4), .long (lI nm2__5), .long (lI nu2__6)])), ri dtp cB 3000 Rdtp, (gd, .inr (2, [.ref tk, .ref xr, .ref gs, .int (zI st2__7), .int (zI ri2__8), .int (zI tp2__9), .int (zI ts2__10)])), (xr, .inr (0, [.ref tk, .ref xg2_27, .int (zI xru2__11), .int (zI xta2__12), .int (zI xst2__13), .int (zI xtc2__14), .int (zI xop2__15), .ref gwt, .int (zI xwc2__16), .int (zI xoc2__17), .int (zI xic2__18)])), ri gwt cI 40 wt2__30, (gs, .inr (1, [.int (zI ssc2__19), .ref sgsn, .ref sgac, .ref sgic, .ref sgan, .ref sgih, .ref sgrk, .int (zI src2__20), .ref sgrn, .ref sgrs, .ref sgcc, .ref sgec, .ref sgcs, .ref sgce, .ref sghg, .ref sgop, .ref sgod, .int (zI scz2__21)])), rl sgsn cJ 12 ssn2__31, ri sgac cI 12 sac2__32, ri sgic cI 12 sic2__33, rl sgan cJ 72 san2__34, ri sgih cZ 72 sih2__35, ri sgrk cI 72 srk2__36, rl sgrn cJ 30 srn2__37, ri sgrs cI 120 srs2__38, ri sgcc cI 30 scc2__39, ri sgec cI 30 sec2__40, ri sgcs cI 720 scs2__41, ri sgce cI 720 sce2__42, ri sghg cI 720 shgs2__43, ri sgop cI 3000 sop2__44, ri sgod cI 3000 sod2__45, (tg, .inr (4, [.int (zI 0), .ref trr, .ref tra, .ref trp, .ref tro, .ref trc])), (wk, .inr (7, [.ref kno, .ref kor, .int (zI 0), .ref gs, .ref tg, .ref kst, .ref kwy, .ref kba, .ref keq, .ref kca, .int (zI wk_wayLength), .ref kva, .ref kbd, .int (zI wk_valueCount)])), ri kst cI 1200 ks2__46, ri kor cI 1200 Rkor, ri kno cI 1200 no2__47, (wy, .inr (6, [.ref wpl, .ref wpr, .int (zI tl2__26), .ref wgr, .ref wgc, .ref wer, .ref wco, .ref gs, .ref whg, .ref wht, .ref wir, .ref wro, .ref wta, .ref wfi, .ref wsp])), ri wpl cI 12 pl2__48, ri wpr cZ 30 pr2__49, ri wgr cI 6144 gg2__50, ri wgc cI 12 gc2__51, ri wer cZ 30 er2__52, ri wco cZ 30 co2__53, ri whg cZ 6144 hg2__54, ri wht cZ 12 ht2__55, ri wir cZ 12 ir2__56, ri wro cI 24 ro2__57, ri wta cI 90 tn2__58, ri wfi cI 3 fi2__59, ri wsp cI 3 sp2__60] := hD
    have hK : va_K (dC, dI) vwCl [(cB, .byte), (cI, .int), (cJ, .long), (cZ, .boolean)] s := hK
    obtain rfl : r1 = zI src2__20 := hw1
    obtain ⟨eb_, hres, hexe⟩ := p1_62
    have hsrc := (hexe rfl).2
    refine lv_pop hx hb dL_law_198 rfl ?_
    refine lv_aload_n hx hb dL_law_199 rfl (lv_at hl 1 rfl) ?_
    have hPc := hP.sub (ws' := [(mo, .inr (9, [.ref mtp, .int (zI tn_), .ref mtx, .int (zI mo_length), .ref mfo, .int (zI mo_formerLength), .int (zI mo_hasGrammar), .int (zI mo_at), .int (zI mo_token), .int (zI mo_sort), .long (lI mo_told), .int (zI mo_wrong), .int (zI mo_wrongAt), .int (zI mo_fault), .int (zI mo_faultAt), .int (zI mo_nest), .int (zI mo_symbols), .ref msn, .ref mac, .ref man, .ref mih, .int (zI mo_rules), .ref mrn, .ref mcc, .ref mrs, .ref mec, .ref mef, .ref meo, .ref mem, .int (zI mo_orders), .ref mor, .ref moo, .int (zI mo_occs), .ref mop, .ref moa, .int (zI mo_occurK), .int (zI mo_occurA), .int (zI mo_frames), .ref mfr, .ref mff, .int (zI mo_tokens), .int (zI mo_mode), .int (zI mo_nodes), .ref mnr, .ref mna, .ref mnp, .ref mno, .ref mnc, .int (zI mo_newNodes), .ref mwr, .ref mwa, .ref mwp, .ref mwo, .ref mwm, .ref mwc, .ref mcb, .ref mcm, .ref mia, .int (zI mo_isLarge), .ref mhg, .ref mgr, .ref mpl, .ref mrp, .ref mir, .ref mre, .ref mch, .int (zI 0), .ref mfs, .int (zI mo_worked), .ref mwk, .ref miw, .ref mib, .ref mnu, .ref mig, .int (zI mo_waits), .ref mwf, .ref mwx, .int (zI mo_top), .ref mst, .ref msb])), ri mtx cB 3000 Rmtx, ri mtp cB 3000 Rdtp, ri mfo cB 3000 Rmfo, rl msn cJ 12 Rmsn, ri mac cI 12 Rmac, rl man cJ 72 Rman, ri mih cZ 72 Rmih, rl mrn cJ 30 Rmrn, ri mcc cI 30 Rmcc, ri mrs cI 120 Rmrs, ri mef cI 720 Rmef, ri mec cI 30 Rmec, ri meo cI 720 Rmeo, ri mem cI 720 Rmem, ri mor cI 4000 Rmor, ri moo cI 4000 Rmoo, ri mop cI 3000 Rmop, ri moa cI 3000 Rmoa, ri mfr cI 120 Rmfr, ri mff cI 120 Rmff, ri mre cI 24 Rmre, ri mch cI 4 Rmch, ri mgr cI 12 Rmgr, ri mhg cZ 6144 Rmhg, ri mir cZ 30 Rmir, ri mfs cI 2100 Rmfs, ri mpl cI 12 Rmpl, ri mrp cZ 30 Rmrp, ri mcb cZ 12 Rmcb, ri mcm cZ 30 Rmcm, ri mia cZ 12 Rmia]) [35, 37, 36, 38, 39, 40, 41, 42, 43, 44, 45, 47, 46, 48, 49, 50, 51, 52, 53, 54, 55, 75, 76, 71, 70, 74, 77, 72, 73, 67, 68, 69] rfl
    have hDc := hD.sub (ws' := [(mo, .inr (9, [.ref mtp, .int (zI tn_), .ref mtx, .int (zI mo_length), .ref mfo, .int (zI mo_formerLength), .int (zI mo_hasGrammar), .int (zI mo_at), .int (zI mo_token), .int (zI mo_sort), .long (lI mo_told), .int (zI mo_wrong), .int (zI mo_wrongAt), .int (zI mo_fault), .int (zI mo_faultAt), .int (zI mo_nest), .int (zI mo_symbols), .ref msn, .ref mac, .ref man, .ref mih, .int (zI mo_rules), .ref mrn, .ref mcc, .ref mrs, .ref mec, .ref mef, .ref meo, .ref mem, .int (zI mo_orders), .ref mor, .ref moo, .int (zI mo_occs), .ref mop, .ref moa, .int (zI mo_occurK), .int (zI mo_occurA), .int (zI mo_frames), .ref mfr, .ref mff, .int (zI mo_tokens), .int (zI mo_mode), .int (zI mo_nodes), .ref mnr, .ref mna, .ref mnp, .ref mno, .ref mnc, .int (zI mo_newNodes), .ref mwr, .ref mwa, .ref mwp, .ref mwo, .ref mwm, .ref mwc, .ref mcb, .ref mcm, .ref mia, .int (zI mo_isLarge), .ref mhg, .ref mgr, .ref mpl, .ref mrp, .ref mir, .ref mre, .ref mch, .int (zI 0), .ref mfs, .int (zI mo_worked), .ref mwk, .ref miw, .ref mib, .ref mnu, .ref mig, .int (zI mo_waits), .ref mwf, .ref mwx, .int (zI mo_top), .ref mst, .ref msb])), ri mtx cB 3000 Rmtx, ri mtp cB 3000 Rdtp, ri mfo cB 3000 Rmfo, rl msn cJ 12 Rmsn, ri mac cI 12 Rmac, rl man cJ 72 Rman, ri mih cZ 72 Rmih, rl mrn cJ 30 Rmrn, ri mcc cI 30 Rmcc, ri mrs cI 120 Rmrs, ri mef cI 720 Rmef, ri mec cI 30 Rmec, ri meo cI 720 Rmeo, ri mem cI 720 Rmem, ri mor cI 4000 Rmor, ri moo cI 4000 Rmoo, ri mop cI 3000 Rmop, ri moa cI 3000 Rmoa, ri mfr cI 120 Rmfr, ri mff cI 120 Rmff, ri mre cI 24 Rmre, ri mch cI 4 Rmch, ri mgr cI 12 Rmgr, ri mhg cZ 6144 Rmhg, ri mir cZ 30 Rmir, ri mfs cI 2100 Rmfs, ri mpl cI 12 Rmpl, ri mrp cZ 30 Rmrp, ri mcb cZ 12 Rmcb, ri mcm cZ 30 Rmcm, ri mia cZ 12 Rmia]) [35, 37, 36, 38, 39, 40, 41, 42, 43, 44, 45, 47, 46, 48, 49, 50, 51, 52, 53, 54, 55, 75, 76, 71, 70, 74, 77, 72, 73, 67, 68, 69] (by decide +kernel) rfl
    have hKc := hK.sub (tys' := [(cB, .byte), (cJ, .long), (cI, .int), (cZ, .boolean)]) [0, 2, 1, 3] rfl
    have hFc := va_free (wc := [(mo, .inr (9, [.ref mtp, .int (zI tn_), .ref mtx, .int (zI mo_length), .ref mfo, .int (zI mo_formerLength), .int (zI mo_hasGrammar), .int (zI mo_at), .int (zI mo_token), .int (zI mo_sort), .long (lI mo_told), .int (zI mo_wrong), .int (zI mo_wrongAt), .int (zI mo_fault), .int (zI mo_faultAt), .int (zI mo_nest), .int (zI mo_symbols), .ref msn, .ref mac, .ref man, .ref mih, .int (zI mo_rules), .ref mrn, .ref mcc, .ref mrs, .ref mec, .ref mef, .ref meo, .ref mem, .int (zI mo_orders), .ref mor, .ref moo, .int (zI mo_occs), .ref mop, .ref moa, .int (zI mo_occurK), .int (zI mo_occurA), .int (zI mo_frames), .ref mfr, .ref mff, .int (zI mo_tokens), .int (zI mo_mode), .int (zI mo_nodes), .ref mnr, .ref mna, .ref mnp, .ref mno, .ref mnc, .int (zI mo_newNodes), .ref mwr, .ref mwa, .ref mwp, .ref mwo, .ref mwm, .ref mwc, .ref mcb, .ref mcm, .ref mia, .int (zI mo_isLarge), .ref mhg, .ref mgr, .ref mpl, .ref mrp, .ref mir, .ref mre, .ref mch, .int (zI 0), .ref mfs, .int (zI mo_worked), .ref mwk, .ref miw, .ref mib, .ref mnu, .ref mig, .int (zI mo_waits), .ref mwf, .ref mwx, .int (zI mo_top), .ref mst, .ref msb])), ri mtx cB 3000 Rmtx, ri mtp cB 3000 Rdtp, ri mfo cB 3000 Rmfo, rl msn cJ 12 Rmsn, ri mac cI 12 Rmac, rl man cJ 72 Rman, ri mih cZ 72 Rmih, rl mrn cJ 30 Rmrn, ri mcc cI 30 Rmcc, ri mrs cI 120 Rmrs, ri mef cI 720 Rmef, ri mec cI 30 Rmec, ri meo cI 720 Rmeo, ri mem cI 720 Rmem, ri mor cI 4000 Rmor, ri moo cI 4000 Rmoo, ri mop cI 3000 Rmop, ri moa cI 3000 Rmoa, ri mfr cI 120 Rmfr, ri mff cI 120 Rmff, ri mre cI 24 Rmre, ri mch cI 4 Rmch, ri mgr cI 12 Rmgr, ri mhg cZ 6144 Rmhg, ri mir cZ 30 Rmir, ri mfs cI 2100 Rmfs, ri mpl cI 12 Rmpl, ri mrp cZ 30 Rmrp, ri mcb cZ 12 Rmcb, ri mcm cZ 30 Rmcm, ri mia cZ 12 Rmia]) hD hS hA [35, 37, 36, 38, 39, 40, 41, 42, 43, 44, 45, 47, 46, 48, 49, 50, 51, 52, 53, 54, 55, 75, 76, 71, 70, 74, 77, 72, 73, 67, 68, 69] rfl
    refine va_calli (va_runV (As := []) (rest := []) ⟨hx, hb, hml, hown, hg⟩ (c_X9_grammar l dC dI mo mtx mtp mfo msn mac man mih mrn mcc mrs mef mec meo mem mor moo mop moa mfr mff mre mch mgr mhg mir mfs mpl mrp mcb mcm mia mnr mna mnp mno mnc mwr mwa mwp mwo mwm mwc mwk miw mib mnu mig mwf mwx mst msb cB cJ cI cZ H.size (mkS 0 gd_readsInherited gd_targetPlace gd_targetSpot 0 0 0 xr_state xr_tokenCount xr_occPlace xr_waitingCount Rsgsn Rsgac Rsgic Rsgan Rsgih Rsgrn Rsgrs Rsgcc (bN Rsgcs) Rgwt) S1 tn_ mo_length mo_formerLength mo_hasGrammar mo_at mo_token mo_sort mo_told mo_wrong mo_wrongAt mo_fault mo_faultAt mo_nest mo_symbols mo_rules mo_orders mo_occs mo_occurK mo_occurA mo_frames mo_tokens mo_mode mo_nodes mo_newNodes mo_isLarge mo_worked mo_waits mo_top Rmtx Rdtp Rmfo Rmsn Rmac Rman Rmih Rmrn Rmcc Rmrs Rmef Rmec Rmeo Rmem Rmor Rmoo Rmop Rmoa Rmfr Rmff Rmre Rmch Rmgr Rmhg Rmir Rmfs Rmpl Rmrp Rmcb Rmcm Rmia (ini_mk _ _ _ _ _ _ _ _ _ _ _ _ _ _ _ _ _) (fun z => ⟨(hS1.to z).1, kfin_rf (hS1.to z).2.2.2⟩) f_hg f_tn f_fl f_lg f_sy f_ru f_bmtx f_btp f_bmfo f_bmsn f_bmac f_bman f_bmih f_bmrn f_bmcc f_bmrs f_bmef f_bmec f_bmeo f_bmem f_bmor f_bmoo f_bmop f_bmoa f_bmfr f_bmff f_bmre f_bmch f_bmgr f_bmhg f_bmir f_bmfs f_bmpl f_bmrp f_bmcb f_bmcm f_bmia) (cwV 0 hg gc_L_27 rfl rfl rfl (by decide +kernel) ⟨Nat.le_of_ble_eq_true rfl, Nat.le_of_ble_eq_true rfl⟩) ⟨fun a U g mk q => by obtain ⟨q0, q1, qP, qK, qD⟩ := q; exact ⟨q0, q1, qP, va_K.moved (u := U) (U := U.calling g mk a) (Vm.Alike.refl U.vm) qK, qD⟩, va_recv hKc hPc (ci := 9) (q0 := 0) rfl rfl, fun U hU hW => ⟨rfl, by rw [hU], by rw [hU]; exact hPc, va_K.moved hW.alike hKc, hDc.weaken (fun _ _ _ _ => trivial)⟩⟩ rfl rfl hl.1 rfl (lv_room (Nat.le_of_ble_eq_true rfl)) dL_law_200 ⟨Nat.le_of_ble_eq_true rfl, Nat.le_of_ble_eq_true rfl⟩) hS (fun q _ h => hFc q h) hFc (fun r93 u93 t H1 locs ht hvm hw93 hB hz1 hk1 hS => ?_)
    refine Exists.elim hB (fun len2__94 hB0 => ?_)
    clear hB
    refine Exists.elim hB0 (fun at2__95 hB => ?_)
    clear hB0
    refine Exists.elim hB (fun tk2__96 hB0 => ?_)
    clear hB
    refine Exists.elim hB0 (fun so2__97 hB => ?_)
    clear hB0
    refine Exists.elim hB (fun to2__98 hB0 => ?_)
    clear hB
    refine Exists.elim hB0 (fun wr2__99 hB => ?_)
    clear hB0
    refine Exists.elim hB (fun wa2__100 hB0 => ?_)
    clear hB
    refine Exists.elim hB0 (fun fa2__101 hB => ?_)
    clear hB0
    refine Exists.elim hB (fun fp2__102 hB0 => ?_)
    clear hB
    refine Exists.elim hB0 (fun hgr2__103 hB => ?_)
    clear hB0
    refine Exists.elim hB (fun fl2__104 hB0 => ?_)
    clear hB
    refine Exists.elim hB0 (fun no2__105 hB => ?_)
    clear hB0
    refine Exists.elim hB (fun wo2__106 hB0 => ?_)
    clear hB
    refine Exists.elim hB0 (fun lg2__107 hB => ?_)
    clear hB0
    refine Exists.elim hB (fun ock2__108 hB0 => ?_)
    clear hB
    refine Exists.elim hB0 (fun oca2__109 hB => ?_)
    clear hB0
    refine Exists.elim hB (fun ors2__110 hB0 => ?_)
    clear hB
    refine Exists.elim hB0 (fun ocs2__111 hB => ?_)
    clear hB0
    refine Exists.elim hB (fun nes2__112 hB0 => ?_)
    clear hB
    refine Exists.elim hB0 (fun tks2__113 hB => ?_)
    clear hB0
    refine Exists.elim hB (fun frm2__114 hB0 => ?_)
    clear hB
    refine Exists.elim hB0 (fun mde2__115 hB => ?_)
    clear hB0
    refine Exists.elim hB (fun rul2__116 hB0 => ?_)
    clear hB
    refine Exists.elim hB0 (fun sy2__117 hB => ?_)
    clear hB0
    refine Exists.elim hB (fun tx2__118 hB0 => ?_)
    clear hB
    refine Exists.elim hB0 (fun fo2__119 hB => ?_)
    clear hB0
    refine Exists.elim hB (fun sn2__120 hB0 => ?_)
    clear hB
    refine Exists.elim hB0 (fun ac2__121 hB => ?_)
    clear hB0
    refine Exists.elim hB (fun an2__122 hB0 => ?_)
    clear hB
    refine Exists.elim hB0 (fun ih2__123 hB => ?_)
    clear hB0
    refine Exists.elim hB (fun rn2__124 hB0 => ?_)
    clear hB
    refine Exists.elim hB0 (fun cc2__125 hB => ?_)
    clear hB0
    refine Exists.elim hB (fun rs2__126 hB0 => ?_)
    clear hB
    refine Exists.elim hB0 (fun ef2__127 hB => ?_)
    clear hB0
    refine Exists.elim hB (fun qc2__128 hB0 => ?_)
    clear hB
    refine Exists.elim hB0 (fun eo2__129 hB => ?_)
    clear hB0
    refine Exists.elim hB (fun em2__130 hB0 => ?_)
    clear hB
    refine Exists.elim hB0 (fun or2__131 hB => ?_)
    clear hB0
    refine Exists.elim hB (fun oo2__132 hB0 => ?_)
    clear hB
    refine Exists.elim hB0 (fun op2__133 hB => ?_)
    clear hB0
    refine Exists.elim hB (fun oa2__134 hB0 => ?_)
    clear hB
    refine Exists.elim hB0 (fun fr2__135 hB => ?_)
    clear hB0
    refine Exists.elim hB (fun ff2__136 hB0 => ?_)
    clear hB
    refine Exists.elim hB0 (fun re2__137 hB => ?_)
    clear hB0
    refine Exists.elim hB (fun ch2__138 hB0 => ?_)
    clear hB
    refine Exists.elim hB0 (fun gc2__139 hB => ?_)
    clear hB0
    refine Exists.elim hB (fun hg2__140 hB0 => ?_)
    clear hB
    refine Exists.elim hB0 (fun ir2__141 hB => ?_)
    clear hB0
    refine Exists.elim hB (fun fs2__142 hB0 => ?_)
    clear hB
    refine Exists.elim hB0 (fun pl2__143 hB => ?_)
    clear hB0
    refine Exists.elim hB (fun rp2__144 hB0 => ?_)
    clear hB
    refine Exists.elim hB0 (fun cb2__145 hB => ?_)
    clear hB0
    refine Exists.elim hB (fun cm2__146 hB0 => ?_)
    clear hB
    refine Exists.elim hB0 (fun ia2__147 hB => ?_)
    clear hB0
    have p0_148 := hB.1
    have hB0 := hB.2
    clear hB
    have p1_149 := hB0.1
    have hB := hB0.2
    clear hB0
    have p2_150 := hB.1
    have hB0 := hB.2
    clear hB
    have p3_151 := hB0.1
    have hB := hB0.2
    clear hB0
    have p4_152 := hB.1
    have hB0 := hB.2
    clear hB
    have p5_153 := hB0.1
    have hB := hB0.2
    clear hB0
    have p6_154 := hB.1
    have hB0 := hB.2
    clear hB
    have p7_155 := hB0.1
    have hB := hB0.2
    clear hB0
    have p8_156 := hB.1
    have hB0 := hB.2
    clear hB
    have p9_157 := hB0.1
    have hB := hB0.2
    clear hB0
    have p10_158 := hB.1
    have hB0 := hB.2
    clear hB
    have p11_159 := hB0.1
    have hB := hB0.2
    clear hB0
    have p12_160 := hB.1
    have hB0 := hB.2
    clear hB
    have p13_161 := hB0.1
    have hB := hB0.2
    clear hB0
    have p14_162 := hB.1
    have hB0 := hB.2
    clear hB
    have p15_163 := hB0.1
    have hB := hB0.2
    clear hB0
    have p16_164 := hB.1
    have hB0 := hB.2
    clear hB
    have p17_165 := hB0.1
    have hB := hB0.2
    clear hB0
    have p18_166 := hB.1
    have hB0 := hB.2
    clear hB
    have p19_167 := hB0.1
    have hB := hB0.2
    clear hB0
    have p20_168 := hB.1
    have hB0 := hB.2
    clear hB
    have p21_169 := hB0.1
    have hB := hB0.2
    clear hB0
    have p22_170 := hB.1
    have hB0 := hB.2
    clear hB
    have p23_171 := hB0.1
    have hB := hB0.2
    clear hB0
    have p24_172 := hB.1
    have hB0 := hB.2
    clear hB
    have p25_173 := hB0.1
    have hB := hB0.2
    clear hB0
    have p26_174 := hB.1
    have hB0 := hB.2
    clear hB
    have p27_175 := hB0.1
    have hB := hB0.2
    clear hB0
    have p28_176 := hB.1
    have hB0 := hB.2
    clear hB
    have p29_177 := hB0.1
    have hB := hB0.2
    clear hB0
    have p30_178 := hB.1
    have hB0 := hB.2
    clear hB
    have p31_179 := hB0.1
    have hB := hB0.2
    clear hB0
    have p32_180 := hB.1
    have hB0 := hB.2
    clear hB
    have p33_181 := hB0.1
    have hB := hB0.2
    clear hB0
    have p34_182 := hB.1
    have hB0 := hB.2
    clear hB
    have p35_183 := hB0.1
    have hB := hB0.2
    clear hB0
    have p36_184 := hB.1
    have hB0 := hB.2
    clear hB
    have p37_185 := hB0.1
    have hB := hB0.2
    clear hB0
    have p38_186 := hB.1
    have hB0 := hB.2
    clear hB
    have hP1 := hB0.1
    have hB := hB0.2
    clear hB0
    have hK1 := hB.1
    have hB0 := hB.2
    clear hB
    have hD1 := hB0
    clear hB0
    rcases p0_148 with ⟨rfl, hx187a, rfl, hx187b, rfl, rfl, hfn1, hfn2, htq9, rfl⟩ | ⟨hfa9, rfl, hx187a, hx187b, hx187c, hx187d, hrf9, himp1, himp0⟩
    · obtain rfl := hx187a.symm
      obtain rfl := hx187b.symm
      rw [ht] at hP1
      have hK1 := va_K.moved hvm.symm hK1
      obtain ⟨hP, hD⟩ := va_join (wr := [(gr, .inr (1, [.int (zI gr_symbolCount), .ref gsn, .ref gac, .ref gic, .ref gan, .ref gih, .ref grk, .int (zI gr_ruleCount), .ref grn, .ref grs, .ref gcc, .ref gec, .ref gcs, .ref gce, .ref ghg, .ref gop, .ref god, .int (zI gr_codeSize)])), rl gsn cJ 12 Rgsn, ri gac cI 12 Rgac, ri gic cI 12 Rgic, rl gan cJ 72 Rgan, ri gih cZ 72 Rgih, ri grk cI 72 Rgrk, rl grn cJ 30 Rgrn, ri grs cI 120 Rgrs, ri gcc cI 30 Rgcc, ri gec cI 30 Rgec, ri gcs cI 720 Rgcs, ri gce cI 720 Rgce, ri ghg cI 720 Rghg, ri gop cI 3000 Rgop, ri god cI 3000 Rgod, ri trr cI 200 Rtrr, ri tra cI 200 Rtra, ri trp cI 200 Rtrp, ri tro cI 200 Rtro, ri trc cI 600 Rtrc, (tsp, .inr (4, [.int (zI tsp_size), .ref strr, .ref stra, .ref strp, .ref stro, .ref strc])), ri strr cI 200 Rstrr, ri stra cI 200 Rstra, ri strp cI 200 Rstrp, ri stro cI 200 Rstro, ri strc cI 600 Rstrc, (tr, .inr (5, [.ref tk, .ref trgg, .ref trtt, .int (zI tr_state), .int (zI tr_here), .int (zI tr_depth), .ref trf])), ri trf cI 200 Rtrf, ri kwy cI 1200 Rkwy, ri kba cI 1200 Rkba, ri keq cI 1200 Rkeq, ri kca cI 1200 Rkca, ri kva cI 40 Rkva, ri kbd cZ 40 Rkbd, ri mnr cI 200 Rmnr, ri mna cI 200 Rmna, ri mnp cI 200 Rmnp, ri mno cI 200 Rmno, ri mnc cI 800 Rmnc, ri mwr cI 200 Rmwr, ri mwa cI 200 Rmwa, ri mwp cI 200 Rmwp, ri mwo cI 200 Rmwo, ri mwm cI 200 Rmwm, ri mwc cI 800 Rmwc, ri mwk cI 1200 Rmwk, ri miw cZ 1200 Rmiw, ri mib cZ 1200 Rmib, ri mnu cI 1200 Rmnu, ri mig cZ 1200 Rmig, ri mwf cI 1200 Rmwf, ri mwx cI 1200 Rmwx, ri mst cI 60 Rmst, ri msb cZ 60 Rmsb, (dk, .inr (8, [.ref dtp, .int (zI 0), .ref gs, .ref gr, .ref tg, .ref tsp, .ref tk, .ref gd, .ref tr, .ref wy, .ref wk, .int (zI 0), .int (zI (-1))])), (tk, .inr (3, [.ref dtp, .int (zI tn_), .int (zI be2__2), .int (zI ki2__3), .int (zI at2__4), .long (lI nm2__5), .long (lI nu2__6)])), ri dtp cB 3000 Rdtp, (gd, .inr (2, [.ref tk, .ref xr, .ref gs, .int (zI st2__7), .int (zI ri2__8), .int (zI tp2__9), .int (zI ts2__10)])), (xr, .inr (0, [.ref tk, .ref xg2_27, .int (zI xru2__11), .int (zI xta2__12), .int (zI xst2__13), .int (zI xtc2__14), .int (zI xop2__15), .ref gwt, .int (zI xwc2__16), .int (zI xoc2__17), .int (zI xic2__18)])), ri gwt cI 40 wt2__30, (gs, .inr (1, [.int (zI ssc2__19), .ref sgsn, .ref sgac, .ref sgic, .ref sgan, .ref sgih, .ref sgrk, .int (zI src2__20), .ref sgrn, .ref sgrs, .ref sgcc, .ref sgec, .ref sgcs, .ref sgce, .ref sghg, .ref sgop, .ref sgod, .int (zI scz2__21)])), rl sgsn cJ 12 ssn2__31, ri sgac cI 12 sac2__32, ri sgic cI 12 sic2__33, rl sgan cJ 72 san2__34, ri sgih cZ 72 sih2__35, ri sgrk cI 72 srk2__36, rl sgrn cJ 30 srn2__37, ri sgrs cI 120 srs2__38, ri sgcc cI 30 scc2__39, ri sgec cI 30 sec2__40, ri sgcs cI 720 scs2__41, ri sgce cI 720 sce2__42, ri sghg cI 720 shgs2__43, ri sgop cI 3000 sop2__44, ri sgod cI 3000 sod2__45, (tg, .inr (4, [.int (zI 0), .ref trr, .ref tra, .ref trp, .ref tro, .ref trc])), (wk, .inr (7, [.ref kno, .ref kor, .int (zI 0), .ref gs, .ref tg, .ref kst, .ref kwy, .ref kba, .ref keq, .ref kca, .int (zI wk_wayLength), .ref kva, .ref kbd, .int (zI wk_valueCount)])), ri kst cI 1200 ks2__46, ri kor cI 1200 Rkor, ri kno cI 1200 no2__47, (wy, .inr (6, [.ref wpl, .ref wpr, .int (zI tl2__26), .ref wgr, .ref wgc, .ref wer, .ref wco, .ref gs, .ref whg, .ref wht, .ref wir, .ref wro, .ref wta, .ref wfi, .ref wsp])), ri wpl cI 12 pl2__48, ri wpr cZ 30 pr2__49, ri wgr cI 6144 gg2__50, ri wgc cI 12 gc2__51, ri wer cZ 30 er2__52, ri wco cZ 30 co2__53, ri whg cZ 6144 hg2__54, ri wht cZ 12 ht2__55, ri wir cZ 12 ir2__56, ri wro cI 24 ro2__57, ri wta cI 90 tn2__58, ri wfi cI 3 fi2__59, ri wsp cI 3 sp2__60]) (w1 := [(mo, .inr (9, [.ref mtp, .int (zI 0), .ref mtx, .int (zI len2__94), .ref mfo, .int (zI tn_), .int (zI 1), .int (zI at2__95), .int (zI tk2__96), .int (zI so2__97), .long (lI to2__98), .int (zI wr2__99), .int (zI wa2__100), .int (zI 0), .int (zI (-1)), .int (zI nes2__112), .int (zI sy2__117), .ref msn, .ref mac, .ref man, .ref mih, .int (zI rul2__116), .ref mrn, .ref mcc, .ref mrs, .ref mec, .ref mef, .ref meo, .ref mem, .int (zI ors2__110), .ref mor, .ref moo, .int (zI ocs2__111), .ref mop, .ref moa, .int (zI ock2__108), .int (zI oca2__109), .int (zI frm2__114), .ref mfr, .ref mff, .int (zI tks2__113), .int (zI mde2__115), .int (zI 0), .ref mnr, .ref mna, .ref mnp, .ref mno, .ref mnc, .int (zI mo_newNodes), .ref mwr, .ref mwa, .ref mwp, .ref mwo, .ref mwm, .ref mwc, .ref mcb, .ref mcm, .ref mia, .int (zI lg2__107), .ref mhg, .ref mgr, .ref mpl, .ref mrp, .ref mir, .ref mre, .ref mch, .int (zI 0), .ref mfs, .int (zI 0), .ref mwk, .ref miw, .ref mib, .ref mnu, .ref mig, .int (zI mo_waits), .ref mwf, .ref mwx, .int (zI mo_top), .ref mst, .ref msb])), ri mtx cB 3000 tx2__118, ri mtp cB 3000 Rdtp, ri mfo cB 3000 fo2__119, rl msn cJ 12 sn2__120, ri mac cI 12 ac2__121, rl man cJ 72 an2__122, ri mih cZ 72 ih2__123, rl mrn cJ 30 rn2__124, ri mcc cI 30 cc2__125, ri mrs cI 120 rs2__126, ri mef cI 720 ef2__127, ri mec cI 30 qc2__128, ri meo cI 720 eo2__129, ri mem cI 720 em2__130, ri mor cI 4000 or2__131, ri moo cI 4000 oo2__132, ri mop cI 3000 op2__133, ri moa cI 3000 oa2__134, ri mfr cI 120 fr2__135, ri mff cI 120 ff2__136, ri mre cI 24 re2__137, ri mch cI 4 ch2__138, ri mgr cI 12 gc2__139, ri mhg cZ 6144 hg2__140, ri mir cZ 30 ir2__141, ri mfs cI 2100 fs2__142, ri mpl cI 12 pl2__143, ri mrp cZ 30 rp2__144, ri mcb cZ 12 cb2__145, ri mcm cZ 30 cm2__146, ri mia cZ 12 ia2__147]) hP hD [35, 37, 36, 38, 39, 40, 41, 42, 43, 44, 45, 47, 46, 48, 49, 50, 51, 52, 53, 54, 55, 75, 76, 71, 70, 74, 77, 72, 73, 67, 68, 69] [0, 1, 2, 3, 4, 5, 6, 7, 8, 9, 10, 11, 12, 13, 14, 15, 16, 17, 18, 19, 20, 21, 22, 23, 24, 25, 26, 27, 28, 29, 30, 31, 32, 33, 34, 56, 57, 58, 59, 60, 61, 62, 63, 64, 65, 66, 78, 79, 80, 81, 82, 83, 84, 85, 86, 87, 88, 89, 90, 91, 92, 93, 94, 95, 96, 97, 98, 99, 100, 101, 102, 103, 104, 105, 106, 107, 108, 109, 110, 111, 112, 113, 114, 115, 116, 117, 118, 119, 120, 121, 122, 123, 124, 125, 126, 127] rfl rfl (by decide +kernel) (by decide +kernel) hk1 hFc hP1 hD1
      have hK := (hK.sub (tys' := []) [] rfl).app hK1
      generalize H1 = H at hP hS ⊢
      clear hP1 hD1 hK1 hz1 hk1 hFc hPc hDc hKc hvm ht
      have hP : va_P (dC, dI) vwCl [(gr, .inr (1, [.int (zI gr_symbolCount), .ref gsn, .ref gac, .ref gic, .ref gan, .ref gih, .ref grk, .int (zI gr_ruleCount), .ref grn, .ref grs, .ref gcc, .ref gec, .ref gcs, .ref gce, .ref ghg, .ref gop, .ref god, .int (zI gr_codeSize)])), rl gsn cJ 12 Rgsn, ri gac cI 12 Rgac, ri gic cI 12 Rgic, rl gan cJ 72 Rgan, ri gih cZ 72 Rgih, ri grk cI 72 Rgrk, rl grn cJ 30 Rgrn, ri grs cI 120 Rgrs, ri gcc cI 30 Rgcc, ri gec cI 30 Rgec, ri gcs cI 720 Rgcs, ri gce cI 720 Rgce, ri ghg cI 720 Rghg, ri gop cI 3000 Rgop, ri god cI 3000 Rgod, ri trr cI 200 Rtrr, ri tra cI 200 Rtra, ri trp cI 200 Rtrp, ri tro cI 200 Rtro, ri trc cI 600 Rtrc, (tsp, .inr (4, [.int (zI tsp_size), .ref strr, .ref stra, .ref strp, .ref stro, .ref strc])), ri strr cI 200 Rstrr, ri stra cI 200 Rstra, ri strp cI 200 Rstrp, ri stro cI 200 Rstro, ri strc cI 600 Rstrc, (tr, .inr (5, [.ref tk, .ref trgg, .ref trtt, .int (zI tr_state), .int (zI tr_here), .int (zI tr_depth), .ref trf])), ri trf cI 200 Rtrf, ri kwy cI 1200 Rkwy, ri kba cI 1200 Rkba, ri keq cI 1200 Rkeq, ri kca cI 1200 Rkca, ri kva cI 40 Rkva, ri kbd cZ 40 Rkbd, ri mnr cI 200 Rmnr, ri mna cI 200 Rmna, ri mnp cI 200 Rmnp, ri mno cI 200 Rmno, ri mnc cI 800 Rmnc, ri mwr cI 200 Rmwr, ri mwa cI 200 Rmwa, ri mwp cI 200 Rmwp, ri mwo cI 200 Rmwo, ri mwm cI 200 Rmwm, ri mwc cI 800 Rmwc, ri mwk cI 1200 Rmwk, ri miw cZ 1200 Rmiw, ri mib cZ 1200 Rmib, ri mnu cI 1200 Rmnu, ri mig cZ 1200 Rmig, ri mwf cI 1200 Rmwf, ri mwx cI 1200 Rmwx, ri mst cI 60 Rmst, ri msb cZ 60 Rmsb, (dk, .inr (8, [.ref dtp, .int (zI 0), .ref gs, .ref gr, .ref tg, .ref tsp, .ref tk, .ref gd, .ref tr, .ref wy, .ref wk, .int (zI 0), .int (zI (-1))])), (tk, .inr (3, [.ref dtp, .int (zI tn_), .int (zI be2__2), .int (zI ki2__3), .int (zI at2__4), .long (lI nm2__5), .long (lI nu2__6)])), ri dtp cB 3000 Rdtp, (gd, .inr (2, [.ref tk, .ref xr, .ref gs, .int (zI st2__7), .int (zI ri2__8), .int (zI tp2__9), .int (zI ts2__10)])), (xr, .inr (0, [.ref tk, .ref xg2_27, .int (zI xru2__11), .int (zI xta2__12), .int (zI xst2__13), .int (zI xtc2__14), .int (zI xop2__15), .ref gwt, .int (zI xwc2__16), .int (zI xoc2__17), .int (zI xic2__18)])), ri gwt cI 40 wt2__30, (gs, .inr (1, [.int (zI ssc2__19), .ref sgsn, .ref sgac, .ref sgic, .ref sgan, .ref sgih, .ref sgrk, .int (zI src2__20), .ref sgrn, .ref sgrs, .ref sgcc, .ref sgec, .ref sgcs, .ref sgce, .ref sghg, .ref sgop, .ref sgod, .int (zI scz2__21)])), rl sgsn cJ 12 ssn2__31, ri sgac cI 12 sac2__32, ri sgic cI 12 sic2__33, rl sgan cJ 72 san2__34, ri sgih cZ 72 sih2__35, ri sgrk cI 72 srk2__36, rl sgrn cJ 30 srn2__37, ri sgrs cI 120 srs2__38, ri sgcc cI 30 scc2__39, ri sgec cI 30 sec2__40, ri sgcs cI 720 scs2__41, ri sgce cI 720 sce2__42, ri sghg cI 720 shgs2__43, ri sgop cI 3000 sop2__44, ri sgod cI 3000 sod2__45, (tg, .inr (4, [.int (zI 0), .ref trr, .ref tra, .ref trp, .ref tro, .ref trc])), (wk, .inr (7, [.ref kno, .ref kor, .int (zI 0), .ref gs, .ref tg, .ref kst, .ref kwy, .ref kba, .ref keq, .ref kca, .int (zI wk_wayLength), .ref kva, .ref kbd, .int (zI wk_valueCount)])), ri kst cI 1200 ks2__46, ri kor cI 1200 Rkor, ri kno cI 1200 no2__47, (wy, .inr (6, [.ref wpl, .ref wpr, .int (zI tl2__26), .ref wgr, .ref wgc, .ref wer, .ref wco, .ref gs, .ref whg, .ref wht, .ref wir, .ref wro, .ref wta, .ref wfi, .ref wsp])), ri wpl cI 12 pl2__48, ri wpr cZ 30 pr2__49, ri wgr cI 6144 gg2__50, ri wgc cI 12 gc2__51, ri wer cZ 30 er2__52, ri wco cZ 30 co2__53, ri whg cZ 6144 hg2__54, ri wht cZ 12 ht2__55, ri wir cZ 12 ir2__56, ri wro cI 24 ro2__57, ri wta cI 90 tn2__58, ri wfi cI 3 fi2__59, ri wsp cI 3 sp2__60, (mo, .inr (9, [.ref mtp, .int (zI 0), .ref mtx, .int (zI len2__94), .ref mfo, .int (zI tn_), .int (zI 1), .int (zI at2__95), .int (zI tk2__96), .int (zI so2__97), .long (lI to2__98), .int (zI wr2__99), .int (zI wa2__100), .int (zI 0), .int (zI (-1)), .int (zI nes2__112), .int (zI sy2__117), .ref msn, .ref mac, .ref man, .ref mih, .int (zI rul2__116), .ref mrn, .ref mcc, .ref mrs, .ref mec, .ref mef, .ref meo, .ref mem, .int (zI ors2__110), .ref mor, .ref moo, .int (zI ocs2__111), .ref mop, .ref moa, .int (zI ock2__108), .int (zI oca2__109), .int (zI frm2__114), .ref mfr, .ref mff, .int (zI tks2__113), .int (zI mde2__115), .int (zI 0), .ref mnr, .ref mna, .ref mnp, .ref mno, .ref mnc, .int (zI mo_newNodes), .ref mwr, .ref mwa, .ref mwp, .ref mwo, .ref mwm, .ref mwc, .ref mcb, .ref mcm, .ref mia, .int (zI lg2__107), .ref mhg, .ref mgr, .ref mpl, .ref mrp, .ref mir, .ref mre, .ref mch, .int (zI 0), .ref mfs, .int (zI 0), .ref mwk, .ref miw, .ref mib, .ref mnu, .ref mig, .int (zI mo_waits), .ref mwf, .ref mwx, .int (zI mo_top), .ref mst, .ref msb])), ri mtx cB 3000 tx2__118, ri mtp cB 3000 Rdtp, ri mfo cB 3000 fo2__119, rl msn cJ 12 sn2__120, ri mac cI 12 ac2__121, rl man cJ 72 an2__122, ri mih cZ 72 ih2__123, rl mrn cJ 30 rn2__124, ri mcc cI 30 cc2__125, ri mrs cI 120 rs2__126, ri mef cI 720 ef2__127, ri mec cI 30 qc2__128, ri meo cI 720 eo2__129, ri mem cI 720 em2__130, ri mor cI 4000 or2__131, ri moo cI 4000 oo2__132, ri mop cI 3000 op2__133, ri moa cI 3000 oa2__134, ri mfr cI 120 fr2__135, ri mff cI 120 ff2__136, ri mre cI 24 re2__137, ri mch cI 4 ch2__138, ri mgr cI 12 gc2__139, ri mhg cZ 6144 hg2__140, ri mir cZ 30 ir2__141, ri mfs cI 2100 fs2__142, ri mpl cI 12 pl2__143, ri mrp cZ 30 rp2__144, ri mcb cZ 12 cb2__145, ri mcm cZ 30 cm2__146, ri mia cZ 12 ia2__147] H := hP
      have hD : va_D (fun q : Nat => s.heap.size ≤ q) [(gr, .inr (1, [.int (zI gr_symbolCount), .ref gsn, .ref gac, .ref gic, .ref gan, .ref gih, .ref grk, .int (zI gr_ruleCount), .ref grn, .ref grs, .ref gcc, .ref gec, .ref gcs, .ref gce, .ref ghg, .ref gop, .ref god, .int (zI gr_codeSize)])), rl gsn cJ 12 Rgsn, ri gac cI 12 Rgac, ri gic cI 12 Rgic, rl gan cJ 72 Rgan, ri gih cZ 72 Rgih, ri grk cI 72 Rgrk, rl grn cJ 30 Rgrn, ri grs cI 120 Rgrs, ri gcc cI 30 Rgcc, ri gec cI 30 Rgec, ri gcs cI 720 Rgcs, ri gce cI 720 Rgce, ri ghg cI 720 Rghg, ri gop cI 3000 Rgop, ri god cI 3000 Rgod, ri trr cI 200 Rtrr, ri tra cI 200 Rtra, ri trp cI 200 Rtrp, ri tro cI 200 Rtro, ri trc cI 600 Rtrc, (tsp, .inr (4, [.int (zI tsp_size), .ref strr, .ref stra, .ref strp, .ref stro, .ref strc])), ri strr cI 200 Rstrr, ri stra cI 200 Rstra, ri strp cI 200 Rstrp, ri stro cI 200 Rstro, ri strc cI 600 Rstrc, (tr, .inr (5, [.ref tk, .ref trgg, .ref trtt, .int (zI tr_state), .int (zI tr_here), .int (zI tr_depth), .ref trf])), ri trf cI 200 Rtrf, ri kwy cI 1200 Rkwy, ri kba cI 1200 Rkba, ri keq cI 1200 Rkeq, ri kca cI 1200 Rkca, ri kva cI 40 Rkva, ri kbd cZ 40 Rkbd, ri mnr cI 200 Rmnr, ri mna cI 200 Rmna, ri mnp cI 200 Rmnp, ri mno cI 200 Rmno, ri mnc cI 800 Rmnc, ri mwr cI 200 Rmwr, ri mwa cI 200 Rmwa, ri mwp cI 200 Rmwp, ri mwo cI 200 Rmwo, ri mwm cI 200 Rmwm, ri mwc cI 800 Rmwc, ri mwk cI 1200 Rmwk, ri miw cZ 1200 Rmiw, ri mib cZ 1200 Rmib, ri mnu cI 1200 Rmnu, ri mig cZ 1200 Rmig, ri mwf cI 1200 Rmwf, ri mwx cI 1200 Rmwx, ri mst cI 60 Rmst, ri msb cZ 60 Rmsb, (dk, .inr (8, [.ref dtp, .int (zI 0), .ref gs, .ref gr, .ref tg, .ref tsp, .ref tk, .ref gd, .ref tr, .ref wy, .ref wk, .int (zI 0), .int (zI (-1))])), (tk, .inr (3, [.ref dtp, .int (zI tn_), .int (zI be2__2), .int (zI ki2__3), .int (zI at2__4), .long (lI nm2__5), .long (lI nu2__6)])), ri dtp cB 3000 Rdtp, (gd, .inr (2, [.ref tk, .ref xr, .ref gs, .int (zI st2__7), .int (zI ri2__8), .int (zI tp2__9), .int (zI ts2__10)])), (xr, .inr (0, [.ref tk, .ref xg2_27, .int (zI xru2__11), .int (zI xta2__12), .int (zI xst2__13), .int (zI xtc2__14), .int (zI xop2__15), .ref gwt, .int (zI xwc2__16), .int (zI xoc2__17), .int (zI xic2__18)])), ri gwt cI 40 wt2__30, (gs, .inr (1, [.int (zI ssc2__19), .ref sgsn, .ref sgac, .ref sgic, .ref sgan, .ref sgih, .ref sgrk, .int (zI src2__20), .ref sgrn, .ref sgrs, .ref sgcc, .ref sgec, .ref sgcs, .ref sgce, .ref sghg, .ref sgop, .ref sgod, .int (zI scz2__21)])), rl sgsn cJ 12 ssn2__31, ri sgac cI 12 sac2__32, ri sgic cI 12 sic2__33, rl sgan cJ 72 san2__34, ri sgih cZ 72 sih2__35, ri sgrk cI 72 srk2__36, rl sgrn cJ 30 srn2__37, ri sgrs cI 120 srs2__38, ri sgcc cI 30 scc2__39, ri sgec cI 30 sec2__40, ri sgcs cI 720 scs2__41, ri sgce cI 720 sce2__42, ri sghg cI 720 shgs2__43, ri sgop cI 3000 sop2__44, ri sgod cI 3000 sod2__45, (tg, .inr (4, [.int (zI 0), .ref trr, .ref tra, .ref trp, .ref tro, .ref trc])), (wk, .inr (7, [.ref kno, .ref kor, .int (zI 0), .ref gs, .ref tg, .ref kst, .ref kwy, .ref kba, .ref keq, .ref kca, .int (zI wk_wayLength), .ref kva, .ref kbd, .int (zI wk_valueCount)])), ri kst cI 1200 ks2__46, ri kor cI 1200 Rkor, ri kno cI 1200 no2__47, (wy, .inr (6, [.ref wpl, .ref wpr, .int (zI tl2__26), .ref wgr, .ref wgc, .ref wer, .ref wco, .ref gs, .ref whg, .ref wht, .ref wir, .ref wro, .ref wta, .ref wfi, .ref wsp])), ri wpl cI 12 pl2__48, ri wpr cZ 30 pr2__49, ri wgr cI 6144 gg2__50, ri wgc cI 12 gc2__51, ri wer cZ 30 er2__52, ri wco cZ 30 co2__53, ri whg cZ 6144 hg2__54, ri wht cZ 12 ht2__55, ri wir cZ 12 ir2__56, ri wro cI 24 ro2__57, ri wta cI 90 tn2__58, ri wfi cI 3 fi2__59, ri wsp cI 3 sp2__60, (mo, .inr (9, [.ref mtp, .int (zI 0), .ref mtx, .int (zI len2__94), .ref mfo, .int (zI tn_), .int (zI 1), .int (zI at2__95), .int (zI tk2__96), .int (zI so2__97), .long (lI to2__98), .int (zI wr2__99), .int (zI wa2__100), .int (zI 0), .int (zI (-1)), .int (zI nes2__112), .int (zI sy2__117), .ref msn, .ref mac, .ref man, .ref mih, .int (zI rul2__116), .ref mrn, .ref mcc, .ref mrs, .ref mec, .ref mef, .ref meo, .ref mem, .int (zI ors2__110), .ref mor, .ref moo, .int (zI ocs2__111), .ref mop, .ref moa, .int (zI ock2__108), .int (zI oca2__109), .int (zI frm2__114), .ref mfr, .ref mff, .int (zI tks2__113), .int (zI mde2__115), .int (zI 0), .ref mnr, .ref mna, .ref mnp, .ref mno, .ref mnc, .int (zI mo_newNodes), .ref mwr, .ref mwa, .ref mwp, .ref mwo, .ref mwm, .ref mwc, .ref mcb, .ref mcm, .ref mia, .int (zI lg2__107), .ref mhg, .ref mgr, .ref mpl, .ref mrp, .ref mir, .ref mre, .ref mch, .int (zI 0), .ref mfs, .int (zI 0), .ref mwk, .ref miw, .ref mib, .ref mnu, .ref mig, .int (zI mo_waits), .ref mwf, .ref mwx, .int (zI mo_top), .ref mst, .ref msb])), ri mtx cB 3000 tx2__118, ri mtp cB 3000 Rdtp, ri mfo cB 3000 fo2__119, rl msn cJ 12 sn2__120, ri mac cI 12 ac2__121, rl man cJ 72 an2__122, ri mih cZ 72 ih2__123, rl mrn cJ 30 rn2__124, ri mcc cI 30 cc2__125, ri mrs cI 120 rs2__126, ri mef cI 720 ef2__127, ri mec cI 30 qc2__128, ri meo cI 720 eo2__129, ri mem cI 720 em2__130, ri mor cI 4000 or2__131, ri moo cI 4000 oo2__132, ri mop cI 3000 op2__133, ri moa cI 3000 oa2__134, ri mfr cI 120 fr2__135, ri mff cI 120 ff2__136, ri mre cI 24 re2__137, ri mch cI 4 ch2__138, ri mgr cI 12 gc2__139, ri mhg cZ 6144 hg2__140, ri mir cZ 30 ir2__141, ri mfs cI 2100 fs2__142, ri mpl cI 12 pl2__143, ri mrp cZ 30 rp2__144, ri mcb cZ 12 cb2__145, ri mcm cZ 30 cm2__146, ri mia cZ 12 ia2__147] := hD
      have hK : va_K (dC, dI) vwCl [(cB, .byte), (cJ, .long), (cI, .int), (cZ, .boolean)] s := hK
      obtain rfl : r93 = zI rul2__116 := hw93
      refine lv_pop hx hb dL_law_203 rfl ?_
      refine lv_goto (tgt := 553) hx hb dL_law_204 (by decide) ?_
      have hkf9 := kfin_mk hfn1 (by have y := hres; rw [(hexe rfl).1] at y; exact y)
      have hP := hP.sub (ws' := [(dk, .inr (8, [.ref dtp, .int (zI 0), .ref gs, .ref gr, .ref tg, .ref tsp, .ref tk, .ref gd, .ref tr, .ref wy, .ref wk, .int (zI 0), .int (zI (-1))])), ri dtp cB 3000 Rdtp, (gs, .inr (1, [.int (zI ssc2__19), .ref sgsn, .ref sgac, .ref sgic, .ref sgan, .ref sgih, .ref sgrk, .int (zI src2__20), .ref sgrn, .ref sgrs, .ref sgcc, .ref sgec, .ref sgcs, .ref sgce, .ref sghg, .ref sgop, .ref sgod, .int (zI scz2__21)])), rl sgsn cJ 12 ssn2__31, ri sgac cI 12 sac2__32, ri sgic cI 12 sic2__33, rl sgan cJ 72 san2__34, ri sgih cZ 72 sih2__35, ri sgrk cI 72 srk2__36, rl sgrn cJ 30 srn2__37, ri sgrs cI 120 srs2__38, ri sgcc cI 30 scc2__39, ri sgec cI 30 sec2__40, ri sgcs cI 720 scs2__41, ri sgce cI 720 sce2__42, ri sghg cI 720 shgs2__43, ri sgop cI 3000 sop2__44, ri sgod cI 3000 sod2__45, (gr, .inr (1, [.int (zI gr_symbolCount), .ref gsn, .ref gac, .ref gic, .ref gan, .ref gih, .ref grk, .int (zI gr_ruleCount), .ref grn, .ref grs, .ref gcc, .ref gec, .ref gcs, .ref gce, .ref ghg, .ref gop, .ref god, .int (zI gr_codeSize)])), rl gsn cJ 12 Rgsn, ri gac cI 12 Rgac, ri gic cI 12 Rgic, rl gan cJ 72 Rgan, ri gih cZ 72 Rgih, ri grk cI 72 Rgrk, rl grn cJ 30 Rgrn, ri grs cI 120 Rgrs, ri gcc cI 30 Rgcc, ri gec cI 30 Rgec, ri gcs cI 720 Rgcs, ri gce cI 720 Rgce, ri ghg cI 720 Rghg, ri gop cI 3000 Rgop, ri god cI 3000 Rgod, (tg, .inr (4, [.int (zI 0), .ref trr, .ref tra, .ref trp, .ref tro, .ref trc])), ri trr cI 200 Rtrr, ri tra cI 200 Rtra, ri trp cI 200 Rtrp, ri tro cI 200 Rtro, ri trc cI 600 Rtrc, (tsp, .inr (4, [.int (zI tsp_size), .ref strr, .ref stra, .ref strp, .ref stro, .ref strc])), ri strr cI 200 Rstrr, ri stra cI 200 Rstra, ri strp cI 200 Rstrp, ri stro cI 200 Rstro, ri strc cI 600 Rstrc, (tk, .inr (3, [.ref dtp, .int (zI tn_), .int (zI be2__2), .int (zI ki2__3), .int (zI at2__4), .long (lI nm2__5), .long (lI nu2__6)])), (gd, .inr (2, [.ref tk, .ref xr, .ref gs, .int (zI st2__7), .int (zI ri2__8), .int (zI tp2__9), .int (zI ts2__10)])), (xr, .inr (0, [.ref tk, .ref xg2_27, .int (zI xru2__11), .int (zI xta2__12), .int (zI xst2__13), .int (zI xtc2__14), .int (zI xop2__15), .ref gwt, .int (zI xwc2__16), .int (zI xoc2__17), .int (zI xic2__18)])), ri gwt cI 40 wt2__30, (tr, .inr (5, [.ref tk, .ref trgg, .ref trtt, .int (zI tr_state), .int (zI tr_here), .int (zI tr_depth), .ref trf])), ri trf cI 200 Rtrf, (wy, .inr (6, [.ref wpl, .ref wpr, .int (zI tl2__26), .ref wgr, .ref wgc, .ref wer, .ref wco, .ref gs, .ref whg, .ref wht, .ref wir, .ref wro, .ref wta, .ref wfi, .ref wsp])), ri wpl cI 12 pl2__48, ri wpr cZ 30 pr2__49, ri wgr cI 6144 gg2__50, ri wgc cI 12 gc2__51, ri wer cZ 30 er2__52, ri wco cZ 30 co2__53, ri whg cZ 6144 hg2__54, ri wht cZ 12 ht2__55, ri wir cZ 12 ir2__56, ri wro cI 24 ro2__57, ri wta cI 90 tn2__58, ri wfi cI 3 fi2__59, ri wsp cI 3 sp2__60, (wk, .inr (7, [.ref kno, .ref kor, .int (zI 0), .ref gs, .ref tg, .ref kst, .ref kwy, .ref kba, .ref keq, .ref kca, .int (zI wk_wayLength), .ref kva, .ref kbd, .int (zI wk_valueCount)])), ri kno cI 1200 no2__47, ri kor cI 1200 Rkor, ri kst cI 1200 ks2__46, ri kwy cI 1200 Rkwy, ri kba cI 1200 Rkba, ri keq cI 1200 Rkeq, ri kca cI 1200 Rkca, ri kva cI 40 Rkva, ri kbd cZ 40 Rkbd, (mo, .inr (9, [.ref mtp, .int (zI 0), .ref mtx, .int (zI len2__94), .ref mfo, .int (zI tn_), .int (zI 1), .int (zI at2__95), .int (zI tk2__96), .int (zI so2__97), .long (lI to2__98), .int (zI wr2__99), .int (zI wa2__100), .int (zI 0), .int (zI (-1)), .int (zI nes2__112), .int (zI sy2__117), .ref msn, .ref mac, .ref man, .ref mih, .int (zI rul2__116), .ref mrn, .ref mcc, .ref mrs, .ref mec, .ref mef, .ref meo, .ref mem, .int (zI ors2__110), .ref mor, .ref moo, .int (zI ocs2__111), .ref mop, .ref moa, .int (zI ock2__108), .int (zI oca2__109), .int (zI frm2__114), .ref mfr, .ref mff, .int (zI tks2__113), .int (zI mde2__115), .int (zI 0), .ref mnr, .ref mna, .ref mnp, .ref mno, .ref mnc, .int (zI mo_newNodes), .ref mwr, .ref mwa, .ref mwp, .ref mwo, .ref mwm, .ref mwc, .ref mcb, .ref mcm, .ref mia, .int (zI lg2__107), .ref mhg, .ref mgr, .ref mpl, .ref mrp, .ref mir, .ref mre, .ref mch, .int (zI 0), .ref mfs, .int (zI 0), .ref mwk, .ref miw, .ref mib, .ref mnu, .ref mig, .int (zI mo_waits), .ref mwf, .ref mwx, .int (zI mo_top), .ref mst, .ref msb])), ri mtp cB 3000 Rdtp, ri mtx cB 3000 tx2__118, ri mfo cB 3000 fo2__119, rl msn cJ 12 sn2__120, ri mac cI 12 ac2__121, rl man cJ 72 an2__122, ri mih cZ 72 ih2__123, rl mrn cJ 30 rn2__124, ri mcc cI 30 cc2__125, ri mrs cI 120 rs2__126, ri mec cI 30 qc2__128, ri mef cI 720 ef2__127, ri meo cI 720 eo2__129, ri mem cI 720 em2__130, ri mor cI 4000 or2__131, ri moo cI 4000 oo2__132, ri mop cI 3000 op2__133, ri moa cI 3000 oa2__134, ri mfr cI 120 fr2__135, ri mff cI 120 ff2__136, ri mnr cI 200 Rmnr, ri mna cI 200 Rmna, ri mnp cI 200 Rmnp, ri mno cI 200 Rmno, ri mnc cI 800 Rmnc, ri mwr cI 200 Rmwr, ri mwa cI 200 Rmwa, ri mwp cI 200 Rmwp, ri mwo cI 200 Rmwo, ri mwm cI 200 Rmwm, ri mwc cI 800 Rmwc, ri mcb cZ 12 cb2__145, ri mcm cZ 30 cm2__146, ri mia cZ 12 ia2__147, ri mhg cZ 6144 hg2__140, ri mgr cI 12 gc2__139, ri mpl cI 12 pl2__143, ri mrp cZ 30 rp2__144, ri mir cZ 30 ir2__141, ri mre cI 24 re2__137, ri mch cI 4 ch2__138, ri mfs cI 2100 fs2__142, ri mwk cI 1200 Rmwk, ri miw cZ 1200 Rmiw, ri mib cZ 1200 Rmib, ri mnu cI 1200 Rmnu, ri mig cZ 1200 Rmig, ri mwf cI 1200 Rmwf, ri mwx cI 1200 Rmwx, ri mst cI 60 Rmst, ri msb cZ 60 Rmsb]) [55, 57, 61, 62, 63, 64, 65, 66, 67, 68, 69, 70, 71, 72, 73, 74, 75, 76, 0, 1, 2, 3, 4, 5, 6, 7, 8, 9, 10, 11, 12, 13, 14, 15, 77, 16, 17, 18, 19, 20, 21, 22, 23, 24, 25, 26, 56, 58, 59, 60, 27, 28, 82, 83, 84, 85, 86, 87, 88, 89, 90, 91, 92, 93, 94, 95, 78, 81, 80, 79, 29, 30, 31, 32, 33, 34, 96, 98, 97, 99, 100, 101, 102, 103, 104, 105, 106, 108, 107, 109, 110, 111, 112, 113, 114, 115, 116, 35, 36, 37, 38, 39, 40, 41, 42, 43, 44, 45, 125, 126, 127, 120, 119, 123, 124, 121, 117, 118, 122, 46, 47, 48, 49, 50, 51, 52, 53, 54] rfl
      have hD := hD.sub (ws' := [(dk, .inr (8, [.ref dtp, .int (zI 0), .ref gs, .ref gr, .ref tg, .ref tsp, .ref tk, .ref gd, .ref tr, .ref wy, .ref wk, .int (zI 0), .int (zI (-1))])), ri dtp cB 3000 Rdtp, (gs, .inr (1, [.int (zI ssc2__19), .ref sgsn, .ref sgac, .ref sgic, .ref sgan, .ref sgih, .ref sgrk, .int (zI src2__20), .ref sgrn, .ref sgrs, .ref sgcc, .ref sgec, .ref sgcs, .ref sgce, .ref sghg, .ref sgop, .ref sgod, .int (zI scz2__21)])), rl sgsn cJ 12 ssn2__31, ri sgac cI 12 sac2__32, ri sgic cI 12 sic2__33, rl sgan cJ 72 san2__34, ri sgih cZ 72 sih2__35, ri sgrk cI 72 srk2__36, rl sgrn cJ 30 srn2__37, ri sgrs cI 120 srs2__38, ri sgcc cI 30 scc2__39, ri sgec cI 30 sec2__40, ri sgcs cI 720 scs2__41, ri sgce cI 720 sce2__42, ri sghg cI 720 shgs2__43, ri sgop cI 3000 sop2__44, ri sgod cI 3000 sod2__45, (gr, .inr (1, [.int (zI gr_symbolCount), .ref gsn, .ref gac, .ref gic, .ref gan, .ref gih, .ref grk, .int (zI gr_ruleCount), .ref grn, .ref grs, .ref gcc, .ref gec, .ref gcs, .ref gce, .ref ghg, .ref gop, .ref god, .int (zI gr_codeSize)])), rl gsn cJ 12 Rgsn, ri gac cI 12 Rgac, ri gic cI 12 Rgic, rl gan cJ 72 Rgan, ri gih cZ 72 Rgih, ri grk cI 72 Rgrk, rl grn cJ 30 Rgrn, ri grs cI 120 Rgrs, ri gcc cI 30 Rgcc, ri gec cI 30 Rgec, ri gcs cI 720 Rgcs, ri gce cI 720 Rgce, ri ghg cI 720 Rghg, ri gop cI 3000 Rgop, ri god cI 3000 Rgod, (tg, .inr (4, [.int (zI 0), .ref trr, .ref tra, .ref trp, .ref tro, .ref trc])), ri trr cI 200 Rtrr, ri tra cI 200 Rtra, ri trp cI 200 Rtrp, ri tro cI 200 Rtro, ri trc cI 600 Rtrc, (tsp, .inr (4, [.int (zI tsp_size), .ref strr, .ref stra, .ref strp, .ref stro, .ref strc])), ri strr cI 200 Rstrr, ri stra cI 200 Rstra, ri strp cI 200 Rstrp, ri stro cI 200 Rstro, ri strc cI 600 Rstrc, (tk, .inr (3, [.ref dtp, .int (zI tn_), .int (zI be2__2), .int (zI ki2__3), .int (zI at2__4), .long (lI nm2__5), .long (lI nu2__6)])), (gd, .inr (2, [.ref tk, .ref xr, .ref gs, .int (zI st2__7), .int (zI ri2__8), .int (zI tp2__9), .int (zI ts2__10)])), (xr, .inr (0, [.ref tk, .ref xg2_27, .int (zI xru2__11), .int (zI xta2__12), .int (zI xst2__13), .int (zI xtc2__14), .int (zI xop2__15), .ref gwt, .int (zI xwc2__16), .int (zI xoc2__17), .int (zI xic2__18)])), ri gwt cI 40 wt2__30, (tr, .inr (5, [.ref tk, .ref trgg, .ref trtt, .int (zI tr_state), .int (zI tr_here), .int (zI tr_depth), .ref trf])), ri trf cI 200 Rtrf, (wy, .inr (6, [.ref wpl, .ref wpr, .int (zI tl2__26), .ref wgr, .ref wgc, .ref wer, .ref wco, .ref gs, .ref whg, .ref wht, .ref wir, .ref wro, .ref wta, .ref wfi, .ref wsp])), ri wpl cI 12 pl2__48, ri wpr cZ 30 pr2__49, ri wgr cI 6144 gg2__50, ri wgc cI 12 gc2__51, ri wer cZ 30 er2__52, ri wco cZ 30 co2__53, ri whg cZ 6144 hg2__54, ri wht cZ 12 ht2__55, ri wir cZ 12 ir2__56, ri wro cI 24 ro2__57, ri wta cI 90 tn2__58, ri wfi cI 3 fi2__59, ri wsp cI 3 sp2__60, (wk, .inr (7, [.ref kno, .ref kor, .int (zI 0), .ref gs, .ref tg, .ref kst, .ref kwy, .ref kba, .ref keq, .ref kca, .int (zI wk_wayLength), .ref kva, .ref kbd, .int (zI wk_valueCount)])), ri kno cI 1200 no2__47, ri kor cI 1200 Rkor, ri kst cI 1200 ks2__46, ri kwy cI 1200 Rkwy, ri kba cI 1200 Rkba, ri keq cI 1200 Rkeq, ri kca cI 1200 Rkca, ri kva cI 40 Rkva, ri kbd cZ 40 Rkbd, (mo, .inr (9, [.ref mtp, .int (zI 0), .ref mtx, .int (zI len2__94), .ref mfo, .int (zI tn_), .int (zI 1), .int (zI at2__95), .int (zI tk2__96), .int (zI so2__97), .long (lI to2__98), .int (zI wr2__99), .int (zI wa2__100), .int (zI 0), .int (zI (-1)), .int (zI nes2__112), .int (zI sy2__117), .ref msn, .ref mac, .ref man, .ref mih, .int (zI rul2__116), .ref mrn, .ref mcc, .ref mrs, .ref mec, .ref mef, .ref meo, .ref mem, .int (zI ors2__110), .ref mor, .ref moo, .int (zI ocs2__111), .ref mop, .ref moa, .int (zI ock2__108), .int (zI oca2__109), .int (zI frm2__114), .ref mfr, .ref mff, .int (zI tks2__113), .int (zI mde2__115), .int (zI 0), .ref mnr, .ref mna, .ref mnp, .ref mno, .ref mnc, .int (zI mo_newNodes), .ref mwr, .ref mwa, .ref mwp, .ref mwo, .ref mwm, .ref mwc, .ref mcb, .ref mcm, .ref mia, .int (zI lg2__107), .ref mhg, .ref mgr, .ref mpl, .ref mrp, .ref mir, .ref mre, .ref mch, .int (zI 0), .ref mfs, .int (zI 0), .ref mwk, .ref miw, .ref mib, .ref mnu, .ref mig, .int (zI mo_waits), .ref mwf, .ref mwx, .int (zI mo_top), .ref mst, .ref msb])), ri mtp cB 3000 Rdtp, ri mtx cB 3000 tx2__118, ri mfo cB 3000 fo2__119, rl msn cJ 12 sn2__120, ri mac cI 12 ac2__121, rl man cJ 72 an2__122, ri mih cZ 72 ih2__123, rl mrn cJ 30 rn2__124, ri mcc cI 30 cc2__125, ri mrs cI 120 rs2__126, ri mec cI 30 qc2__128, ri mef cI 720 ef2__127, ri meo cI 720 eo2__129, ri mem cI 720 em2__130, ri mor cI 4000 or2__131, ri moo cI 4000 oo2__132, ri mop cI 3000 op2__133, ri moa cI 3000 oa2__134, ri mfr cI 120 fr2__135, ri mff cI 120 ff2__136, ri mnr cI 200 Rmnr, ri mna cI 200 Rmna, ri mnp cI 200 Rmnp, ri mno cI 200 Rmno, ri mnc cI 800 Rmnc, ri mwr cI 200 Rmwr, ri mwa cI 200 Rmwa, ri mwp cI 200 Rmwp, ri mwo cI 200 Rmwo, ri mwm cI 200 Rmwm, ri mwc cI 800 Rmwc, ri mcb cZ 12 cb2__145, ri mcm cZ 30 cm2__146, ri mia cZ 12 ia2__147, ri mhg cZ 6144 hg2__140, ri mgr cI 12 gc2__139, ri mpl cI 12 pl2__143, ri mrp cZ 30 rp2__144, ri mir cZ 30 ir2__141, ri mre cI 24 re2__137, ri mch cI 4 ch2__138, ri mfs cI 2100 fs2__142, ri mwk cI 1200 Rmwk, ri miw cZ 1200 Rmiw, ri mib cZ 1200 Rmib, ri mnu cI 1200 Rmnu, ri mig cZ 1200 Rmig, ri mwf cI 1200 Rmwf, ri mwx cI 1200 Rmwx, ri mst cI 60 Rmst, ri msb cZ 60 Rmsb]) [55, 57, 61, 62, 63, 64, 65, 66, 67, 68, 69, 70, 71, 72, 73, 74, 75, 76, 0, 1, 2, 3, 4, 5, 6, 7, 8, 9, 10, 11, 12, 13, 14, 15, 77, 16, 17, 18, 19, 20, 21, 22, 23, 24, 25, 26, 56, 58, 59, 60, 27, 28, 82, 83, 84, 85, 86, 87, 88, 89, 90, 91, 92, 93, 94, 95, 78, 81, 80, 79, 29, 30, 31, 32, 33, 34, 96, 98, 97, 99, 100, 101, 102, 103, 104, 105, 106, 108, 107, 109, 110, 111, 112, 113, 114, 115, 116, 35, 36, 37, 38, 39, 40, 41, 42, 43, 44, 45, 125, 126, 127, 120, 119, 123, 124, 121, 117, 118, 122, 46, 47, 48, 49, 50, 51, 52, 53, 54] (by decide +kernel) rfl
      exact hnx dk dtp gs sgsn sgac sgic sgan sgih sgrk sgrn sgrs sgcc sgec sgcs sgce sghg sgop sgod gr gsn gac gic gan gih grk grn grs gcc gec gcs gce ghg gop god tg trr tra trp tro trc tsp strr stra strp stro strc tk gd xr gwt tr trf wy wpl wpr wgr wgc wer wco whg wht wir wro wta wfi wsp wk kno kor kst kwy kba keq kca kva kbd mo mtp mtx mfo msn mac man mih mrn mcc mrs mec mef meo mem mor moo mop moa mfr mff mnr mna mnp mno mnc mwr mwa mwp mwo mwm mwc mcb mcm mia mhg mgr mpl mrp mir mre mch mfs mwk miw mib mnu mig mwf mwx mst msb gs xg2_27 trgg trtt 0 0 (-1) ssc2__19 src2__20 scz2__21 gr_symbolCount gr_ruleCount gr_codeSize 0 tsp_size tn_ be2__2 ki2__3 at2__4 nm2__5 nu2__6 st2__7 ri2__8 tp2__9 ts2__10 xru2__11 xta2__12 xst2__13 xtc2__14 xop2__15 xwc2__16 xoc2__17 xic2__18 tr_state tr_here tr_depth tl2__26 0 wk_wayLength wk_valueCount len2__94 tn_ 1 at2__95 tk2__96 so2__97 to2__98 wr2__99 wa2__100 0 (-1) nes2__112 sy2__117 rul2__116 ors2__110 ocs2__111 ock2__108 oca2__109 frm2__114 tks2__113 mde2__115 0 mo_newNodes lg2__107 0 mo_waits mo_top Rdtp ssn2__31 sac2__32 sic2__33 san2__34 sih2__35 srk2__36 srn2__37 srs2__38 scc2__39 sec2__40 scs2__41 sce2__42 shgs2__43 sop2__44 sod2__45 Rgsn Rgac Rgic Rgan Rgih Rgrk Rgrn Rgrs Rgcc Rgec Rgcs Rgce Rghg Rgop Rgod Rtrr Rtra Rtrp Rtro Rtrc Rstrr Rstra Rstrp Rstro Rstrc wt2__30 Rtrf pl2__48 pr2__49 gg2__50 gc2__51 er2__52 co2__53 hg2__54 ht2__55 ir2__56 ro2__57 tn2__58 fi2__59 sp2__60 no2__47 Rkor ks2__46 Rkwy Rkba Rkeq Rkca Rkva Rkbd tx2__118 fo2__119 sn2__120 ac2__121 an2__122 ih2__123 rn2__124 cc2__125 rs2__126 qc2__128 ef2__127 eo2__129 em2__130 or2__131 oo2__132 op2__133 oa2__134 fr2__135 ff2__136 Rmnr Rmna Rmnp Rmno Rmnc Rmwr Rmwa Rmwp Rmwo Rmwm Rmwc cb2__145 cm2__146 ia2__147 hg2__140 gc2__139 pl2__143 rp2__144 ir2__141 re2__137 ch2__138 fs2__142 Rmwk Rmiw Rmib Rmnu Rmig Rmwf Rmwx Rmst Rmsb (by omega) p8_69 p9_70 p4_65 p15_76 (by omega) f_vc f_wl (by omega) f_tss p3_64 f_tbk p5_66 f_pkk p6_67 p14_75 f_btp p10_71 p12_73 p11_72 p13_74 f_btrr f_btra f_btrp f_btro f_btrc f_bstrr f_bstra f_bstrp f_bstro f_bstrc f_btrf p18_79 p19_80 p20_81 p21_82 p22_83 p23_84 p24_85 p25_86 p26_87 p27_88 p28_89 p29_90 p30_91 p17_78 f_bkor p16_77 f_bkwy f_bkba f_bkeq f_bkca f_bkva f_bkbd p9_157 p10_158 p11_159 p12_160 p13_161 p14_162 p15_163 p16_164 p17_165 p19_167 p18_166 p20_168 p21_169 p22_170 p23_171 p24_172 p25_173 p26_174 p27_175 f_bmnr f_bmna f_bmnp f_bmno f_bmnc f_bmwr f_bmwa f_bmwp f_bmwo f_bmwm f_bmwc p36_184 p37_185 p38_186 p31_179 p30_178 p34_182 p35_183 p32_180 p28_176 p29_177 p33_181 f_bmwk f_bmiw f_bmib f_bmnu f_bmig f_bmwf f_bmwx f_bmst f_bmsb (Or.inr rfl) f_tn p7_155 p5_153 p4_152 (by omega) (by omega) p6_154 p1_149 p2_150 tri_0 (fun z => absurd z (by decide)) f_kig (fun z => absurd z (by decide)) (Or.inr ⟨rfl, hsrc⟩) ⟨_, fun _ => ⟨(ini_mk _ _ _ _ _ _ _ _ _ _ _ _ _ _ _ _ _), hkf9.1, hkf9.2.1, kfin_cg htq9 hkf9.2.2⟩⟩ rfl (fun k hk => absurd hk (by omega)) (by omega) _ _ hP hD hS _ (lv_sub hl [0, 1, 2, 3] rfl)
    · exact absurd (res_det hres (hrf9 (fun _ _ => 0))).1.symm hfa9
  · obtain rfl := hu92a.symm
    obtain rfl := hu92b.symm
    obtain rfl := hu92c.symm
    obtain rfl := hu92d.symm
    obtain rfl := hu92e.symm
    rw [ht] at hP1
    have hK1 := va_K.moved hvm.symm hK1
    obtain ⟨hP, hD⟩ := va_join (wr := [(gr, .inr (1, [.int (zI gr_symbolCount), .ref gsn, .ref gac, .ref gic, .ref gan, .ref gih, .ref grk, .int (zI gr_ruleCount), .ref grn, .ref grs, .ref gcc, .ref gec, .ref gcs, .ref gce, .ref ghg, .ref gop, .ref god, .int (zI gr_codeSize)])), rl gsn cJ 12 Rgsn, ri gac cI 12 Rgac, ri gic cI 12 Rgic, rl gan cJ 72 Rgan, ri gih cZ 72 Rgih, ri grk cI 72 Rgrk, rl grn cJ 30 Rgrn, ri grs cI 120 Rgrs, ri gcc cI 30 Rgcc, ri gec cI 30 Rgec, ri gcs cI 720 Rgcs, ri gce cI 720 Rgce, ri ghg cI 720 Rghg, ri gop cI 3000 Rgop, ri god cI 3000 Rgod, ri trr cI 200 Rtrr, ri tra cI 200 Rtra, ri trp cI 200 Rtrp, ri tro cI 200 Rtro, ri trc cI 600 Rtrc, (tsp, .inr (4, [.int (zI tsp_size), .ref strr, .ref stra, .ref strp, .ref stro, .ref strc])), ri strr cI 200 Rstrr, ri stra cI 200 Rstra, ri strp cI 200 Rstrp, ri stro cI 200 Rstro, ri strc cI 600 Rstrc, (tr, .inr (5, [.ref tk, .ref trgg, .ref trtt, .int (zI tr_state), .int (zI tr_here), .int (zI tr_depth), .ref trf])), ri trf cI 200 Rtrf, ri kwy cI 1200 Rkwy, ri kba cI 1200 Rkba, ri keq cI 1200 Rkeq, ri kca cI 1200 Rkca, ri kva cI 40 Rkva, ri kbd cZ 40 Rkbd, (mo, .inr (9, [.ref mtp, .int (zI tn_), .ref mtx, .int (zI mo_length), .ref mfo, .int (zI mo_formerLength), .int (zI mo_hasGrammar), .int (zI mo_at), .int (zI mo_token), .int (zI mo_sort), .long (lI mo_told), .int (zI mo_wrong), .int (zI mo_wrongAt), .int (zI mo_fault), .int (zI mo_faultAt), .int (zI mo_nest), .int (zI mo_symbols), .ref msn, .ref mac, .ref man, .ref mih, .int (zI mo_rules), .ref mrn, .ref mcc, .ref mrs, .ref mec, .ref mef, .ref meo, .ref mem, .int (zI mo_orders), .ref mor, .ref moo, .int (zI mo_occs), .ref mop, .ref moa, .int (zI mo_occurK), .int (zI mo_occurA), .int (zI mo_frames), .ref mfr, .ref mff, .int (zI mo_tokens), .int (zI mo_mode), .int (zI mo_nodes), .ref mnr, .ref mna, .ref mnp, .ref mno, .ref mnc, .int (zI mo_newNodes), .ref mwr, .ref mwa, .ref mwp, .ref mwo, .ref mwm, .ref mwc, .ref mcb, .ref mcm, .ref mia, .int (zI mo_isLarge), .ref mhg, .ref mgr, .ref mpl, .ref mrp, .ref mir, .ref mre, .ref mch, .int (zI 0), .ref mfs, .int (zI mo_worked), .ref mwk, .ref miw, .ref mib, .ref mnu, .ref mig, .int (zI mo_waits), .ref mwf, .ref mwx, .int (zI mo_top), .ref mst, .ref msb])), ri mtp cB 3000 Rdtp, ri mtx cB 3000 Rmtx, ri mfo cB 3000 Rmfo, rl msn cJ 12 Rmsn, ri mac cI 12 Rmac, rl man cJ 72 Rman, ri mih cZ 72 Rmih, rl mrn cJ 30 Rmrn, ri mcc cI 30 Rmcc, ri mrs cI 120 Rmrs, ri mec cI 30 Rmec, ri mef cI 720 Rmef, ri meo cI 720 Rmeo, ri mem cI 720 Rmem, ri mor cI 4000 Rmor, ri moo cI 4000 Rmoo, ri mop cI 3000 Rmop, ri moa cI 3000 Rmoa, ri mfr cI 120 Rmfr, ri mff cI 120 Rmff, ri mnr cI 200 Rmnr, ri mna cI 200 Rmna, ri mnp cI 200 Rmnp, ri mno cI 200 Rmno, ri mnc cI 800 Rmnc, ri mwr cI 200 Rmwr, ri mwa cI 200 Rmwa, ri mwp cI 200 Rmwp, ri mwo cI 200 Rmwo, ri mwm cI 200 Rmwm, ri mwc cI 800 Rmwc, ri mcb cZ 12 Rmcb, ri mcm cZ 30 Rmcm, ri mia cZ 12 Rmia, ri mhg cZ 6144 Rmhg, ri mgr cI 12 Rmgr, ri mpl cI 12 Rmpl, ri mrp cZ 30 Rmrp, ri mir cZ 30 Rmir, ri mre cI 24 Rmre, ri mch cI 4 Rmch, ri mfs cI 2100 Rmfs, ri mwk cI 1200 Rmwk, ri miw cZ 1200 Rmiw, ri mib cZ 1200 Rmib, ri mnu cI 1200 Rmnu, ri mig cZ 1200 Rmig, ri mwf cI 1200 Rmwf, ri mwx cI 1200 Rmwx, ri mst cI 60 Rmst, ri msb cZ 60 Rmsb]) (w1 := [(dk, .inr (8, [.ref dtp, .int (zI 0), .ref gr, .ref gs, .ref tg, .ref tsp, .ref tk, .ref gd, .ref tr, .ref wy, .ref wk, .int (zI lf2__22), .int (zI at2__4)])), (tk, .inr (3, [.ref dtp, .int (zI tn_), .int (zI be2__2), .int (zI ki2__3), .int (zI at2__4), .long (lI nm2__5), .long (lI nu2__6)])), ri dtp cB 3000 Rdtp, (gd, .inr (2, [.ref tk, .ref xr, .ref gs, .int (zI st2__7), .int (zI ri2__8), .int (zI tp2__9), .int (zI ts2__10)])), (xr, .inr (0, [.ref tk, .ref xg2_27, .int (zI xru2__11), .int (zI xta2__12), .int (zI xst2__13), .int (zI xtc2__14), .int (zI xop2__15), .ref gwt, .int (zI xwc2__16), .int (zI xoc2__17), .int (zI xic2__18)])), ri gwt cI 40 wt2__30, (gs, .inr (1, [.int (zI ssc2__19), .ref sgsn, .ref sgac, .ref sgic, .ref sgan, .ref sgih, .ref sgrk, .int (zI src2__20), .ref sgrn, .ref sgrs, .ref sgcc, .ref sgec, .ref sgcs, .ref sgce, .ref sghg, .ref sgop, .ref sgod, .int (zI scz2__21)])), rl sgsn cJ 12 ssn2__31, ri sgac cI 12 sac2__32, ri sgic cI 12 sic2__33, rl sgan cJ 72 san2__34, ri sgih cZ 72 sih2__35, ri sgrk cI 72 srk2__36, rl sgrn cJ 30 srn2__37, ri sgrs cI 120 srs2__38, ri sgcc cI 30 scc2__39, ri sgec cI 30 sec2__40, ri sgcs cI 720 scs2__41, ri sgce cI 720 sce2__42, ri sghg cI 720 shgs2__43, ri sgop cI 3000 sop2__44, ri sgod cI 3000 sod2__45, (tg, .inr (4, [.int (zI tg_size), .ref trr, .ref tra, .ref trp, .ref tro, .ref trc])), (wk, .inr (7, [.ref kno, .ref kor, .int (zI wk_orderSize), .ref gr, .ref tg, .ref kst, .ref kwy, .ref kba, .ref keq, .ref kca, .int (zI wk_wayLength), .ref kva, .ref kbd, .int (zI wk_valueCount)])), ri kst cI 1200 ks2__46, ri kor cI 1200 Rkor, ri kno cI 1200 no2__47, (wy, .inr (6, [.ref wpl, .ref wpr, .int (zI tl2__26), .ref wgr, .ref wgc, .ref wer, .ref wco, .ref gr, .ref whg, .ref wht, .ref wir, .ref wro, .ref wta, .ref wfi, .ref wsp])), ri wpl cI 12 pl2__48, ri wpr cZ 30 pr2__49, ri wgr cI 6144 gg2__50, ri wgc cI 12 gc2__51, ri wer cZ 30 er2__52, ri wco cZ 30 co2__53, ri whg cZ 6144 hg2__54, ri wht cZ 12 ht2__55, ri wir cZ 12 ir2__56, ri wro cI 24 ro2__57, ri wta cI 90 tn2__58, ri wfi cI 3 fi2__59, ri wsp cI 3 sp2__60]) hP hD [0, 46, 1, 47, 48, 49, 18, 19, 20, 21, 22, 23, 24, 25, 26, 27, 28, 29, 30, 31, 32, 33, 34, 66, 69, 68, 67, 52, 53, 54, 55, 56, 57, 58, 59, 60, 61, 62, 63, 64, 65] [2, 3, 4, 5, 6, 7, 8, 9, 10, 11, 12, 13, 14, 15, 16, 17, 35, 36, 37, 38, 39, 40, 41, 42, 43, 44, 45, 50, 51, 70, 71, 72, 73, 74, 75, 76, 77, 78, 79, 80, 81, 82, 83, 84, 85, 86, 87, 88, 89, 90, 91, 92, 93, 94, 95, 96, 97, 98, 99, 100, 101, 102, 103, 104, 105, 106, 107, 108, 109, 110, 111, 112, 113, 114, 115, 116, 117, 118, 119, 120, 121, 122, 123, 124, 125, 126, 127] rfl rfl (by decide +kernel) (by decide +kernel) hk1 hFc hP1 hD1
    have hK := (hK.sub (tys' := []) [] rfl).app hK1
    generalize H1 = H at hP hS ⊢
    clear hP1 hD1 hK1 hz1 hk1 hFc hPc hDc hKc hvm ht
    have hP : va_P (dC, dI) vwCl [(gr, .inr (1, [.int (zI gr_symbolCount), .ref gsn, .ref gac, .ref gic, .ref gan, .ref gih, .ref grk, .int (zI gr_ruleCount), .ref grn, .ref grs, .ref gcc, .ref gec, .ref gcs, .ref gce, .ref ghg, .ref gop, .ref god, .int (zI gr_codeSize)])), rl gsn cJ 12 Rgsn, ri gac cI 12 Rgac, ri gic cI 12 Rgic, rl gan cJ 72 Rgan, ri gih cZ 72 Rgih, ri grk cI 72 Rgrk, rl grn cJ 30 Rgrn, ri grs cI 120 Rgrs, ri gcc cI 30 Rgcc, ri gec cI 30 Rgec, ri gcs cI 720 Rgcs, ri gce cI 720 Rgce, ri ghg cI 720 Rghg, ri gop cI 3000 Rgop, ri god cI 3000 Rgod, ri trr cI 200 Rtrr, ri tra cI 200 Rtra, ri trp cI 200 Rtrp, ri tro cI 200 Rtro, ri trc cI 600 Rtrc, (tsp, .inr (4, [.int (zI tsp_size), .ref strr, .ref stra, .ref strp, .ref stro, .ref strc])), ri strr cI 200 Rstrr, ri stra cI 200 Rstra, ri strp cI 200 Rstrp, ri stro cI 200 Rstro, ri strc cI 600 Rstrc, (tr, .inr (5, [.ref tk, .ref trgg, .ref trtt, .int (zI tr_state), .int (zI tr_here), .int (zI tr_depth), .ref trf])), ri trf cI 200 Rtrf, ri kwy cI 1200 Rkwy, ri kba cI 1200 Rkba, ri keq cI 1200 Rkeq, ri kca cI 1200 Rkca, ri kva cI 40 Rkva, ri kbd cZ 40 Rkbd, (mo, .inr (9, [.ref mtp, .int (zI tn_), .ref mtx, .int (zI mo_length), .ref mfo, .int (zI mo_formerLength), .int (zI mo_hasGrammar), .int (zI mo_at), .int (zI mo_token), .int (zI mo_sort), .long (lI mo_told), .int (zI mo_wrong), .int (zI mo_wrongAt), .int (zI mo_fault), .int (zI mo_faultAt), .int (zI mo_nest), .int (zI mo_symbols), .ref msn, .ref mac, .ref man, .ref mih, .int (zI mo_rules), .ref mrn, .ref mcc, .ref mrs, .ref mec, .ref mef, .ref meo, .ref mem, .int (zI mo_orders), .ref mor, .ref moo, .int (zI mo_occs), .ref mop, .ref moa, .int (zI mo_occurK), .int (zI mo_occurA), .int (zI mo_frames), .ref mfr, .ref mff, .int (zI mo_tokens), .int (zI mo_mode), .int (zI mo_nodes), .ref mnr, .ref mna, .ref mnp, .ref mno, .ref mnc, .int (zI mo_newNodes), .ref mwr, .ref mwa, .ref mwp, .ref mwo, .ref mwm, .ref mwc, .ref mcb, .ref mcm, .ref mia, .int (zI mo_isLarge), .ref mhg, .ref mgr, .ref mpl, .ref mrp, .ref mir, .ref mre, .ref mch, .int (zI 0), .ref mfs, .int (zI mo_worked), .ref mwk, .ref miw, .ref mib, .ref mnu, .ref mig, .int (zI mo_waits), .ref mwf, .ref mwx, .int (zI mo_top), .ref mst, .ref msb])), ri mtp cB 3000 Rdtp, ri mtx cB 3000 Rmtx, ri mfo cB 3000 Rmfo, rl msn cJ 12 Rmsn, ri mac cI 12 Rmac, rl man cJ 72 Rman, ri mih cZ 72 Rmih, rl mrn cJ 30 Rmrn, ri mcc cI 30 Rmcc, ri mrs cI 120 Rmrs, ri mec cI 30 Rmec, ri mef cI 720 Rmef, ri meo cI 720 Rmeo, ri mem cI 720 Rmem, ri mor cI 4000 Rmor, ri moo cI 4000 Rmoo, ri mop cI 3000 Rmop, ri moa cI 3000 Rmoa, ri mfr cI 120 Rmfr, ri mff cI 120 Rmff, ri mnr cI 200 Rmnr, ri mna cI 200 Rmna, ri mnp cI 200 Rmnp, ri mno cI 200 Rmno, ri mnc cI 800 Rmnc, ri mwr cI 200 Rmwr, ri mwa cI 200 Rmwa, ri mwp cI 200 Rmwp, ri mwo cI 200 Rmwo, ri mwm cI 200 Rmwm, ri mwc cI 800 Rmwc, ri mcb cZ 12 Rmcb, ri mcm cZ 30 Rmcm, ri mia cZ 12 Rmia, ri mhg cZ 6144 Rmhg, ri mgr cI 12 Rmgr, ri mpl cI 12 Rmpl, ri mrp cZ 30 Rmrp, ri mir cZ 30 Rmir, ri mre cI 24 Rmre, ri mch cI 4 Rmch, ri mfs cI 2100 Rmfs, ri mwk cI 1200 Rmwk, ri miw cZ 1200 Rmiw, ri mib cZ 1200 Rmib, ri mnu cI 1200 Rmnu, ri mig cZ 1200 Rmig, ri mwf cI 1200 Rmwf, ri mwx cI 1200 Rmwx, ri mst cI 60 Rmst, ri msb cZ 60 Rmsb, (dk, .inr (8, [.ref dtp, .int (zI 0), .ref gr, .ref gs, .ref tg, .ref tsp, .ref tk, .ref gd, .ref tr, .ref wy, .ref wk, .int (zI lf2__22), .int (zI at2__4)])), (tk, .inr (3, [.ref dtp, .int (zI tn_), .int (zI be2__2), .int (zI ki2__3), .int (zI at2__4), .long (lI nm2__5), .long (lI nu2__6)])), ri dtp cB 3000 Rdtp, (gd, .inr (2, [.ref tk, .ref xr, .ref gs, .int (zI st2__7), .int (zI ri2__8), .int (zI tp2__9), .int (zI ts2__10)])), (xr, .inr (0, [.ref tk, .ref xg2_27, .int (zI xru2__11), .int (zI xta2__12), .int (zI xst2__13), .int (zI xtc2__14), .int (zI xop2__15), .ref gwt, .int (zI xwc2__16), .int (zI xoc2__17), .int (zI xic2__18)])), ri gwt cI 40 wt2__30, (gs, .inr (1, [.int (zI ssc2__19), .ref sgsn, .ref sgac, .ref sgic, .ref sgan, .ref sgih, .ref sgrk, .int (zI src2__20), .ref sgrn, .ref sgrs, .ref sgcc, .ref sgec, .ref sgcs, .ref sgce, .ref sghg, .ref sgop, .ref sgod, .int (zI scz2__21)])), rl sgsn cJ 12 ssn2__31, ri sgac cI 12 sac2__32, ri sgic cI 12 sic2__33, rl sgan cJ 72 san2__34, ri sgih cZ 72 sih2__35, ri sgrk cI 72 srk2__36, rl sgrn cJ 30 srn2__37, ri sgrs cI 120 srs2__38, ri sgcc cI 30 scc2__39, ri sgec cI 30 sec2__40, ri sgcs cI 720 scs2__41, ri sgce cI 720 sce2__42, ri sghg cI 720 shgs2__43, ri sgop cI 3000 sop2__44, ri sgod cI 3000 sod2__45, (tg, .inr (4, [.int (zI tg_size), .ref trr, .ref tra, .ref trp, .ref tro, .ref trc])), (wk, .inr (7, [.ref kno, .ref kor, .int (zI wk_orderSize), .ref gr, .ref tg, .ref kst, .ref kwy, .ref kba, .ref keq, .ref kca, .int (zI wk_wayLength), .ref kva, .ref kbd, .int (zI wk_valueCount)])), ri kst cI 1200 ks2__46, ri kor cI 1200 Rkor, ri kno cI 1200 no2__47, (wy, .inr (6, [.ref wpl, .ref wpr, .int (zI tl2__26), .ref wgr, .ref wgc, .ref wer, .ref wco, .ref gr, .ref whg, .ref wht, .ref wir, .ref wro, .ref wta, .ref wfi, .ref wsp])), ri wpl cI 12 pl2__48, ri wpr cZ 30 pr2__49, ri wgr cI 6144 gg2__50, ri wgc cI 12 gc2__51, ri wer cZ 30 er2__52, ri wco cZ 30 co2__53, ri whg cZ 6144 hg2__54, ri wht cZ 12 ht2__55, ri wir cZ 12 ir2__56, ri wro cI 24 ro2__57, ri wta cI 90 tn2__58, ri wfi cI 3 fi2__59, ri wsp cI 3 sp2__60] H := hP
    have hD : va_D (fun q : Nat => s.heap.size ≤ q) [(gr, .inr (1, [.int (zI gr_symbolCount), .ref gsn, .ref gac, .ref gic, .ref gan, .ref gih, .ref grk, .int (zI gr_ruleCount), .ref grn, .ref grs, .ref gcc, .ref gec, .ref gcs, .ref gce, .ref ghg, .ref gop, .ref god, .int (zI gr_codeSize)])), rl gsn cJ 12 Rgsn, ri gac cI 12 Rgac, ri gic cI 12 Rgic, rl gan cJ 72 Rgan, ri gih cZ 72 Rgih, ri grk cI 72 Rgrk, rl grn cJ 30 Rgrn, ri grs cI 120 Rgrs, ri gcc cI 30 Rgcc, ri gec cI 30 Rgec, ri gcs cI 720 Rgcs, ri gce cI 720 Rgce, ri ghg cI 720 Rghg, ri gop cI 3000 Rgop, ri god cI 3000 Rgod, ri trr cI 200 Rtrr, ri tra cI 200 Rtra, ri trp cI 200 Rtrp, ri tro cI 200 Rtro, ri trc cI 600 Rtrc, (tsp, .inr (4, [.int (zI tsp_size), .ref strr, .ref stra, .ref strp, .ref stro, .ref strc])), ri strr cI 200 Rstrr, ri stra cI 200 Rstra, ri strp cI 200 Rstrp, ri stro cI 200 Rstro, ri strc cI 600 Rstrc, (tr, .inr (5, [.ref tk, .ref trgg, .ref trtt, .int (zI tr_state), .int (zI tr_here), .int (zI tr_depth), .ref trf])), ri trf cI 200 Rtrf, ri kwy cI 1200 Rkwy, ri kba cI 1200 Rkba, ri keq cI 1200 Rkeq, ri kca cI 1200 Rkca, ri kva cI 40 Rkva, ri kbd cZ 40 Rkbd, (mo, .inr (9, [.ref mtp, .int (zI tn_), .ref mtx, .int (zI mo_length), .ref mfo, .int (zI mo_formerLength), .int (zI mo_hasGrammar), .int (zI mo_at), .int (zI mo_token), .int (zI mo_sort), .long (lI mo_told), .int (zI mo_wrong), .int (zI mo_wrongAt), .int (zI mo_fault), .int (zI mo_faultAt), .int (zI mo_nest), .int (zI mo_symbols), .ref msn, .ref mac, .ref man, .ref mih, .int (zI mo_rules), .ref mrn, .ref mcc, .ref mrs, .ref mec, .ref mef, .ref meo, .ref mem, .int (zI mo_orders), .ref mor, .ref moo, .int (zI mo_occs), .ref mop, .ref moa, .int (zI mo_occurK), .int (zI mo_occurA), .int (zI mo_frames), .ref mfr, .ref mff, .int (zI mo_tokens), .int (zI mo_mode), .int (zI mo_nodes), .ref mnr, .ref mna, .ref mnp, .ref mno, .ref mnc, .int (zI mo_newNodes), .ref mwr, .ref mwa, .ref mwp, .ref mwo, .ref mwm, .ref mwc, .ref mcb, .ref mcm, .ref mia, .int (zI mo_isLarge), .ref mhg, .ref mgr, .ref mpl, .ref mrp, .ref mir, .ref mre, .ref mch, .int (zI 0), .ref mfs, .int (zI mo_worked), .ref mwk, .ref miw, .ref mib, .ref mnu, .ref mig, .int (zI mo_waits), .ref mwf, .ref mwx, .int (zI mo_top), .ref mst, .ref msb])), ri mtp cB 3000 Rdtp, ri mtx cB 3000 Rmtx, ri mfo cB 3000 Rmfo, rl msn cJ 12 Rmsn, ri mac cI 12 Rmac, rl man cJ 72 Rman, ri mih cZ 72 Rmih, rl mrn cJ 30 Rmrn, ri mcc cI 30 Rmcc, ri mrs cI 120 Rmrs, ri mec cI 30 Rmec, ri mef cI 720 Rmef, ri meo cI 720 Rmeo, ri mem cI 720 Rmem, ri mor cI 4000 Rmor, ri moo cI 4000 Rmoo, ri mop cI 3000 Rmop, ri moa cI 3000 Rmoa, ri mfr cI 120 Rmfr, ri mff cI 120 Rmff, ri mnr cI 200 Rmnr, ri mna cI 200 Rmna, ri mnp cI 200 Rmnp, ri mno cI 200 Rmno, ri mnc cI 800 Rmnc, ri mwr cI 200 Rmwr, ri mwa cI 200 Rmwa, ri mwp cI 200 Rmwp, ri mwo cI 200 Rmwo, ri mwm cI 200 Rmwm, ri mwc cI 800 Rmwc, ri mcb cZ 12 Rmcb, ri mcm cZ 30 Rmcm, ri mia cZ 12 Rmia, ri mhg cZ 6144 Rmhg, ri mgr cI 12 Rmgr, ri mpl cI 12 Rmpl, ri mrp cZ 30 Rmrp, ri mir cZ 30 Rmir, ri mre cI 24 Rmre, ri mch cI 4 Rmch, ri mfs cI 2100 Rmfs, ri mwk cI 1200 Rmwk, ri miw cZ 1200 Rmiw, ri mib cZ 1200 Rmib, ri mnu cI 1200 Rmnu, ri mig cZ 1200 Rmig, ri mwf cI 1200 Rmwf, ri mwx cI 1200 Rmwx, ri mst cI 60 Rmst, ri msb cZ 60 Rmsb, (dk, .inr (8, [.ref dtp, .int (zI 0), .ref gr, .ref gs, .ref tg, .ref tsp, .ref tk, .ref gd, .ref tr, .ref wy, .ref wk, .int (zI lf2__22), .int (zI at2__4)])), (tk, .inr (3, [.ref dtp, .int (zI tn_), .int (zI be2__2), .int (zI ki2__3), .int (zI at2__4), .long (lI nm2__5), .long (lI nu2__6)])), ri dtp cB 3000 Rdtp, (gd, .inr (2, [.ref tk, .ref xr, .ref gs, .int (zI st2__7), .int (zI ri2__8), .int (zI tp2__9), .int (zI ts2__10)])), (xr, .inr (0, [.ref tk, .ref xg2_27, .int (zI xru2__11), .int (zI xta2__12), .int (zI xst2__13), .int (zI xtc2__14), .int (zI xop2__15), .ref gwt, .int (zI xwc2__16), .int (zI xoc2__17), .int (zI xic2__18)])), ri gwt cI 40 wt2__30, (gs, .inr (1, [.int (zI ssc2__19), .ref sgsn, .ref sgac, .ref sgic, .ref sgan, .ref sgih, .ref sgrk, .int (zI src2__20), .ref sgrn, .ref sgrs, .ref sgcc, .ref sgec, .ref sgcs, .ref sgce, .ref sghg, .ref sgop, .ref sgod, .int (zI scz2__21)])), rl sgsn cJ 12 ssn2__31, ri sgac cI 12 sac2__32, ri sgic cI 12 sic2__33, rl sgan cJ 72 san2__34, ri sgih cZ 72 sih2__35, ri sgrk cI 72 srk2__36, rl sgrn cJ 30 srn2__37, ri sgrs cI 120 srs2__38, ri sgcc cI 30 scc2__39, ri sgec cI 30 sec2__40, ri sgcs cI 720 scs2__41, ri sgce cI 720 sce2__42, ri sghg cI 720 shgs2__43, ri sgop cI 3000 sop2__44, ri sgod cI 3000 sod2__45, (tg, .inr (4, [.int (zI tg_size), .ref trr, .ref tra, .ref trp, .ref tro, .ref trc])), (wk, .inr (7, [.ref kno, .ref kor, .int (zI wk_orderSize), .ref gr, .ref tg, .ref kst, .ref kwy, .ref kba, .ref keq, .ref kca, .int (zI wk_wayLength), .ref kva, .ref kbd, .int (zI wk_valueCount)])), ri kst cI 1200 ks2__46, ri kor cI 1200 Rkor, ri kno cI 1200 no2__47, (wy, .inr (6, [.ref wpl, .ref wpr, .int (zI tl2__26), .ref wgr, .ref wgc, .ref wer, .ref wco, .ref gr, .ref whg, .ref wht, .ref wir, .ref wro, .ref wta, .ref wfi, .ref wsp])), ri wpl cI 12 pl2__48, ri wpr cZ 30 pr2__49, ri wgr cI 6144 gg2__50, ri wgc cI 12 gc2__51, ri wer cZ 30 er2__52, ri wco cZ 30 co2__53, ri whg cZ 6144 hg2__54, ri wht cZ 12 ht2__55, ri wir cZ 12 ir2__56, ri wro cI 24 ro2__57, ri wta cI 90 tn2__58, ri wfi cI 3 fi2__59, ri wsp cI 3 sp2__60] := hD
    have hK : va_K (dC, dI) vwCl [(cB, .byte), (cI, .int), (cJ, .long), (cZ, .boolean)] s := hK
    obtain rfl : r1 = zI (-1) := hw1
    obtain ⟨eb_, hres, hexe⟩ := p1_62
    refine lv_pop hx hb dL_law_198 rfl ?_
    refine lv_aload_n hx hb dL_law_199 rfl (lv_at hl 1 rfl) ?_
    have hPc := hP.sub (ws' := [(mo, .inr (9, [.ref mtp, .int (zI tn_), .ref mtx, .int (zI mo_length), .ref mfo, .int (zI mo_formerLength), .int (zI mo_hasGrammar), .int (zI mo_at), .int (zI mo_token), .int (zI mo_sort), .long (lI mo_told), .int (zI mo_wrong), .int (zI mo_wrongAt), .int (zI mo_fault), .int (zI mo_faultAt), .int (zI mo_nest), .int (zI mo_symbols), .ref msn, .ref mac, .ref man, .ref mih, .int (zI mo_rules), .ref mrn, .ref mcc, .ref mrs, .ref mec, .ref mef, .ref meo, .ref mem, .int (zI mo_orders), .ref mor, .ref moo, .int (zI mo_occs), .ref mop, .ref moa, .int (zI mo_occurK), .int (zI mo_occurA), .int (zI mo_frames), .ref mfr, .ref mff, .int (zI mo_tokens), .int (zI mo_mode), .int (zI mo_nodes), .ref mnr, .ref mna, .ref mnp, .ref mno, .ref mnc, .int (zI mo_newNodes), .ref mwr, .ref mwa, .ref mwp, .ref mwo, .ref mwm, .ref mwc, .ref mcb, .ref mcm, .ref mia, .int (zI mo_isLarge), .ref mhg, .ref mgr, .ref mpl, .ref mrp, .ref mir, .ref mre, .ref mch, .int (zI 0), .ref mfs, .int (zI mo_worked), .ref mwk, .ref miw, .ref mib, .ref mnu, .ref mig, .int (zI mo_waits), .ref mwf, .ref mwx, .int (zI mo_top), .ref mst, .ref msb])), ri mtx cB 3000 Rmtx, ri mtp cB 3000 Rdtp, ri mfo cB 3000 Rmfo, rl msn cJ 12 Rmsn, ri mac cI 12 Rmac, rl man cJ 72 Rman, ri mih cZ 72 Rmih, rl mrn cJ 30 Rmrn, ri mcc cI 30 Rmcc, ri mrs cI 120 Rmrs, ri mef cI 720 Rmef, ri mec cI 30 Rmec, ri meo cI 720 Rmeo, ri mem cI 720 Rmem, ri mor cI 4000 Rmor, ri moo cI 4000 Rmoo, ri mop cI 3000 Rmop, ri moa cI 3000 Rmoa, ri mfr cI 120 Rmfr, ri mff cI 120 Rmff, ri mre cI 24 Rmre, ri mch cI 4 Rmch, ri mgr cI 12 Rmgr, ri mhg cZ 6144 Rmhg, ri mir cZ 30 Rmir, ri mfs cI 2100 Rmfs, ri mpl cI 12 Rmpl, ri mrp cZ 30 Rmrp, ri mcb cZ 12 Rmcb, ri mcm cZ 30 Rmcm, ri mia cZ 12 Rmia]) [35, 37, 36, 38, 39, 40, 41, 42, 43, 44, 45, 47, 46, 48, 49, 50, 51, 52, 53, 54, 55, 75, 76, 71, 70, 74, 77, 72, 73, 67, 68, 69] rfl
    have hDc := hD.sub (ws' := [(mo, .inr (9, [.ref mtp, .int (zI tn_), .ref mtx, .int (zI mo_length), .ref mfo, .int (zI mo_formerLength), .int (zI mo_hasGrammar), .int (zI mo_at), .int (zI mo_token), .int (zI mo_sort), .long (lI mo_told), .int (zI mo_wrong), .int (zI mo_wrongAt), .int (zI mo_fault), .int (zI mo_faultAt), .int (zI mo_nest), .int (zI mo_symbols), .ref msn, .ref mac, .ref man, .ref mih, .int (zI mo_rules), .ref mrn, .ref mcc, .ref mrs, .ref mec, .ref mef, .ref meo, .ref mem, .int (zI mo_orders), .ref mor, .ref moo, .int (zI mo_occs), .ref mop, .ref moa, .int (zI mo_occurK), .int (zI mo_occurA), .int (zI mo_frames), .ref mfr, .ref mff, .int (zI mo_tokens), .int (zI mo_mode), .int (zI mo_nodes), .ref mnr, .ref mna, .ref mnp, .ref mno, .ref mnc, .int (zI mo_newNodes), .ref mwr, .ref mwa, .ref mwp, .ref mwo, .ref mwm, .ref mwc, .ref mcb, .ref mcm, .ref mia, .int (zI mo_isLarge), .ref mhg, .ref mgr, .ref mpl, .ref mrp, .ref mir, .ref mre, .ref mch, .int (zI 0), .ref mfs, .int (zI mo_worked), .ref mwk, .ref miw, .ref mib, .ref mnu, .ref mig, .int (zI mo_waits), .ref mwf, .ref mwx, .int (zI mo_top), .ref mst, .ref msb])), ri mtx cB 3000 Rmtx, ri mtp cB 3000 Rdtp, ri mfo cB 3000 Rmfo, rl msn cJ 12 Rmsn, ri mac cI 12 Rmac, rl man cJ 72 Rman, ri mih cZ 72 Rmih, rl mrn cJ 30 Rmrn, ri mcc cI 30 Rmcc, ri mrs cI 120 Rmrs, ri mef cI 720 Rmef, ri mec cI 30 Rmec, ri meo cI 720 Rmeo, ri mem cI 720 Rmem, ri mor cI 4000 Rmor, ri moo cI 4000 Rmoo, ri mop cI 3000 Rmop, ri moa cI 3000 Rmoa, ri mfr cI 120 Rmfr, ri mff cI 120 Rmff, ri mre cI 24 Rmre, ri mch cI 4 Rmch, ri mgr cI 12 Rmgr, ri mhg cZ 6144 Rmhg, ri mir cZ 30 Rmir, ri mfs cI 2100 Rmfs, ri mpl cI 12 Rmpl, ri mrp cZ 30 Rmrp, ri mcb cZ 12 Rmcb, ri mcm cZ 30 Rmcm, ri mia cZ 12 Rmia]) [35, 37, 36, 38, 39, 40, 41, 42, 43, 44, 45, 47, 46, 48, 49, 50, 51, 52, 53, 54, 55, 75, 76, 71, 70, 74, 77, 72, 73, 67, 68, 69] (by decide +kernel) rfl
    have hKc := hK.sub (tys' := [(cB, .byte), (cJ, .long), (cI, .int), (cZ, .boolean)]) [0, 2, 1, 3] rfl
    have hFc := va_free (wc := [(mo, .inr (9, [.ref mtp, .int (zI tn_), .ref mtx, .int (zI mo_length), .ref mfo, .int (zI mo_formerLength), .int (zI mo_hasGrammar), .int (zI mo_at), .int (zI mo_token), .int (zI mo_sort), .long (lI mo_told), .int (zI mo_wrong), .int (zI mo_wrongAt), .int (zI mo_fault), .int (zI mo_faultAt), .int (zI mo_nest), .int (zI mo_symbols), .ref msn, .ref mac, .ref man, .ref mih, .int (zI mo_rules), .ref mrn, .ref mcc, .ref mrs, .ref mec, .ref mef, .ref meo, .ref mem, .int (zI mo_orders), .ref mor, .ref moo, .int (zI mo_occs), .ref mop, .ref moa, .int (zI mo_occurK), .int (zI mo_occurA), .int (zI mo_frames), .ref mfr, .ref mff, .int (zI mo_tokens), .int (zI mo_mode), .int (zI mo_nodes), .ref mnr, .ref mna, .ref mnp, .ref mno, .ref mnc, .int (zI mo_newNodes), .ref mwr, .ref mwa, .ref mwp, .ref mwo, .ref mwm, .ref mwc, .ref mcb, .ref mcm, .ref mia, .int (zI mo_isLarge), .ref mhg, .ref mgr, .ref mpl, .ref mrp, .ref mir, .ref mre, .ref mch, .int (zI 0), .ref mfs, .int (zI mo_worked), .ref mwk, .ref miw, .ref mib, .ref mnu, .ref mig, .int (zI mo_waits), .ref mwf, .ref mwx, .int (zI mo_top), .ref mst, .ref msb])), ri mtx cB 3000 Rmtx, ri mtp cB 3000 Rdtp, ri mfo cB 3000 Rmfo, rl msn cJ 12 Rmsn, ri mac cI 12 Rmac, rl man cJ 72 Rman, ri mih cZ 72 Rmih, rl mrn cJ 30 Rmrn, ri mcc cI 30 Rmcc, ri mrs cI 120 Rmrs, ri mef cI 720 Rmef, ri mec cI 30 Rmec, ri meo cI 720 Rmeo, ri mem cI 720 Rmem, ri mor cI 4000 Rmor, ri moo cI 4000 Rmoo, ri mop cI 3000 Rmop, ri moa cI 3000 Rmoa, ri mfr cI 120 Rmfr, ri mff cI 120 Rmff, ri mre cI 24 Rmre, ri mch cI 4 Rmch, ri mgr cI 12 Rmgr, ri mhg cZ 6144 Rmhg, ri mir cZ 30 Rmir, ri mfs cI 2100 Rmfs, ri mpl cI 12 Rmpl, ri mrp cZ 30 Rmrp, ri mcb cZ 12 Rmcb, ri mcm cZ 30 Rmcm, ri mia cZ 12 Rmia]) hD hS hA [35, 37, 36, 38, 39, 40, 41, 42, 43, 44, 45, 47, 46, 48, 49, 50, 51, 52, 53, 54, 55, 75, 76, 71, 70, 74, 77, 72, 73, 67, 68, 69] rfl
    refine va_calli (va_runV (As := []) (rest := []) ⟨hx, hb, hml, hown, hg⟩ (c_X9_grammar l dC dI mo mtx mtp mfo msn mac man mih mrn mcc mrs mef mec meo mem mor moo mop moa mfr mff mre mch mgr mhg mir mfs mpl mrp mcb mcm mia mnr mna mnp mno mnc mwr mwa mwp mwo mwm mwc mwk miw mib mnu mig mwf mwx mst msb cB cJ cI cZ H.size (mkS 0 gd_readsInherited gd_targetPlace gd_targetSpot 0 0 0 xr_state xr_tokenCount xr_occPlace xr_waitingCount Rsgsn Rsgac Rsgic Rsgan Rsgih Rsgrn Rsgrs Rsgcc (bN Rsgcs) Rgwt) S1 tn_ mo_length mo_formerLength mo_hasGrammar mo_at mo_token mo_sort mo_told mo_wrong mo_wrongAt mo_fault mo_faultAt mo_nest mo_symbols mo_rules mo_orders mo_occs mo_occurK mo_occurA mo_frames mo_tokens mo_mode mo_nodes mo_newNodes mo_isLarge mo_worked mo_waits mo_top Rmtx Rdtp Rmfo Rmsn Rmac Rman Rmih Rmrn Rmcc Rmrs Rmef Rmec Rmeo Rmem Rmor Rmoo Rmop Rmoa Rmfr Rmff Rmre Rmch Rmgr Rmhg Rmir Rmfs Rmpl Rmrp Rmcb Rmcm Rmia (ini_mk _ _ _ _ _ _ _ _ _ _ _ _ _ _ _ _ _) (fun z => ⟨(hS1.to z).1, kfin_rf (hS1.to z).2.2.2⟩) f_hg f_tn f_fl f_lg f_sy f_ru f_bmtx f_btp f_bmfo f_bmsn f_bmac f_bman f_bmih f_bmrn f_bmcc f_bmrs f_bmef f_bmec f_bmeo f_bmem f_bmor f_bmoo f_bmop f_bmoa f_bmfr f_bmff f_bmre f_bmch f_bmgr f_bmhg f_bmir f_bmfs f_bmpl f_bmrp f_bmcb f_bmcm f_bmia) (cwV 0 hg gc_L_27 rfl rfl rfl (by decide +kernel) ⟨Nat.le_of_ble_eq_true rfl, Nat.le_of_ble_eq_true rfl⟩) ⟨fun a U g mk q => by obtain ⟨q0, q1, qP, qK, qD⟩ := q; exact ⟨q0, q1, qP, va_K.moved (u := U) (U := U.calling g mk a) (Vm.Alike.refl U.vm) qK, qD⟩, va_recv hKc hPc (ci := 9) (q0 := 0) rfl rfl, fun U hU hW => ⟨rfl, by rw [hU], by rw [hU]; exact hPc, va_K.moved hW.alike hKc, hDc.weaken (fun _ _ _ _ => trivial)⟩⟩ rfl rfl hl.1 rfl (lv_room (Nat.le_of_ble_eq_true rfl)) dL_law_200 ⟨Nat.le_of_ble_eq_true rfl, Nat.le_of_ble_eq_true rfl⟩) hS (fun q _ h => hFc q h) hFc (fun r188 u188 t H1 locs ht hvm hw188 hB hz1 hk1 hS => ?_)
    refine Exists.elim hB (fun len2__189 hB0 => ?_)
    clear hB
    refine Exists.elim hB0 (fun at2__190 hB => ?_)
    clear hB0
    refine Exists.elim hB (fun tk2__191 hB0 => ?_)
    clear hB
    refine Exists.elim hB0 (fun so2__192 hB => ?_)
    clear hB0
    refine Exists.elim hB (fun to2__193 hB0 => ?_)
    clear hB
    refine Exists.elim hB0 (fun wr2__194 hB => ?_)
    clear hB0
    refine Exists.elim hB (fun wa2__195 hB0 => ?_)
    clear hB
    refine Exists.elim hB0 (fun fa2__196 hB => ?_)
    clear hB0
    refine Exists.elim hB (fun fp2__197 hB0 => ?_)
    clear hB
    refine Exists.elim hB0 (fun hgr2__198 hB => ?_)
    clear hB0
    refine Exists.elim hB (fun fl2__199 hB0 => ?_)
    clear hB
    refine Exists.elim hB0 (fun no2__200 hB => ?_)
    clear hB0
    refine Exists.elim hB (fun wo2__201 hB0 => ?_)
    clear hB
    refine Exists.elim hB0 (fun lg2__202 hB => ?_)
    clear hB0
    refine Exists.elim hB (fun ock2__203 hB0 => ?_)
    clear hB
    refine Exists.elim hB0 (fun oca2__204 hB => ?_)
    clear hB0
    refine Exists.elim hB (fun ors2__205 hB0 => ?_)
    clear hB
    refine Exists.elim hB0 (fun ocs2__206 hB => ?_)
    clear hB0
    refine Exists.elim hB (fun nes2__207 hB0 => ?_)
    clear hB
    refine Exists.elim hB0 (fun tks2__208 hB => ?_)
    clear hB0
    refine Exists.elim hB (fun frm2__209 hB0 => ?_)
    clear hB
    refine Exists.elim hB0 (fun mde2__210 hB => ?_)
    clear hB0
    refine Exists.elim hB (fun rul2__211 hB0 => ?_)
    clear hB
    refine Exists.elim hB0 (fun sy2__212 hB => ?_)
    clear hB0
    refine Exists.elim hB (fun tx2__213 hB0 => ?_)
    clear hB
    refine Exists.elim hB0 (fun fo2__214 hB => ?_)
    clear hB0
    refine Exists.elim hB (fun sn2__215 hB0 => ?_)
    clear hB
    refine Exists.elim hB0 (fun ac2__216 hB => ?_)
    clear hB0
    refine Exists.elim hB (fun an2__217 hB0 => ?_)
    clear hB
    refine Exists.elim hB0 (fun ih2__218 hB => ?_)
    clear hB0
    refine Exists.elim hB (fun rn2__219 hB0 => ?_)
    clear hB
    refine Exists.elim hB0 (fun cc2__220 hB => ?_)
    clear hB0
    refine Exists.elim hB (fun rs2__221 hB0 => ?_)
    clear hB
    refine Exists.elim hB0 (fun ef2__222 hB => ?_)
    clear hB0
    refine Exists.elim hB (fun qc2__223 hB0 => ?_)
    clear hB
    refine Exists.elim hB0 (fun eo2__224 hB => ?_)
    clear hB0
    refine Exists.elim hB (fun em2__225 hB0 => ?_)
    clear hB
    refine Exists.elim hB0 (fun or2__226 hB => ?_)
    clear hB0
    refine Exists.elim hB (fun oo2__227 hB0 => ?_)
    clear hB
    refine Exists.elim hB0 (fun op2__228 hB => ?_)
    clear hB0
    refine Exists.elim hB (fun oa2__229 hB0 => ?_)
    clear hB
    refine Exists.elim hB0 (fun fr2__230 hB => ?_)
    clear hB0
    refine Exists.elim hB (fun ff2__231 hB0 => ?_)
    clear hB
    refine Exists.elim hB0 (fun re2__232 hB => ?_)
    clear hB0
    refine Exists.elim hB (fun ch2__233 hB0 => ?_)
    clear hB
    refine Exists.elim hB0 (fun gc2__234 hB => ?_)
    clear hB0
    refine Exists.elim hB (fun hg2__235 hB0 => ?_)
    clear hB
    refine Exists.elim hB0 (fun ir2__236 hB => ?_)
    clear hB0
    refine Exists.elim hB (fun fs2__237 hB0 => ?_)
    clear hB
    refine Exists.elim hB0 (fun pl2__238 hB => ?_)
    clear hB0
    refine Exists.elim hB (fun rp2__239 hB0 => ?_)
    clear hB
    refine Exists.elim hB0 (fun cb2__240 hB => ?_)
    clear hB0
    refine Exists.elim hB (fun cm2__241 hB0 => ?_)
    clear hB
    refine Exists.elim hB0 (fun ia2__242 hB => ?_)
    clear hB0
    have p0_243 := hB.1
    have hB0 := hB.2
    clear hB
    have p1_244 := hB0.1
    have hB := hB0.2
    clear hB0
    have p2_245 := hB.1
    have hB0 := hB.2
    clear hB
    have p3_246 := hB0.1
    have hB := hB0.2
    clear hB0
    have p4_247 := hB.1
    have hB0 := hB.2
    clear hB
    have p5_248 := hB0.1
    have hB := hB0.2
    clear hB0
    have p6_249 := hB.1
    have hB0 := hB.2
    clear hB
    have p7_250 := hB0.1
    have hB := hB0.2
    clear hB0
    have p8_251 := hB.1
    have hB0 := hB.2
    clear hB
    have p9_252 := hB0.1
    have hB := hB0.2
    clear hB0
    have p10_253 := hB.1
    have hB0 := hB.2
    clear hB
    have p11_254 := hB0.1
    have hB := hB0.2
    clear hB0
    have p12_255 := hB.1
    have hB0 := hB.2
    clear hB
    have p13_256 := hB0.1
    have hB := hB0.2
    clear hB0
    have p14_257 := hB.1
    have hB0 := hB.2
    clear hB
    have p15_258 := hB0.1
    have hB := hB0.2
    clear hB0
    have p16_259 := hB.1
    have hB0 := hB.2
    clear hB
    have p17_260 := hB0.1
    have hB := hB0.2
    clear hB0
    have p18_261 := hB.1
    have hB0 := hB.2
    clear hB
    have p19_262 := hB0.1
    have hB := hB0.2
    clear hB0
    have p20_263 := hB.1
    have hB0 := hB.2
    clear hB
    have p21_264 := hB0.1
    have hB := hB0.2
    clear hB0
    have p22_265 := hB.1
    have hB0 := hB.2
    clear hB
    have p23_266 := hB0.1
    have hB := hB0.2
    clear hB0
    have p24_267 := hB.1
    have hB0 := hB.2
    clear hB
    have p25_268 := hB0.1
    have hB := hB0.2
    clear hB0
    have p26_269 := hB.1
    have hB0 := hB.2
    clear hB
    have p27_270 := hB0.1
    have hB := hB0.2
    clear hB0
    have p28_271 := hB.1
    have hB0 := hB.2
    clear hB
    have p29_272 := hB0.1
    have hB := hB0.2
    clear hB0
    have p30_273 := hB.1
    have hB0 := hB.2
    clear hB
    have p31_274 := hB0.1
    have hB := hB0.2
    clear hB0
    have p32_275 := hB.1
    have hB0 := hB.2
    clear hB
    have p33_276 := hB0.1
    have hB := hB0.2
    clear hB0
    have p34_277 := hB.1
    have hB0 := hB.2
    clear hB
    have p35_278 := hB0.1
    have hB := hB0.2
    clear hB0
    have p36_279 := hB.1
    have hB0 := hB.2
    clear hB
    have p37_280 := hB0.1
    have hB := hB0.2
    clear hB0
    have p38_281 := hB.1
    have hB0 := hB.2
    clear hB
    have hP1 := hB0.1
    have hB := hB0.2
    clear hB0
    have hK1 := hB.1
    have hB0 := hB.2
    clear hB
    have hD1 := hB0
    clear hB0
    rcases p0_243 with ⟨rfl, hx282a, rfl, hx282b, rfl, rfl, hfn1, hfn2, htq9, rfl⟩ | ⟨hfa9, rfl, hx282a, hx282b, hx282c, hx282d, hrf9, himp1, himp0⟩
    · exact absurd (rfin_cls hfn1 hres).1 hlf9
    · obtain rfl := hx282a.symm
      obtain rfl := hx282b.symm
      obtain rfl := hx282c.symm
      obtain rfl := hx282d.symm
      rw [ht] at hP1
      have hK1 := va_K.moved hvm.symm hK1
      obtain ⟨hP, hD⟩ := va_join (wr := [(gr, .inr (1, [.int (zI gr_symbolCount), .ref gsn, .ref gac, .ref gic, .ref gan, .ref gih, .ref grk, .int (zI gr_ruleCount), .ref grn, .ref grs, .ref gcc, .ref gec, .ref gcs, .ref gce, .ref ghg, .ref gop, .ref god, .int (zI gr_codeSize)])), rl gsn cJ 12 Rgsn, ri gac cI 12 Rgac, ri gic cI 12 Rgic, rl gan cJ 72 Rgan, ri gih cZ 72 Rgih, ri grk cI 72 Rgrk, rl grn cJ 30 Rgrn, ri grs cI 120 Rgrs, ri gcc cI 30 Rgcc, ri gec cI 30 Rgec, ri gcs cI 720 Rgcs, ri gce cI 720 Rgce, ri ghg cI 720 Rghg, ri gop cI 3000 Rgop, ri god cI 3000 Rgod, ri trr cI 200 Rtrr, ri tra cI 200 Rtra, ri trp cI 200 Rtrp, ri tro cI 200 Rtro, ri trc cI 600 Rtrc, (tsp, .inr (4, [.int (zI tsp_size), .ref strr, .ref stra, .ref strp, .ref stro, .ref strc])), ri strr cI 200 Rstrr, ri stra cI 200 Rstra, ri strp cI 200 Rstrp, ri stro cI 200 Rstro, ri strc cI 600 Rstrc, (tr, .inr (5, [.ref tk, .ref trgg, .ref trtt, .int (zI tr_state), .int (zI tr_here), .int (zI tr_depth), .ref trf])), ri trf cI 200 Rtrf, ri kwy cI 1200 Rkwy, ri kba cI 1200 Rkba, ri keq cI 1200 Rkeq, ri kca cI 1200 Rkca, ri kva cI 40 Rkva, ri kbd cZ 40 Rkbd, ri mnr cI 200 Rmnr, ri mna cI 200 Rmna, ri mnp cI 200 Rmnp, ri mno cI 200 Rmno, ri mnc cI 800 Rmnc, ri mwr cI 200 Rmwr, ri mwa cI 200 Rmwa, ri mwp cI 200 Rmwp, ri mwo cI 200 Rmwo, ri mwm cI 200 Rmwm, ri mwc cI 800 Rmwc, ri mwk cI 1200 Rmwk, ri miw cZ 1200 Rmiw, ri mib cZ 1200 Rmib, ri mnu cI 1200 Rmnu, ri mig cZ 1200 Rmig, ri mwf cI 1200 Rmwf, ri mwx cI 1200 Rmwx, ri mst cI 60 Rmst, ri msb cZ 60 Rmsb, (dk, .inr (8, [.ref dtp, .int (zI 0), .ref gr, .ref gs, .ref tg, .ref tsp, .ref tk, .ref gd, .ref tr, .ref wy, .ref wk, .int (zI lf2__22), .int (zI at2__4)])), (tk, .inr (3, [.ref dtp, .int (zI tn_), .int (zI be2__2), .int (zI ki2__3), .int (zI at2__4), .long (lI nm2__5), .long (lI nu2__6)])), ri dtp cB 3000 Rdtp, (gd, .inr (2, [.ref tk, .ref xr, .ref gs, .int (zI st2__7), .int (zI ri2__8), .int (zI tp2__9), .int (zI ts2__10)])), (xr, .inr (0, [.ref tk, .ref xg2_27, .int (zI xru2__11), .int (zI xta2__12), .int (zI xst2__13), .int (zI xtc2__14), .int (zI xop2__15), .ref gwt, .int (zI xwc2__16), .int (zI xoc2__17), .int (zI xic2__18)])), ri gwt cI 40 wt2__30, (gs, .inr (1, [.int (zI ssc2__19), .ref sgsn, .ref sgac, .ref sgic, .ref sgan, .ref sgih, .ref sgrk, .int (zI src2__20), .ref sgrn, .ref sgrs, .ref sgcc, .ref sgec, .ref sgcs, .ref sgce, .ref sghg, .ref sgop, .ref sgod, .int (zI scz2__21)])), rl sgsn cJ 12 ssn2__31, ri sgac cI 12 sac2__32, ri sgic cI 12 sic2__33, rl sgan cJ 72 san2__34, ri sgih cZ 72 sih2__35, ri sgrk cI 72 srk2__36, rl sgrn cJ 30 srn2__37, ri sgrs cI 120 srs2__38, ri sgcc cI 30 scc2__39, ri sgec cI 30 sec2__40, ri sgcs cI 720 scs2__41, ri sgce cI 720 sce2__42, ri sghg cI 720 shgs2__43, ri sgop cI 3000 sop2__44, ri sgod cI 3000 sod2__45, (tg, .inr (4, [.int (zI tg_size), .ref trr, .ref tra, .ref trp, .ref tro, .ref trc])), (wk, .inr (7, [.ref kno, .ref kor, .int (zI wk_orderSize), .ref gr, .ref tg, .ref kst, .ref kwy, .ref kba, .ref keq, .ref kca, .int (zI wk_wayLength), .ref kva, .ref kbd, .int (zI wk_valueCount)])), ri kst cI 1200 ks2__46, ri kor cI 1200 Rkor, ri kno cI 1200 no2__47, (wy, .inr (6, [.ref wpl, .ref wpr, .int (zI tl2__26), .ref wgr, .ref wgc, .ref wer, .ref wco, .ref gr, .ref whg, .ref wht, .ref wir, .ref wro, .ref wta, .ref wfi, .ref wsp])), ri wpl cI 12 pl2__48, ri wpr cZ 30 pr2__49, ri wgr cI 6144 gg2__50, ri wgc cI 12 gc2__51, ri wer cZ 30 er2__52, ri wco cZ 30 co2__53, ri whg cZ 6144 hg2__54, ri wht cZ 12 ht2__55, ri wir cZ 12 ir2__56, ri wro cI 24 ro2__57, ri wta cI 90 tn2__58, ri wfi cI 3 fi2__59, ri wsp cI 3 sp2__60]) (w1 := [(mo, .inr (9, [.ref mtp, .int (zI 0), .ref mtx, .int (zI len2__189), .ref mfo, .int (zI mo_formerLength), .int (zI mo_hasGrammar), .int (zI at2__190), .int (zI tk2__191), .int (zI so2__192), .long (lI to2__193), .int (zI wr2__194), .int (zI wa2__195), .int (zI fa2__196), .int (zI fp2__197), .int (zI nes2__207), .int (zI sy2__212), .ref msn, .ref mac, .ref man, .ref mih, .int (zI rul2__211), .ref mrn, .ref mcc, .ref mrs, .ref mec, .ref mef, .ref meo, .ref mem, .int (zI ors2__205), .ref mor, .ref moo, .int (zI ocs2__206), .ref mop, .ref moa, .int (zI ock2__203), .int (zI oca2__204), .int (zI frm2__209), .ref mfr, .ref mff, .int (zI tks2__208), .int (zI mde2__210), .int (zI mo_nodes), .ref mnr, .ref mna, .ref mnp, .ref mno, .ref mnc, .int (zI mo_newNodes), .ref mwr, .ref mwa, .ref mwp, .ref mwo, .ref mwm, .ref mwc, .ref mcb, .ref mcm, .ref mia, .int (zI lg2__202), .ref mhg, .ref mgr, .ref mpl, .ref mrp, .ref mir, .ref mre, .ref mch, .int (zI 0), .ref mfs, .int (zI mo_worked), .ref mwk, .ref miw, .ref mib, .ref mnu, .ref mig, .int (zI mo_waits), .ref mwf, .ref mwx, .int (zI mo_top), .ref mst, .ref msb])), ri mtx cB 3000 tx2__213, ri mtp cB 3000 Rdtp, ri mfo cB 3000 fo2__214, rl msn cJ 12 sn2__215, ri mac cI 12 ac2__216, rl man cJ 72 an2__217, ri mih cZ 72 ih2__218, rl mrn cJ 30 rn2__219, ri mcc cI 30 cc2__220, ri mrs cI 120 rs2__221, ri mef cI 720 ef2__222, ri mec cI 30 qc2__223, ri meo cI 720 eo2__224, ri mem cI 720 em2__225, ri mor cI 4000 or2__226, ri moo cI 4000 oo2__227, ri mop cI 3000 op2__228, ri moa cI 3000 oa2__229, ri mfr cI 120 fr2__230, ri mff cI 120 ff2__231, ri mre cI 24 re2__232, ri mch cI 4 ch2__233, ri mgr cI 12 gc2__234, ri mhg cZ 6144 hg2__235, ri mir cZ 30 ir2__236, ri mfs cI 2100 fs2__237, ri mpl cI 12 pl2__238, ri mrp cZ 30 rp2__239, ri mcb cZ 12 cb2__240, ri mcm cZ 30 cm2__241, ri mia cZ 12 ia2__242]) hP hD [35, 37, 36, 38, 39, 40, 41, 42, 43, 44, 45, 47, 46, 48, 49, 50, 51, 52, 53, 54, 55, 75, 76, 71, 70, 74, 77, 72, 73, 67, 68, 69] [0, 1, 2, 3, 4, 5, 6, 7, 8, 9, 10, 11, 12, 13, 14, 15, 16, 17, 18, 19, 20, 21, 22, 23, 24, 25, 26, 27, 28, 29, 30, 31, 32, 33, 34, 56, 57, 58, 59, 60, 61, 62, 63, 64, 65, 66, 78, 79, 80, 81, 82, 83, 84, 85, 86, 87, 88, 89, 90, 91, 92, 93, 94, 95, 96, 97, 98, 99, 100, 101, 102, 103, 104, 105, 106, 107, 108, 109, 110, 111, 112, 113, 114, 115, 116, 117, 118, 119, 120, 121, 122, 123, 124, 125, 126, 127] rfl rfl (by decide +kernel) (by decide +kernel) hk1 hFc hP1 hD1
      have hK := (hK.sub (tys' := []) [] rfl).app hK1
      generalize H1 = H at hP hS ⊢
      clear hP1 hD1 hK1 hz1 hk1 hFc hPc hDc hKc hvm ht
      have hP : va_P (dC, dI) vwCl [(gr, .inr (1, [.int (zI gr_symbolCount), .ref gsn, .ref gac, .ref gic, .ref gan, .ref gih, .ref grk, .int (zI gr_ruleCount), .ref grn, .ref grs, .ref gcc, .ref gec, .ref gcs, .ref gce, .ref ghg, .ref gop, .ref god, .int (zI gr_codeSize)])), rl gsn cJ 12 Rgsn, ri gac cI 12 Rgac, ri gic cI 12 Rgic, rl gan cJ 72 Rgan, ri gih cZ 72 Rgih, ri grk cI 72 Rgrk, rl grn cJ 30 Rgrn, ri grs cI 120 Rgrs, ri gcc cI 30 Rgcc, ri gec cI 30 Rgec, ri gcs cI 720 Rgcs, ri gce cI 720 Rgce, ri ghg cI 720 Rghg, ri gop cI 3000 Rgop, ri god cI 3000 Rgod, ri trr cI 200 Rtrr, ri tra cI 200 Rtra, ri trp cI 200 Rtrp, ri tro cI 200 Rtro, ri trc cI 600 Rtrc, (tsp, .inr (4, [.int (zI tsp_size), .ref strr, .ref stra, .ref strp, .ref stro, .ref strc])), ri strr cI 200 Rstrr, ri stra cI 200 Rstra, ri strp cI 200 Rstrp, ri stro cI 200 Rstro, ri strc cI 600 Rstrc, (tr, .inr (5, [.ref tk, .ref trgg, .ref trtt, .int (zI tr_state), .int (zI tr_here), .int (zI tr_depth), .ref trf])), ri trf cI 200 Rtrf, ri kwy cI 1200 Rkwy, ri kba cI 1200 Rkba, ri keq cI 1200 Rkeq, ri kca cI 1200 Rkca, ri kva cI 40 Rkva, ri kbd cZ 40 Rkbd, ri mnr cI 200 Rmnr, ri mna cI 200 Rmna, ri mnp cI 200 Rmnp, ri mno cI 200 Rmno, ri mnc cI 800 Rmnc, ri mwr cI 200 Rmwr, ri mwa cI 200 Rmwa, ri mwp cI 200 Rmwp, ri mwo cI 200 Rmwo, ri mwm cI 200 Rmwm, ri mwc cI 800 Rmwc, ri mwk cI 1200 Rmwk, ri miw cZ 1200 Rmiw, ri mib cZ 1200 Rmib, ri mnu cI 1200 Rmnu, ri mig cZ 1200 Rmig, ri mwf cI 1200 Rmwf, ri mwx cI 1200 Rmwx, ri mst cI 60 Rmst, ri msb cZ 60 Rmsb, (dk, .inr (8, [.ref dtp, .int (zI 0), .ref gr, .ref gs, .ref tg, .ref tsp, .ref tk, .ref gd, .ref tr, .ref wy, .ref wk, .int (zI lf2__22), .int (zI at2__4)])), (tk, .inr (3, [.ref dtp, .int (zI tn_), .int (zI be2__2), .int (zI ki2__3), .int (zI at2__4), .long (lI nm2__5), .long (lI nu2__6)])), ri dtp cB 3000 Rdtp, (gd, .inr (2, [.ref tk, .ref xr, .ref gs, .int (zI st2__7), .int (zI ri2__8), .int (zI tp2__9), .int (zI ts2__10)])), (xr, .inr (0, [.ref tk, .ref xg2_27, .int (zI xru2__11), .int (zI xta2__12), .int (zI xst2__13), .int (zI xtc2__14), .int (zI xop2__15), .ref gwt, .int (zI xwc2__16), .int (zI xoc2__17), .int (zI xic2__18)])), ri gwt cI 40 wt2__30, (gs, .inr (1, [.int (zI ssc2__19), .ref sgsn, .ref sgac, .ref sgic, .ref sgan, .ref sgih, .ref sgrk, .int (zI src2__20), .ref sgrn, .ref sgrs, .ref sgcc, .ref sgec, .ref sgcs, .ref sgce, .ref sghg, .ref sgop, .ref sgod, .int (zI scz2__21)])), rl sgsn cJ 12 ssn2__31, ri sgac cI 12 sac2__32, ri sgic cI 12 sic2__33, rl sgan cJ 72 san2__34, ri sgih cZ 72 sih2__35, ri sgrk cI 72 srk2__36, rl sgrn cJ 30 srn2__37, ri sgrs cI 120 srs2__38, ri sgcc cI 30 scc2__39, ri sgec cI 30 sec2__40, ri sgcs cI 720 scs2__41, ri sgce cI 720 sce2__42, ri sghg cI 720 shgs2__43, ri sgop cI 3000 sop2__44, ri sgod cI 3000 sod2__45, (tg, .inr (4, [.int (zI tg_size), .ref trr, .ref tra, .ref trp, .ref tro, .ref trc])), (wk, .inr (7, [.ref kno, .ref kor, .int (zI wk_orderSize), .ref gr, .ref tg, .ref kst, .ref kwy, .ref kba, .ref keq, .ref kca, .int (zI wk_wayLength), .ref kva, .ref kbd, .int (zI wk_valueCount)])), ri kst cI 1200 ks2__46, ri kor cI 1200 Rkor, ri kno cI 1200 no2__47, (wy, .inr (6, [.ref wpl, .ref wpr, .int (zI tl2__26), .ref wgr, .ref wgc, .ref wer, .ref wco, .ref gr, .ref whg, .ref wht, .ref wir, .ref wro, .ref wta, .ref wfi, .ref wsp])), ri wpl cI 12 pl2__48, ri wpr cZ 30 pr2__49, ri wgr cI 6144 gg2__50, ri wgc cI 12 gc2__51, ri wer cZ 30 er2__52, ri wco cZ 30 co2__53, ri whg cZ 6144 hg2__54, ri wht cZ 12 ht2__55, ri wir cZ 12 ir2__56, ri wro cI 24 ro2__57, ri wta cI 90 tn2__58, ri wfi cI 3 fi2__59, ri wsp cI 3 sp2__60, (mo, .inr (9, [.ref mtp, .int (zI 0), .ref mtx, .int (zI len2__189), .ref mfo, .int (zI mo_formerLength), .int (zI mo_hasGrammar), .int (zI at2__190), .int (zI tk2__191), .int (zI so2__192), .long (lI to2__193), .int (zI wr2__194), .int (zI wa2__195), .int (zI fa2__196), .int (zI fp2__197), .int (zI nes2__207), .int (zI sy2__212), .ref msn, .ref mac, .ref man, .ref mih, .int (zI rul2__211), .ref mrn, .ref mcc, .ref mrs, .ref mec, .ref mef, .ref meo, .ref mem, .int (zI ors2__205), .ref mor, .ref moo, .int (zI ocs2__206), .ref mop, .ref moa, .int (zI ock2__203), .int (zI oca2__204), .int (zI frm2__209), .ref mfr, .ref mff, .int (zI tks2__208), .int (zI mde2__210), .int (zI mo_nodes), .ref mnr, .ref mna, .ref mnp, .ref mno, .ref mnc, .int (zI mo_newNodes), .ref mwr, .ref mwa, .ref mwp, .ref mwo, .ref mwm, .ref mwc, .ref mcb, .ref mcm, .ref mia, .int (zI lg2__202), .ref mhg, .ref mgr, .ref mpl, .ref mrp, .ref mir, .ref mre, .ref mch, .int (zI 0), .ref mfs, .int (zI mo_worked), .ref mwk, .ref miw, .ref mib, .ref mnu, .ref mig, .int (zI mo_waits), .ref mwf, .ref mwx, .int (zI mo_top), .ref mst, .ref msb])), ri mtx cB 3000 tx2__213, ri mtp cB 3000 Rdtp, ri mfo cB 3000 fo2__214, rl msn cJ 12 sn2__215, ri mac cI 12 ac2__216, rl man cJ 72 an2__217, ri mih cZ 72 ih2__218, rl mrn cJ 30 rn2__219, ri mcc cI 30 cc2__220, ri mrs cI 120 rs2__221, ri mef cI 720 ef2__222, ri mec cI 30 qc2__223, ri meo cI 720 eo2__224, ri mem cI 720 em2__225, ri mor cI 4000 or2__226, ri moo cI 4000 oo2__227, ri mop cI 3000 op2__228, ri moa cI 3000 oa2__229, ri mfr cI 120 fr2__230, ri mff cI 120 ff2__231, ri mre cI 24 re2__232, ri mch cI 4 ch2__233, ri mgr cI 12 gc2__234, ri mhg cZ 6144 hg2__235, ri mir cZ 30 ir2__236, ri mfs cI 2100 fs2__237, ri mpl cI 12 pl2__238, ri mrp cZ 30 rp2__239, ri mcb cZ 12 cb2__240, ri mcm cZ 30 cm2__241, ri mia cZ 12 ia2__242] H := hP
      have hD : va_D (fun q : Nat => s.heap.size ≤ q) [(gr, .inr (1, [.int (zI gr_symbolCount), .ref gsn, .ref gac, .ref gic, .ref gan, .ref gih, .ref grk, .int (zI gr_ruleCount), .ref grn, .ref grs, .ref gcc, .ref gec, .ref gcs, .ref gce, .ref ghg, .ref gop, .ref god, .int (zI gr_codeSize)])), rl gsn cJ 12 Rgsn, ri gac cI 12 Rgac, ri gic cI 12 Rgic, rl gan cJ 72 Rgan, ri gih cZ 72 Rgih, ri grk cI 72 Rgrk, rl grn cJ 30 Rgrn, ri grs cI 120 Rgrs, ri gcc cI 30 Rgcc, ri gec cI 30 Rgec, ri gcs cI 720 Rgcs, ri gce cI 720 Rgce, ri ghg cI 720 Rghg, ri gop cI 3000 Rgop, ri god cI 3000 Rgod, ri trr cI 200 Rtrr, ri tra cI 200 Rtra, ri trp cI 200 Rtrp, ri tro cI 200 Rtro, ri trc cI 600 Rtrc, (tsp, .inr (4, [.int (zI tsp_size), .ref strr, .ref stra, .ref strp, .ref stro, .ref strc])), ri strr cI 200 Rstrr, ri stra cI 200 Rstra, ri strp cI 200 Rstrp, ri stro cI 200 Rstro, ri strc cI 600 Rstrc, (tr, .inr (5, [.ref tk, .ref trgg, .ref trtt, .int (zI tr_state), .int (zI tr_here), .int (zI tr_depth), .ref trf])), ri trf cI 200 Rtrf, ri kwy cI 1200 Rkwy, ri kba cI 1200 Rkba, ri keq cI 1200 Rkeq, ri kca cI 1200 Rkca, ri kva cI 40 Rkva, ri kbd cZ 40 Rkbd, ri mnr cI 200 Rmnr, ri mna cI 200 Rmna, ri mnp cI 200 Rmnp, ri mno cI 200 Rmno, ri mnc cI 800 Rmnc, ri mwr cI 200 Rmwr, ri mwa cI 200 Rmwa, ri mwp cI 200 Rmwp, ri mwo cI 200 Rmwo, ri mwm cI 200 Rmwm, ri mwc cI 800 Rmwc, ri mwk cI 1200 Rmwk, ri miw cZ 1200 Rmiw, ri mib cZ 1200 Rmib, ri mnu cI 1200 Rmnu, ri mig cZ 1200 Rmig, ri mwf cI 1200 Rmwf, ri mwx cI 1200 Rmwx, ri mst cI 60 Rmst, ri msb cZ 60 Rmsb, (dk, .inr (8, [.ref dtp, .int (zI 0), .ref gr, .ref gs, .ref tg, .ref tsp, .ref tk, .ref gd, .ref tr, .ref wy, .ref wk, .int (zI lf2__22), .int (zI at2__4)])), (tk, .inr (3, [.ref dtp, .int (zI tn_), .int (zI be2__2), .int (zI ki2__3), .int (zI at2__4), .long (lI nm2__5), .long (lI nu2__6)])), ri dtp cB 3000 Rdtp, (gd, .inr (2, [.ref tk, .ref xr, .ref gs, .int (zI st2__7), .int (zI ri2__8), .int (zI tp2__9), .int (zI ts2__10)])), (xr, .inr (0, [.ref tk, .ref xg2_27, .int (zI xru2__11), .int (zI xta2__12), .int (zI xst2__13), .int (zI xtc2__14), .int (zI xop2__15), .ref gwt, .int (zI xwc2__16), .int (zI xoc2__17), .int (zI xic2__18)])), ri gwt cI 40 wt2__30, (gs, .inr (1, [.int (zI ssc2__19), .ref sgsn, .ref sgac, .ref sgic, .ref sgan, .ref sgih, .ref sgrk, .int (zI src2__20), .ref sgrn, .ref sgrs, .ref sgcc, .ref sgec, .ref sgcs, .ref sgce, .ref sghg, .ref sgop, .ref sgod, .int (zI scz2__21)])), rl sgsn cJ 12 ssn2__31, ri sgac cI 12 sac2__32, ri sgic cI 12 sic2__33, rl sgan cJ 72 san2__34, ri sgih cZ 72 sih2__35, ri sgrk cI 72 srk2__36, rl sgrn cJ 30 srn2__37, ri sgrs cI 120 srs2__38, ri sgcc cI 30 scc2__39, ri sgec cI 30 sec2__40, ri sgcs cI 720 scs2__41, ri sgce cI 720 sce2__42, ri sghg cI 720 shgs2__43, ri sgop cI 3000 sop2__44, ri sgod cI 3000 sod2__45, (tg, .inr (4, [.int (zI tg_size), .ref trr, .ref tra, .ref trp, .ref tro, .ref trc])), (wk, .inr (7, [.ref kno, .ref kor, .int (zI wk_orderSize), .ref gr, .ref tg, .ref kst, .ref kwy, .ref kba, .ref keq, .ref kca, .int (zI wk_wayLength), .ref kva, .ref kbd, .int (zI wk_valueCount)])), ri kst cI 1200 ks2__46, ri kor cI 1200 Rkor, ri kno cI 1200 no2__47, (wy, .inr (6, [.ref wpl, .ref wpr, .int (zI tl2__26), .ref wgr, .ref wgc, .ref wer, .ref wco, .ref gr, .ref whg, .ref wht, .ref wir, .ref wro, .ref wta, .ref wfi, .ref wsp])), ri wpl cI 12 pl2__48, ri wpr cZ 30 pr2__49, ri wgr cI 6144 gg2__50, ri wgc cI 12 gc2__51, ri wer cZ 30 er2__52, ri wco cZ 30 co2__53, ri whg cZ 6144 hg2__54, ri wht cZ 12 ht2__55, ri wir cZ 12 ir2__56, ri wro cI 24 ro2__57, ri wta cI 90 tn2__58, ri wfi cI 3 fi2__59, ri wsp cI 3 sp2__60, (mo, .inr (9, [.ref mtp, .int (zI 0), .ref mtx, .int (zI len2__189), .ref mfo, .int (zI mo_formerLength), .int (zI mo_hasGrammar), .int (zI at2__190), .int (zI tk2__191), .int (zI so2__192), .long (lI to2__193), .int (zI wr2__194), .int (zI wa2__195), .int (zI fa2__196), .int (zI fp2__197), .int (zI nes2__207), .int (zI sy2__212), .ref msn, .ref mac, .ref man, .ref mih, .int (zI rul2__211), .ref mrn, .ref mcc, .ref mrs, .ref mec, .ref mef, .ref meo, .ref mem, .int (zI ors2__205), .ref mor, .ref moo, .int (zI ocs2__206), .ref mop, .ref moa, .int (zI ock2__203), .int (zI oca2__204), .int (zI frm2__209), .ref mfr, .ref mff, .int (zI tks2__208), .int (zI mde2__210), .int (zI mo_nodes), .ref mnr, .ref mna, .ref mnp, .ref mno, .ref mnc, .int (zI mo_newNodes), .ref mwr, .ref mwa, .ref mwp, .ref mwo, .ref mwm, .ref mwc, .ref mcb, .ref mcm, .ref mia, .int (zI lg2__202), .ref mhg, .ref mgr, .ref mpl, .ref mrp, .ref mir, .ref mre, .ref mch, .int (zI 0), .ref mfs, .int (zI mo_worked), .ref mwk, .ref miw, .ref mib, .ref mnu, .ref mig, .int (zI mo_waits), .ref mwf, .ref mwx, .int (zI mo_top), .ref mst, .ref msb])), ri mtx cB 3000 tx2__213, ri mtp cB 3000 Rdtp, ri mfo cB 3000 fo2__214, rl msn cJ 12 sn2__215, ri mac cI 12 ac2__216, rl man cJ 72 an2__217, ri mih cZ 72 ih2__218, rl mrn cJ 30 rn2__219, ri mcc cI 30 cc2__220, ri mrs cI 120 rs2__221, ri mef cI 720 ef2__222, ri mec cI 30 qc2__223, ri meo cI 720 eo2__224, ri mem cI 720 em2__225, ri mor cI 4000 or2__226, ri moo cI 4000 oo2__227, ri mop cI 3000 op2__228, ri moa cI 3000 oa2__229, ri mfr cI 120 fr2__230, ri mff cI 120 ff2__231, ri mre cI 24 re2__232, ri mch cI 4 ch2__233, ri mgr cI 12 gc2__234, ri mhg cZ 6144 hg2__235, ri mir cZ 30 ir2__236, ri mfs cI 2100 fs2__237, ri mpl cI 12 pl2__238, ri mrp cZ 30 rp2__239, ri mcb cZ 12 cb2__240, ri mcm cZ 30 cm2__241, ri mia cZ 12 ia2__242] := hD
      have hK : va_K (dC, dI) vwCl [(cB, .byte), (cJ, .long), (cI, .int), (cZ, .boolean)] s := hK
      obtain rfl : r188 = zI (-1) := hw188
      refine lv_pop hx hb dL_law_203 rfl ?_
      refine lv_goto (tgt := 553) hx hb dL_law_204 (by decide) ?_
      have hfo9 := (p8_251).elim (fun q => q) (fun q => absurd q hfa9)
      have hP := hP.sub (ws' := [(dk, .inr (8, [.ref dtp, .int (zI 0), .ref gr, .ref gs, .ref tg, .ref tsp, .ref tk, .ref gd, .ref tr, .ref wy, .ref wk, .int (zI lf2__22), .int (zI at2__4)])), ri dtp cB 3000 Rdtp, (gr, .inr (1, [.int (zI gr_symbolCount), .ref gsn, .ref gac, .ref gic, .ref gan, .ref gih, .ref grk, .int (zI gr_ruleCount), .ref grn, .ref grs, .ref gcc, .ref gec, .ref gcs, .ref gce, .ref ghg, .ref gop, .ref god, .int (zI gr_codeSize)])), rl gsn cJ 12 Rgsn, ri gac cI 12 Rgac, ri gic cI 12 Rgic, rl gan cJ 72 Rgan, ri gih cZ 72 Rgih, ri grk cI 72 Rgrk, rl grn cJ 30 Rgrn, ri grs cI 120 Rgrs, ri gcc cI 30 Rgcc, ri gec cI 30 Rgec, ri gcs cI 720 Rgcs, ri gce cI 720 Rgce, ri ghg cI 720 Rghg, ri gop cI 3000 Rgop, ri god cI 3000 Rgod, (gs, .inr (1, [.int (zI ssc2__19), .ref sgsn, .ref sgac, .ref sgic, .ref sgan, .ref sgih, .ref sgrk, .int (zI src2__20), .ref sgrn, .ref sgrs, .ref sgcc, .ref sgec, .ref sgcs, .ref sgce, .ref sghg, .ref sgop, .ref sgod, .int (zI scz2__21)])), rl sgsn cJ 12 ssn2__31, ri sgac cI 12 sac2__32, ri sgic cI 12 sic2__33, rl sgan cJ 72 san2__34, ri sgih cZ 72 sih2__35, ri sgrk cI 72 srk2__36, rl sgrn cJ 30 srn2__37, ri sgrs cI 120 srs2__38, ri sgcc cI 30 scc2__39, ri sgec cI 30 sec2__40, ri sgcs cI 720 scs2__41, ri sgce cI 720 sce2__42, ri sghg cI 720 shgs2__43, ri sgop cI 3000 sop2__44, ri sgod cI 3000 sod2__45, (tg, .inr (4, [.int (zI tg_size), .ref trr, .ref tra, .ref trp, .ref tro, .ref trc])), ri trr cI 200 Rtrr, ri tra cI 200 Rtra, ri trp cI 200 Rtrp, ri tro cI 200 Rtro, ri trc cI 600 Rtrc, (tsp, .inr (4, [.int (zI tsp_size), .ref strr, .ref stra, .ref strp, .ref stro, .ref strc])), ri strr cI 200 Rstrr, ri stra cI 200 Rstra, ri strp cI 200 Rstrp, ri stro cI 200 Rstro, ri strc cI 600 Rstrc, (tk, .inr (3, [.ref dtp, .int (zI tn_), .int (zI be2__2), .int (zI ki2__3), .int (zI at2__4), .long (lI nm2__5), .long (lI nu2__6)])), (gd, .inr (2, [.ref tk, .ref xr, .ref gs, .int (zI st2__7), .int (zI ri2__8), .int (zI tp2__9), .int (zI ts2__10)])), (xr, .inr (0, [.ref tk, .ref xg2_27, .int (zI xru2__11), .int (zI xta2__12), .int (zI xst2__13), .int (zI xtc2__14), .int (zI xop2__15), .ref gwt, .int (zI xwc2__16), .int (zI xoc2__17), .int (zI xic2__18)])), ri gwt cI 40 wt2__30, (tr, .inr (5, [.ref tk, .ref trgg, .ref trtt, .int (zI tr_state), .int (zI tr_here), .int (zI tr_depth), .ref trf])), ri trf cI 200 Rtrf, (wy, .inr (6, [.ref wpl, .ref wpr, .int (zI tl2__26), .ref wgr, .ref wgc, .ref wer, .ref wco, .ref gr, .ref whg, .ref wht, .ref wir, .ref wro, .ref wta, .ref wfi, .ref wsp])), ri wpl cI 12 pl2__48, ri wpr cZ 30 pr2__49, ri wgr cI 6144 gg2__50, ri wgc cI 12 gc2__51, ri wer cZ 30 er2__52, ri wco cZ 30 co2__53, ri whg cZ 6144 hg2__54, ri wht cZ 12 ht2__55, ri wir cZ 12 ir2__56, ri wro cI 24 ro2__57, ri wta cI 90 tn2__58, ri wfi cI 3 fi2__59, ri wsp cI 3 sp2__60, (wk, .inr (7, [.ref kno, .ref kor, .int (zI wk_orderSize), .ref gr, .ref tg, .ref kst, .ref kwy, .ref kba, .ref keq, .ref kca, .int (zI wk_wayLength), .ref kva, .ref kbd, .int (zI wk_valueCount)])), ri kno cI 1200 no2__47, ri kor cI 1200 Rkor, ri kst cI 1200 ks2__46, ri kwy cI 1200 Rkwy, ri kba cI 1200 Rkba, ri keq cI 1200 Rkeq, ri kca cI 1200 Rkca, ri kva cI 40 Rkva, ri kbd cZ 40 Rkbd, (mo, .inr (9, [.ref mtp, .int (zI 0), .ref mtx, .int (zI len2__189), .ref mfo, .int (zI mo_formerLength), .int (zI mo_hasGrammar), .int (zI at2__190), .int (zI tk2__191), .int (zI so2__192), .long (lI to2__193), .int (zI wr2__194), .int (zI wa2__195), .int (zI fa2__196), .int (zI fp2__197), .int (zI nes2__207), .int (zI sy2__212), .ref msn, .ref mac, .ref man, .ref mih, .int (zI rul2__211), .ref mrn, .ref mcc, .ref mrs, .ref mec, .ref mef, .ref meo, .ref mem, .int (zI ors2__205), .ref mor, .ref moo, .int (zI ocs2__206), .ref mop, .ref moa, .int (zI ock2__203), .int (zI oca2__204), .int (zI frm2__209), .ref mfr, .ref mff, .int (zI tks2__208), .int (zI mde2__210), .int (zI mo_nodes), .ref mnr, .ref mna, .ref mnp, .ref mno, .ref mnc, .int (zI mo_newNodes), .ref mwr, .ref mwa, .ref mwp, .ref mwo, .ref mwm, .ref mwc, .ref mcb, .ref mcm, .ref mia, .int (zI lg2__202), .ref mhg, .ref mgr, .ref mpl, .ref mrp, .ref mir, .ref mre, .ref mch, .int (zI 0), .ref mfs, .int (zI mo_worked), .ref mwk, .ref miw, .ref mib, .ref mnu, .ref mig, .int (zI mo_waits), .ref mwf, .ref mwx, .int (zI mo_top), .ref mst, .ref msb])), ri mtp cB 3000 Rdtp, ri mtx cB 3000 tx2__213, ri mfo cB 3000 fo2__214, rl msn cJ 12 sn2__215, ri mac cI 12 ac2__216, rl man cJ 72 an2__217, ri mih cZ 72 ih2__218, rl mrn cJ 30 rn2__219, ri mcc cI 30 cc2__220, ri mrs cI 120 rs2__221, ri mec cI 30 qc2__223, ri mef cI 720 ef2__222, ri meo cI 720 eo2__224, ri mem cI 720 em2__225, ri mor cI 4000 or2__226, ri moo cI 4000 oo2__227, ri mop cI 3000 op2__228, ri moa cI 3000 oa2__229, ri mfr cI 120 fr2__230, ri mff cI 120 ff2__231, ri mnr cI 200 Rmnr, ri mna cI 200 Rmna, ri mnp cI 200 Rmnp, ri mno cI 200 Rmno, ri mnc cI 800 Rmnc, ri mwr cI 200 Rmwr, ri mwa cI 200 Rmwa, ri mwp cI 200 Rmwp, ri mwo cI 200 Rmwo, ri mwm cI 200 Rmwm, ri mwc cI 800 Rmwc, ri mcb cZ 12 cb2__240, ri mcm cZ 30 cm2__241, ri mia cZ 12 ia2__242, ri mhg cZ 6144 hg2__235, ri mgr cI 12 gc2__234, ri mpl cI 12 pl2__238, ri mrp cZ 30 rp2__239, ri mir cZ 30 ir2__236, ri mre cI 24 re2__232, ri mch cI 4 ch2__233, ri mfs cI 2100 fs2__237, ri mwk cI 1200 Rmwk, ri miw cZ 1200 Rmiw, ri mib cZ 1200 Rmib, ri mnu cI 1200 Rmnu, ri mig cZ 1200 Rmig, ri mwf cI 1200 Rmwf, ri mwx cI 1200 Rmwx, ri mst cI 60 Rmst, ri msb cZ 60 Rmsb]) [55, 57, 0, 1, 2, 3, 4, 5, 6, 7, 8, 9, 10, 11, 12, 13, 14, 15, 61, 62, 63, 64, 65, 66, 67, 68, 69, 70, 71, 72, 73, 74, 75, 76, 77, 16, 17, 18, 19, 20, 21, 22, 23, 24, 25, 26, 56, 58, 59, 60, 27, 28, 82, 83, 84, 85, 86, 87, 88, 89, 90, 91, 92, 93, 94, 95, 78, 81, 80, 79, 29, 30, 31, 32, 33, 34, 96, 98, 97, 99, 100, 101, 102, 103, 104, 105, 106, 108, 107, 109, 110, 111, 112, 113, 114, 115, 116, 35, 36, 37, 38, 39, 40, 41, 42, 43, 44, 45, 125, 126, 127, 120, 119, 123, 124, 121, 117, 118, 122, 46, 47, 48, 49, 50, 51, 52, 53, 54] rfl
      have hD := hD.sub (ws' := [(dk, .inr (8, [.ref dtp, .int (zI 0), .ref gr, .ref gs, .ref tg, .ref tsp, .ref tk, .ref gd, .ref tr, .ref wy, .ref wk, .int (zI lf2__22), .int (zI at2__4)])), ri dtp cB 3000 Rdtp, (gr, .inr (1, [.int (zI gr_symbolCount), .ref gsn, .ref gac, .ref gic, .ref gan, .ref gih, .ref grk, .int (zI gr_ruleCount), .ref grn, .ref grs, .ref gcc, .ref gec, .ref gcs, .ref gce, .ref ghg, .ref gop, .ref god, .int (zI gr_codeSize)])), rl gsn cJ 12 Rgsn, ri gac cI 12 Rgac, ri gic cI 12 Rgic, rl gan cJ 72 Rgan, ri gih cZ 72 Rgih, ri grk cI 72 Rgrk, rl grn cJ 30 Rgrn, ri grs cI 120 Rgrs, ri gcc cI 30 Rgcc, ri gec cI 30 Rgec, ri gcs cI 720 Rgcs, ri gce cI 720 Rgce, ri ghg cI 720 Rghg, ri gop cI 3000 Rgop, ri god cI 3000 Rgod, (gs, .inr (1, [.int (zI ssc2__19), .ref sgsn, .ref sgac, .ref sgic, .ref sgan, .ref sgih, .ref sgrk, .int (zI src2__20), .ref sgrn, .ref sgrs, .ref sgcc, .ref sgec, .ref sgcs, .ref sgce, .ref sghg, .ref sgop, .ref sgod, .int (zI scz2__21)])), rl sgsn cJ 12 ssn2__31, ri sgac cI 12 sac2__32, ri sgic cI 12 sic2__33, rl sgan cJ 72 san2__34, ri sgih cZ 72 sih2__35, ri sgrk cI 72 srk2__36, rl sgrn cJ 30 srn2__37, ri sgrs cI 120 srs2__38, ri sgcc cI 30 scc2__39, ri sgec cI 30 sec2__40, ri sgcs cI 720 scs2__41, ri sgce cI 720 sce2__42, ri sghg cI 720 shgs2__43, ri sgop cI 3000 sop2__44, ri sgod cI 3000 sod2__45, (tg, .inr (4, [.int (zI tg_size), .ref trr, .ref tra, .ref trp, .ref tro, .ref trc])), ri trr cI 200 Rtrr, ri tra cI 200 Rtra, ri trp cI 200 Rtrp, ri tro cI 200 Rtro, ri trc cI 600 Rtrc, (tsp, .inr (4, [.int (zI tsp_size), .ref strr, .ref stra, .ref strp, .ref stro, .ref strc])), ri strr cI 200 Rstrr, ri stra cI 200 Rstra, ri strp cI 200 Rstrp, ri stro cI 200 Rstro, ri strc cI 600 Rstrc, (tk, .inr (3, [.ref dtp, .int (zI tn_), .int (zI be2__2), .int (zI ki2__3), .int (zI at2__4), .long (lI nm2__5), .long (lI nu2__6)])), (gd, .inr (2, [.ref tk, .ref xr, .ref gs, .int (zI st2__7), .int (zI ri2__8), .int (zI tp2__9), .int (zI ts2__10)])), (xr, .inr (0, [.ref tk, .ref xg2_27, .int (zI xru2__11), .int (zI xta2__12), .int (zI xst2__13), .int (zI xtc2__14), .int (zI xop2__15), .ref gwt, .int (zI xwc2__16), .int (zI xoc2__17), .int (zI xic2__18)])), ri gwt cI 40 wt2__30, (tr, .inr (5, [.ref tk, .ref trgg, .ref trtt, .int (zI tr_state), .int (zI tr_here), .int (zI tr_depth), .ref trf])), ri trf cI 200 Rtrf, (wy, .inr (6, [.ref wpl, .ref wpr, .int (zI tl2__26), .ref wgr, .ref wgc, .ref wer, .ref wco, .ref gr, .ref whg, .ref wht, .ref wir, .ref wro, .ref wta, .ref wfi, .ref wsp])), ri wpl cI 12 pl2__48, ri wpr cZ 30 pr2__49, ri wgr cI 6144 gg2__50, ri wgc cI 12 gc2__51, ri wer cZ 30 er2__52, ri wco cZ 30 co2__53, ri whg cZ 6144 hg2__54, ri wht cZ 12 ht2__55, ri wir cZ 12 ir2__56, ri wro cI 24 ro2__57, ri wta cI 90 tn2__58, ri wfi cI 3 fi2__59, ri wsp cI 3 sp2__60, (wk, .inr (7, [.ref kno, .ref kor, .int (zI wk_orderSize), .ref gr, .ref tg, .ref kst, .ref kwy, .ref kba, .ref keq, .ref kca, .int (zI wk_wayLength), .ref kva, .ref kbd, .int (zI wk_valueCount)])), ri kno cI 1200 no2__47, ri kor cI 1200 Rkor, ri kst cI 1200 ks2__46, ri kwy cI 1200 Rkwy, ri kba cI 1200 Rkba, ri keq cI 1200 Rkeq, ri kca cI 1200 Rkca, ri kva cI 40 Rkva, ri kbd cZ 40 Rkbd, (mo, .inr (9, [.ref mtp, .int (zI 0), .ref mtx, .int (zI len2__189), .ref mfo, .int (zI mo_formerLength), .int (zI mo_hasGrammar), .int (zI at2__190), .int (zI tk2__191), .int (zI so2__192), .long (lI to2__193), .int (zI wr2__194), .int (zI wa2__195), .int (zI fa2__196), .int (zI fp2__197), .int (zI nes2__207), .int (zI sy2__212), .ref msn, .ref mac, .ref man, .ref mih, .int (zI rul2__211), .ref mrn, .ref mcc, .ref mrs, .ref mec, .ref mef, .ref meo, .ref mem, .int (zI ors2__205), .ref mor, .ref moo, .int (zI ocs2__206), .ref mop, .ref moa, .int (zI ock2__203), .int (zI oca2__204), .int (zI frm2__209), .ref mfr, .ref mff, .int (zI tks2__208), .int (zI mde2__210), .int (zI mo_nodes), .ref mnr, .ref mna, .ref mnp, .ref mno, .ref mnc, .int (zI mo_newNodes), .ref mwr, .ref mwa, .ref mwp, .ref mwo, .ref mwm, .ref mwc, .ref mcb, .ref mcm, .ref mia, .int (zI lg2__202), .ref mhg, .ref mgr, .ref mpl, .ref mrp, .ref mir, .ref mre, .ref mch, .int (zI 0), .ref mfs, .int (zI mo_worked), .ref mwk, .ref miw, .ref mib, .ref mnu, .ref mig, .int (zI mo_waits), .ref mwf, .ref mwx, .int (zI mo_top), .ref mst, .ref msb])), ri mtp cB 3000 Rdtp, ri mtx cB 3000 tx2__213, ri mfo cB 3000 fo2__214, rl msn cJ 12 sn2__215, ri mac cI 12 ac2__216, rl man cJ 72 an2__217, ri mih cZ 72 ih2__218, rl mrn cJ 30 rn2__219, ri mcc cI 30 cc2__220, ri mrs cI 120 rs2__221, ri mec cI 30 qc2__223, ri mef cI 720 ef2__222, ri meo cI 720 eo2__224, ri mem cI 720 em2__225, ri mor cI 4000 or2__226, ri moo cI 4000 oo2__227, ri mop cI 3000 op2__228, ri moa cI 3000 oa2__229, ri mfr cI 120 fr2__230, ri mff cI 120 ff2__231, ri mnr cI 200 Rmnr, ri mna cI 200 Rmna, ri mnp cI 200 Rmnp, ri mno cI 200 Rmno, ri mnc cI 800 Rmnc, ri mwr cI 200 Rmwr, ri mwa cI 200 Rmwa, ri mwp cI 200 Rmwp, ri mwo cI 200 Rmwo, ri mwm cI 200 Rmwm, ri mwc cI 800 Rmwc, ri mcb cZ 12 cb2__240, ri mcm cZ 30 cm2__241, ri mia cZ 12 ia2__242, ri mhg cZ 6144 hg2__235, ri mgr cI 12 gc2__234, ri mpl cI 12 pl2__238, ri mrp cZ 30 rp2__239, ri mir cZ 30 ir2__236, ri mre cI 24 re2__232, ri mch cI 4 ch2__233, ri mfs cI 2100 fs2__237, ri mwk cI 1200 Rmwk, ri miw cZ 1200 Rmiw, ri mib cZ 1200 Rmib, ri mnu cI 1200 Rmnu, ri mig cZ 1200 Rmig, ri mwf cI 1200 Rmwf, ri mwx cI 1200 Rmwx, ri mst cI 60 Rmst, ri msb cZ 60 Rmsb]) [55, 57, 0, 1, 2, 3, 4, 5, 6, 7, 8, 9, 10, 11, 12, 13, 14, 15, 61, 62, 63, 64, 65, 66, 67, 68, 69, 70, 71, 72, 73, 74, 75, 76, 77, 16, 17, 18, 19, 20, 21, 22, 23, 24, 25, 26, 56, 58, 59, 60, 27, 28, 82, 83, 84, 85, 86, 87, 88, 89, 90, 91, 92, 93, 94, 95, 78, 81, 80, 79, 29, 30, 31, 32, 33, 34, 96, 98, 97, 99, 100, 101, 102, 103, 104, 105, 106, 108, 107, 109, 110, 111, 112, 113, 114, 115, 116, 35, 36, 37, 38, 39, 40, 41, 42, 43, 44, 45, 125, 126, 127, 120, 119, 123, 124, 121, 117, 118, 122, 46, 47, 48, 49, 50, 51, 52, 53, 54] (by decide +kernel) rfl
      exact hnx dk dtp gr gsn gac gic gan gih grk grn grs gcc gec gcs gce ghg gop god gs sgsn sgac sgic sgan sgih sgrk sgrn sgrs sgcc sgec sgcs sgce sghg sgop sgod tg trr tra trp tro trc tsp strr stra strp stro strc tk gd xr gwt tr trf wy wpl wpr wgr wgc wer wco whg wht wir wro wta wfi wsp wk kno kor kst kwy kba keq kca kva kbd mo mtp mtx mfo msn mac man mih mrn mcc mrs mec mef meo mem mor moo mop moa mfr mff mnr mna mnp mno mnc mwr mwa mwp mwo mwm mwc mcb mcm mia mhg mgr mpl mrp mir mre mch mfs mwk miw mib mnu mig mwf mwx mst msb gs xg2_27 trgg trtt 0 lf2__22 at2__4 gr_symbolCount gr_ruleCount gr_codeSize ssc2__19 src2__20 scz2__21 tg_size tsp_size tn_ be2__2 ki2__3 at2__4 nm2__5 nu2__6 st2__7 ri2__8 tp2__9 ts2__10 xru2__11 xta2__12 xst2__13 xtc2__14 xop2__15 xwc2__16 xoc2__17 xic2__18 tr_state tr_here tr_depth tl2__26 wk_orderSize wk_wayLength wk_valueCount len2__189 mo_formerLength mo_hasGrammar at2__190 tk2__191 so2__192 to2__193 wr2__194 wa2__195 fa2__196 fp2__197 nes2__207 sy2__212 rul2__211 ors2__205 ocs2__206 ock2__203 oca2__204 frm2__209 tks2__208 mde2__210 mo_nodes mo_newNodes lg2__202 mo_worked mo_waits mo_top Rdtp Rgsn Rgac Rgic Rgan Rgih Rgrk Rgrn Rgrs Rgcc Rgec Rgcs Rgce Rghg Rgop Rgod ssn2__31 sac2__32 sic2__33 san2__34 sih2__35 srk2__36 srn2__37 srs2__38 scc2__39 sec2__40 scs2__41 sce2__42 shgs2__43 sop2__44 sod2__45 Rtrr Rtra Rtrp Rtro Rtrc Rstrr Rstra Rstrp Rstro Rstrc wt2__30 Rtrf pl2__48 pr2__49 gg2__50 gc2__51 er2__52 co2__53 hg2__54 ht2__55 ir2__56 ro2__57 tn2__58 fi2__59 sp2__60 no2__47 Rkor ks2__46 Rkwy Rkba Rkeq Rkca Rkva Rkbd tx2__213 fo2__214 sn2__215 ac2__216 an2__217 ih2__218 rn2__219 cc2__220 rs2__221 qc2__223 ef2__222 eo2__224 em2__225 or2__226 oo2__227 op2__228 oa2__229 fr2__230 ff2__231 Rmnr Rmna Rmnp Rmno Rmnc Rmwr Rmwa Rmwp Rmwo Rmwm Rmwc cb2__240 cm2__241 ia2__242 hg2__235 gc2__234 pl2__238 rp2__239 ir2__236 re2__232 ch2__233 fs2__237 Rmwk Rmiw Rmib Rmnu Rmig Rmwf Rmwx Rmst Rmsb (by omega) p8_69 p9_70 p4_65 p15_76 f_os f_vc f_wl f_ts f_tss f_tbk p3_64 f_pkk p5_66 p6_67 p14_75 f_btp f_bod f_bec f_bhg f_brk f_btrr f_btra f_btrp f_btro f_btrc f_bstrr f_bstra f_bstrp f_bstro f_bstrc f_btrf p18_79 p19_80 p20_81 p21_82 p22_83 p23_84 p24_85 p25_86 p26_87 p27_88 p28_89 p29_90 p30_91 p17_78 f_bkor p16_77 f_bkwy f_bkba f_bkeq f_bkca f_bkva f_bkbd p9_252 p10_253 p11_254 p12_255 p13_256 p14_257 p15_258 p16_259 p17_260 p19_262 p18_261 p20_263 p21_264 p22_265 p23_266 p24_267 p25_268 p26_269 p27_270 f_bmnr f_bmna f_bmnp f_bmno f_bmnc f_bmwr f_bmwa f_bmwp f_bmwo f_bmwm f_bmwc p36_279 p37_280 p38_281 p31_274 p30_273 p34_277 p35_278 p32_275 p28_271 p29_272 p33_276 f_bmwk f_bmiw f_bmib f_bmnu f_bmig f_bmwf f_bmwx f_bmst f_bmsb f_hg f_fl p7_250 p5_248 p4_247 f_no f_wo p6_249 p1_244 p2_245 (tri_keep f_hg f_tri f_hg0 (fun z => (himp1.to z).2) f_cc) f_hg0 f_kig f_kw f_rg ⟨S1, fun z => ⟨(hS1.to z).1, (hS1.to z).2.1.trans (himp1.to z).2.1, (hS1.to z).2.2.1.trans (himp1.to z).2.2.1, (kfin_re hfo9 (hS1.to z).2.2.2 (himp1.to z).1).2.2⟩⟩ f_sz f_teq ⟨(res_det hres (hrf9 (fun _ _ => 0))).1, (res_det hres (hrf9 (fun _ _ => 0))).2.1 hlf9⟩ _ _ hP hD hS _ (lv_sub hl [0, 1, 2, 3] rfl)
