/-! an expression: its start, its end, an occurrence -/
section EL3
variable {tx : Int → Int} {n : Int} {S0 : Nat → Int → Int} {tok hd v1 v2 v3 sc rc tc k ne : Int} {msn mac man mih mrn mcc mrs mef fr ff : Int → Int}
variable {sn ac ic an ih rn rs cc cs : Int → Int}
theorem trl_cs {v f0 : Int} (ht : TRL hd sc rc sn ac ic an ih rn rs cc cs msn mac man mih mrn mcc mrs mef) (h0 : 0 ≤ f0) : TRL hd sc rc sn ac ic an ih rn rs cc (zU cs v 0) msn mac man mih mrn mcc mrs (zU mef v f0) := by
  obtain ⟨⟨b1, b2⟩, q1, q2, q3, q4, q5, q6, q6d, q7, q8⟩ := ht
  refine ⟨⟨b1, b2⟩, q1, q2, q3, q4, q5, q6, q6d, q7, ?_⟩
  intro r p hr hp
  by_cases z : 24 * r + p = v
  · rw [z, zU_s, zU_s]
    omega
  · rw [zU_n z, zU_n z]
    exact q8 r p hr hp
theorem e_start_bad (h : RSt tx n S0 13 tok hd v1 v2 v3 sc rc msn mac man mih mrn mcc mrs mef) (hs : ¬ (kMS tx n tok = 4 ∧ kMT tx n tok = 61)) : RF tx n S0 1 tok := by
  obtain ⟨ri, tp, ts, be, xst, tc, xop, wc, sn, ac, ic, an, ih, rn, rs, cc, cs, wt, hc, hbe, htok, ht, w1, w2, w3⟩ := h
  obtain ⟨t1, t3, t0, tw, tsg, tn, td⟩ := tk_all tx n tok
  have k61 := tsg 61 (by decide)
  intro e
  have stp := (show STEP tx n (mkS 13 ri tp ts be sc rc xst tc xop wc sn ac ic an ih rn rs cc cs wt) 1 (mkS 13 ri tp ts (kBA tx n tok) sc rc 0 0 xop 0 sn ac ic an ih rn rs cc (zU cs ts 0) wt) from by
    subst htok
    exact ⟨rfl, Or.inr (Or.inr ⟨rfl, ⟨rfl, rfl, rfl, rfl, rfl, rfl, rfl, rfl, rfl, rfl, rfl, rfl, rfl, rfl, rfl⟩, ⟨rfl, rfl, rfl, rfl⟩, Or.inr ⟨rfl, fun z => hs (k61.mpr z), rfl⟩⟩)⟩)
  have z := hc _ _ _ (res_bad stp (by decide) e)
  rw [htok]
  exact z
theorem e_start (h : RSt tx n S0 13 tok rc v1 v2 v3 sc rc msn mac man mih mrn mcc mrs mef) (hs : (kMS tx n tok = 4 ∧ kMT tx n tok = 61)) : EXR tx n S0 0 (nxT tx n tok) sc rc v3 0 msn mac man mih mrn mcc mrs mef 0 fr ff 0 := by
  obtain ⟨ri, tp, ts, be, xst, tc, xop, wc, sn, ac, ic, an, ih, rn, rs, cc, cs, wt, hc, hbe, htok, ht, w1, w2, w3⟩ := h
  obtain ⟨t1, t3, t0, tw, tsg, tn, td⟩ := tk_all tx n tok
  have k61 := tsg 61 (by decide)
  obtain rfl := w3 rfl
  have stp := (show STEP tx n (mkS 13 ri tp ts be sc rc xst tc xop wc sn ac ic an ih rn rs cc cs wt) 0 (mkS 14 ri tp ts (kBA tx n tok) sc rc 0 0 xop 0 sn ac ic an ih rn rs cc (zU cs ts 0) wt) from by
    subst htok
    exact ⟨rfl, Or.inr (Or.inr ⟨rfl, ⟨rfl, rfl, rfl, rfl, rfl, rfl, rfl, rfl, rfl, rfl, rfl, rfl, rfl, rfl, rfl⟩, ⟨rfl, rfl, rfl, rfl⟩, Or.inl ⟨rfl, k61.mp hs, rfl⟩⟩)⟩)
  have g := kRun_in (pq := isBl) (tx := tx) (n := n) (a := be) hbe.2
  have g2 := kBA_rng (tx := tx) (n := n) (a := tok) (by omega)
  refine ⟨ri, tp, ts, kBA tx n tok, 0, xop, 0, sn, ac, ic, an, ih, rn, rs, cc, cs, wt, chn_tr hc (chn_st stp (fun z => absurd z (by decide : ¬ (14 : Int) = 15))), ⟨by omega, g2.2.1⟩, rfl, ht, ⟨fun i hi => by omega, fun i hi => by omega, fun i hi => by omega⟩, rfl, by omega, Or.inl ⟨rfl, rfl, rfl, ?_⟩⟩
  unfold kTop
  rw [if_neg (by decide)]
  decide
theorem e_fin {f0 u1 u2 u3 : Int} (h : EXR tx n S0 3 tok sc rc v3 tc msn mac man mih mrn mcc mrs mef 0 fr ff ne) (hs : (kMS tx n tok = 4 ∧ kMT tx n tok = 59)) (h0 : 0 ≤ f0) : RSt tx n S0 9 (nxT tx n tok) rc u1 u2 u3 sc rc msn mac man mih mrn mcc mrs (zU mef v3 f0) := by
  obtain ⟨ri, tp, ts, be, xst, xop, wc, sn, ac, ic, an, ih, rn, rs, cc, cs, wt, hc, hbe, htok, ht, hfr, hne, hk, hp⟩ := h
  obtain ⟨t1, t3, t0, tw, tsg, tn, td⟩ := tk_all tx n tok
  have k59 := tsg 59 (by decide)
  obtain ⟨rfl, hw0, hpw, htop, ho⟩ : xst = 3 ∧ 0 ≤ wc ∧ kPop wt 1 wc = kPop wt 1 0 ∧ kBn (kTop wt 0) ≤ 1 ∧ ¬ OPT tx n tok := by
    rcases hp with hp | hp | hp | hp | hp
    all_goals first | exact hp.2 | (have z := hp.1; omega)
  have g := kRun_in (pq := isBl) (tx := tx) (n := n) (a := be) hbe.2
  have g2 := kBA_rng (tx := tx) (n := n) (a := tok) (by omega)
  have p0 : kPop wt 1 0 = 0 := kPop_0 rfl
  have stp : STEP tx n (mkS 14 ri tp ts be sc rc 3 tc xop wc sn ac ic an ih rn rs cc (zU cs v3 0) wt) 0 (mkS 9 ri tp ts (kBA tx n tok) sc rc 3 tc xop 0 sn ac ic an ih rn rs cc (zU cs v3 0) wt) := stp_x (ic2 := 1) (Or.inr (Or.inr (Or.inr ⟨rfl, rfl, (Or.inr (Or.inr (Or.inr (Or.inr (Or.inr (Or.inr (Or.inl (⟨by omega, ⟨rfl, rfl, rfl⟩, Or.inr ⟨rfl, by omega, rfl, rfl⟩⟩))))))))⟩))) (fun _ => (if_pos rfl).symm) htok
  exact ⟨ri, tp, ts, kBA tx n tok, 3, tc, xop, 0, sn, ac, ic, an, ih, rn, rs, cc, zU cs v3 0, wt, chn_tr hc (chn_st stp (fun z => absurd z (by decide : ¬ (9 : Int) = 15))), ⟨by omega, g2.2.1⟩, rfl, trl_cs ht h0, fun z => absurd z (by decide), fun z => absurd z (by decide), fun z => absurd z (by decide)⟩
def EXO (tx : Int → Int) (n : Int) (S0 : Nat → Int → Int) (xs tok sc rc v3 tc xp : Int) (msn mac man mih mrn mcc mrs mef : Int → Int) (k : Int) (fr ff : Int → Int) (ne : Int) : Prop :=
  ∃ (ri tp ts be wc : Int) (sn ac ic an ih rn rs cc cs wt : Int → Int), CHN tx n S0 (mkS 14 ri tp ts be sc rc xs tc xp wc sn ac ic an ih rn rs cc (zU cs v3 0) wt) ∧ (0 ≤ be ∧ be ≤ n) ∧ tok = kRun isBl tx n be ∧ TRL rc sc rc sn ac ic an ih rn rs cc cs msn mac man mih mrn mcc mrs mef ∧ FRS wt fr ff k ∧ ne = kOc wt k ∧ (0 ≤ k ∧ k ≤ tc ∧ tc ≤ 40) ∧ wc = k
theorem dot_tok {a : Int} (hd : a < n ∧ tx a = 46) : kMS tx n a = 4 ∧ kMT tx n a = 46 := by
  have q : ¬ isLt (tx a) = true := fun z => by have z1 := isLt_t.mp z; omega
  have q2 : ¬ isDg (tx a) = true := fun z => by have z1 := isDg_t.mp z; omega
  have z := mA_oth (tx := tx) hd.1 q q2
  rw [if_pos (isSg_t.mpr (by omega))] at z
  omega
theorem o_bad3 (h : EXR tx n S0 1 tok sc rc v3 tc msn mac man mih mrn mcc mrs mef k fr ff ne) (hs : kMS tx n tok = 3) (hd2 : nxT tx n tok < n ∧ tx (nxT tx n tok) = 46) (hrc : 1 ≤ rc) (hb : mcc (rc - 1) < kMT tx n tok) : RF tx n S0 3 tok := by
  obtain ⟨ri, tp, ts, be, xst, xop, wc, sn, ac, ic, an, ih, rn, rs, cc, cs, wt, hc, hbe, htok, ht, hfr, hne, hk, hp⟩ := h
  obtain ⟨t1, t3, t0, tw, tsg, tn, td⟩ := tk_all tx n tok
  have g2 := td hs
  have c9 := ht.2.2.2.2.2.2.1 (rc - 1) (by have z := ht.1.2; omega)
  obtain ⟨rfl, rfl, hb9⟩ : xst = 0 ∧ wc = k ∧ (kBn (kTop wt k) ≤ 1 → ¬ (kMS tx n tok = 2 ∧ kMT tx n tok = 6)) := by
    rcases hp with hp | hp | hp | hp | hp
    all_goals first | exact hp.2 | (have z := hp.1; omega)
  exact rf_x (xst2 := 3) (tc2 := tc) (xop2 := xop) (wt2 := wt) (wc2 := wc) (ic2 := 0) hc (Or.inl ⟨rfl, rfl, (Or.inl ⟨by omega, hd2, ⟨rfl, rfl⟩, Or.inl ⟨rfl, by omega⟩⟩)⟩) htok (by decide)
theorem o_bad4 (h : EXR tx n S0 1 tok sc rc v3 tc msn mac man mih mrn mcc mrs mef k fr ff ne) (hs : kMS tx n tok = 3) (hd2 : nxT tx n tok < n ∧ tx (nxT tx n tok) = 46) (hrc : 1 ≤ rc) (hb : kMT tx n tok ≤ mcc (rc - 1)) (hb4 : 40 ≤ tc) : RF tx n S0 4 tok := by
  obtain ⟨ri, tp, ts, be, xst, xop, wc, sn, ac, ic, an, ih, rn, rs, cc, cs, wt, hc, hbe, htok, ht, hfr, hne, hk, hp⟩ := h
  obtain ⟨t1, t3, t0, tw, tsg, tn, td⟩ := tk_all tx n tok
  have g2 := td hs
  have c9 := ht.2.2.2.2.2.2.1 (rc - 1) (by have z := ht.1.2; omega)
  obtain ⟨rfl, rfl, hb9⟩ : xst = 0 ∧ wc = k ∧ (kBn (kTop wt k) ≤ 1 → ¬ (kMS tx n tok = 2 ∧ kMT tx n tok = 6)) := by
    rcases hp with hp | hp | hp | hp | hp
    all_goals first | exact hp.2 | (have z := hp.1; omega)
  exact rf_x (xst2 := 3) (tc2 := tc) (xop2 := xop) (wt2 := wt) (wc2 := wc) (ic2 := 0) hc (Or.inl ⟨rfl, rfl, (Or.inl ⟨by omega, hd2, ⟨rfl, rfl⟩, Or.inr (Or.inl ⟨rfl, by omega, by omega⟩)⟩)⟩) htok (by decide)
theorem o_num (h : EXR tx n S0 1 tok sc rc v3 tc msn mac man mih mrn mcc mrs mef k fr ff ne) (hs : kMS tx n tok = 3) (hd2 : nxT tx n tok < n ∧ tx (nxT tx n tok) = 46) (hrc : 1 ≤ rc) (hb : kMT tx n tok ≤ mcc (rc - 1)) (hb4 : ¬ 40 ≤ tc) : EXO tx n S0 1 (nxT tx n tok) sc rc v3 (tc + 1) (kMT tx n tok) msn mac man mih mrn mcc mrs mef k fr ff ne := by
  obtain ⟨ri, tp, ts, be, xst, xop, wc, sn, ac, ic, an, ih, rn, rs, cc, cs, wt, hc, hbe, htok, ht, hfr, hne, hk, hp⟩ := h
  obtain ⟨t1, t3, t0, tw, tsg, tn, td⟩ := tk_all tx n tok
  have g2 := td hs
  have c9 := ht.2.2.2.2.2.2.1 (rc - 1) (by have z := ht.1.2; omega)
  obtain ⟨rfl, rfl, hb9⟩ : xst = 0 ∧ wc = k ∧ (kBn (kTop wt k) ≤ 1 → ¬ (kMS tx n tok = 2 ∧ kMT tx n tok = 6)) := by
    rcases hp with hp | hp | hp | hp | hp
    all_goals first | exact hp.2 | (have z := hp.1; omega)
  have g := kRun_in (pq := isBl) (tx := tx) (n := n) (a := be) hbe.2
  have g2b := kBA_rng (tx := tx) (n := n) (a := tok) (by omega)
  have stp := stp_x (ri := ri) (tp := tp) (ts := ts) (sc := sc) (sn := sn) (ic := ic) (ih := ih) (rn := rn) (cs := zU cs v3 0) (ic2 := 0) (r := 0) (st2 := 14) (xst2 := 1) (tc2 := (tc + 1)) (xop2 := (kMT tx n tok)) (wt2 := wt) (wc2 := wc) (rs := rs) (ac := ac) (an := an) (cc := cc) (rc := rc) (xst := 0) (xop := xop) (wc := wc) (tc := tc) (wt := wt) (Or.inl ⟨rfl, rfl, (Or.inl ⟨by omega, hd2, ⟨rfl, rfl⟩, Or.inr (Or.inr ⟨rfl, by omega, by omega, rfl, rfl, by omega⟩)⟩)⟩) (fun _ => (if_neg (by decide)).symm) htok
  exact ⟨ri, tp, ts, kBA tx n tok, wc, sn, ac, ic, an, ih, rn, rs, cc, cs, wt, chn_tr hc (chn_st stp (fun z => absurd z (by decide : ¬ (14 : Int) = 15))), ⟨by omega, g2b.2.1⟩, rfl, ht, hfr, hne, by omega, rfl⟩
theorem o_dot4 {xp : Int} (h : EXO tx n S0 1 tok sc rc v3 tc xp msn mac man mih mrn mcc mrs mef k fr ff ne) (hs : (kMS tx n tok = 4 ∧ kMT tx n tok = 46)) (hb4 : 40 ≤ tc) : RF tx n S0 4 tok := by
  obtain ⟨ri, tp, ts, be, wc, sn, ac, ic, an, ih, rn, rs, cc, cs, wt, hc, hbe, htok, ht, hfr, hne, hk, rfl⟩ := h
  obtain ⟨t1, t3, t0, tw, tsg, tn, td⟩ := tk_all tx n tok
  have k46 := tsg 46 (by decide)
  exact rf_x (xst2 := 3) (tc2 := tc) (xop2 := xp) (wt2 := wt) (wc2 := wc) (ic2 := 0) hc (Or.inr (Or.inl ⟨rfl, ⟨rfl, rfl, rfl, rfl⟩, Or.inr (Or.inl ⟨rfl, by omega, by omega⟩)⟩)) htok (by decide)
theorem o_dot {xp : Int} (h : EXO tx n S0 1 tok sc rc v3 tc xp msn mac man mih mrn mcc mrs mef k fr ff ne) (hs : (kMS tx n tok = 4 ∧ kMT tx n tok = 46)) (hb4 : ¬ 40 ≤ tc) : EXO tx n S0 2 (nxT tx n tok) sc rc v3 (tc + 1) xp msn mac man mih mrn mcc mrs mef k fr ff ne := by
  obtain ⟨ri, tp, ts, be, wc, sn, ac, ic, an, ih, rn, rs, cc, cs, wt, hc, hbe, htok, ht, hfr, hne, hk, rfl⟩ := h
  obtain ⟨t1, t3, t0, tw, tsg, tn, td⟩ := tk_all tx n tok
  have k46 := tsg 46 (by decide)
  have g := kRun_in (pq := isBl) (tx := tx) (n := n) (a := be) hbe.2
  have g2b := kBA_rng (tx := tx) (n := n) (a := tok) (by omega)
  have stp := stp_x (ri := ri) (tp := tp) (ts := ts) (sc := sc) (sn := sn) (ic := ic) (ih := ih) (rn := rn) (cs := zU cs v3 0) (ic2 := 0) (r := 0) (st2 := 14) (xst2 := 2) (tc2 := (tc + 1)) (xop2 := xp) (wt2 := wt) (wc2 := wc) (rs := rs) (ac := ac) (an := an) (cc := cc) (rc := rc) (xst := 1) (xop := xp) (wc := wc) (tc := tc) (wt := wt) (Or.inr (Or.inl ⟨rfl, ⟨rfl, rfl, rfl, rfl⟩, Or.inr (Or.inr ⟨rfl, by omega, by omega, rfl, rfl⟩)⟩)) (fun _ => (if_neg (by decide)).symm) htok
  exact ⟨ri, tp, ts, kBA tx n tok, wc, sn, ac, ic, an, ih, rn, rs, cc, cs, wt, chn_tr hc (chn_st stp (fun z => absurd z (by decide : ¬ (14 : Int) = 15))), ⟨by omega, g2b.2.1⟩, rfl, ht, hfr, hne, by omega, rfl⟩
theorem o_nm1 {xp : Int} (h : EXO tx n S0 2 tok sc rc v3 tc xp msn mac man mih mrn mcc mrs mef k fr ff ne) (hs : ¬ kMS tx n tok = 1) : RF tx n S0 1 tok := by
  obtain ⟨ri, tp, ts, be, wc, sn, ac, ic, an, ih, rn, rs, cc, cs, wt, hc, hbe, htok, ht, hfr, hne, hk, rfl⟩ := h
  obtain ⟨t1, t3, t0, tw, tsg, tn, td⟩ := tk_all tx n tok
  exact rf_x (xst2 := 3) (tc2 := tc) (xop2 := xp) (wt2 := wt) (wc2 := wc) (ic2 := 0) hc (Or.inr (Or.inr (Or.inl ⟨rfl, ⟨rfl, rfl, rfl⟩, Or.inl ⟨rfl, by omega⟩⟩))) htok (by decide)
theorem o_nm3 {xp : Int} (h : EXO tx n S0 2 tok sc rc v3 tc xp msn mac man mih mrn mcc mrs mef k fr ff ne) (hs : kMS tx n tok = 1) (hrc : 1 ≤ rc) (hxp : 0 ≤ xp ∧ xp ≤ mcc (rc - 1)) (hf2 : kLst (fun j => man (6 * (mrs (4 * (rc - 1) + xp)) + j)) (mac (mrs (4 * (rc - 1) + xp))) (kMT tx n tok) = -1) : RF tx n S0 3 tok := by
  obtain ⟨ri, tp, ts, be, wc, sn, ac, ic, an, ih, rn, rs, cc, cs, wt, hc, hbe, htok, ht, hfr, hne, hk, rfl⟩ := h
  obtain ⟨t1, t3, t0, tw, tsg, tn, td⟩ := tk_all tx n tok
  have ht0 := ht
  obtain ⟨⟨b1, b2⟩, q1, q2, q3, q4, q5, q6, q6d, q7, q8⟩ := ht
  have c9 := q6 (rc - 1) (by omega)
  have g := q7 (rc - 1) xp (by omega) hxp (by omega)
  have a9 := q1 _ g.2
  have hf : kAtt rs ac an (rc - 1) xp (kCv tx n tok 0) = kLst (fun j => man (6 * (mrs (4 * (rc - 1) + xp)) + j)) (mac (mrs (4 * (rc - 1) + xp))) (kMT tx n tok) := by
    unfold kAtt
    rw [g.1, a9.2.1]
    exact fnd_lst a9.2.2.1 (fun j hj => (q3 _ j g.2 hj).1) (fun j k hj hk e => q4 _ j k g.2 hj hk e) (tn hs)
  exact rf_x (xst2 := 3) (tc2 := tc) (xop2 := xp) (wt2 := wt) (wc2 := wc) (ic2 := 0) hc (Or.inr (Or.inr (Or.inl ⟨rfl, ⟨rfl, rfl, rfl⟩, Or.inr (Or.inl ⟨rfl, by omega, by omega⟩)⟩))) htok (by decide)
theorem o_nm4 {xp : Int} (h : EXO tx n S0 2 tok sc rc v3 tc xp msn mac man mih mrn mcc mrs mef k fr ff ne) (hs : kMS tx n tok = 1) (hrc : 1 ≤ rc) (hxp : 0 ≤ xp ∧ xp ≤ mcc (rc - 1)) (hf2 : 0 ≤ kLst (fun j => man (6 * (mrs (4 * (rc - 1) + xp)) + j)) (mac (mrs (4 * (rc - 1) + xp))) (kMT tx n tok)) (hb4 : 40 ≤ tc) : RF tx n S0 4 tok := by
  obtain ⟨ri, tp, ts, be, wc, sn, ac, ic, an, ih, rn, rs, cc, cs, wt, hc, hbe, htok, ht, hfr, hne, hk, rfl⟩ := h
  obtain ⟨t1, t3, t0, tw, tsg, tn, td⟩ := tk_all tx n tok
  have ht0 := ht
  obtain ⟨⟨b1, b2⟩, q1, q2, q3, q4, q5, q6, q6d, q7, q8⟩ := ht
  have c9 := q6 (rc - 1) (by omega)
  have g := q7 (rc - 1) xp (by omega) hxp (by omega)
  have a9 := q1 _ g.2
  have hf : kAtt rs ac an (rc - 1) xp (kCv tx n tok 0) = kLst (fun j => man (6 * (mrs (4 * (rc - 1) + xp)) + j)) (mac (mrs (4 * (rc - 1) + xp))) (kMT tx n tok) := by
    unfold kAtt
    rw [g.1, a9.2.1]
    exact fnd_lst a9.2.2.1 (fun j hj => (q3 _ j g.2 hj).1) (fun j k hj hk e => q4 _ j k g.2 hj hk e) (tn hs)
  exact rf_x (xst2 := 3) (tc2 := tc) (xop2 := xp) (wt2 := wt) (wc2 := wc) (ic2 := 0) hc (Or.inr (Or.inr (Or.inl ⟨rfl, ⟨rfl, rfl, rfl⟩, Or.inr (Or.inr ⟨by omega, by omega, Or.inl ⟨rfl, by omega⟩⟩)⟩))) htok (by decide)
theorem o_nm {xp : Int} (h : EXO tx n S0 2 tok sc rc v3 tc xp msn mac man mih mrn mcc mrs mef k fr ff ne) (hs : kMS tx n tok = 1) (hrc : 1 ≤ rc) (hxp : 0 ≤ xp ∧ xp ≤ mcc (rc - 1)) (hf2 : 0 ≤ kLst (fun j => man (6 * (mrs (4 * (rc - 1) + xp)) + j)) (mac (mrs (4 * (rc - 1) + xp))) (kMT tx n tok)) (hb4 : ¬ 40 ≤ tc) : EXR tx n S0 2 (nxT tx n tok) sc rc v3 (tc + 1) msn mac man mih mrn mcc mrs mef k fr ff ne := by
  obtain ⟨ri, tp, ts, be, wc, sn, ac, ic, an, ih, rn, rs, cc, cs, wt, hc, hbe, htok, ht, hfr, hne, hk, rfl⟩ := h
  obtain ⟨t1, t3, t0, tw, tsg, tn, td⟩ := tk_all tx n tok
  have ht0 := ht
  obtain ⟨⟨b1, b2⟩, q1, q2, q3, q4, q5, q6, q6d, q7, q8⟩ := ht
  have c9 := q6 (rc - 1) (by omega)
  have g := q7 (rc - 1) xp (by omega) hxp (by omega)
  have a9 := q1 _ g.2
  have hf : kAtt rs ac an (rc - 1) xp (kCv tx n tok 0) = kLst (fun j => man (6 * (mrs (4 * (rc - 1) + xp)) + j)) (mac (mrs (4 * (rc - 1) + xp))) (kMT tx n tok) := by
    unfold kAtt
    rw [g.1, a9.2.1]
    exact fnd_lst a9.2.2.1 (fun j hj => (q3 _ j g.2 hj).1) (fun j k hj hk e => q4 _ j k g.2 hj hk e) (tn hs)
  have lt9 : kLst (fun j => man (6 * (mrs (4 * (rc - 1) + xp)) + j)) (mac (mrs (4 * (rc - 1) + xp))) (kMT tx n tok) < mac (mrs (4 * (rc - 1) + xp)) := by
    rcases kLst_rng (fun j => man (6 * (mrs (4 * (rc - 1) + xp)) + j)) (kMT tx n tok) a9.2.2.1 with z | z <;> omega
  exact ex_x hc (Or.inr (Or.inr (Or.inl ⟨rfl, ⟨rfl, rfl, rfl⟩, Or.inr (Or.inr ⟨by omega, by omega, Or.inr (Or.inr ⟨rfl, by omega, by omega, rfl, rfl, rfl⟩)⟩)⟩))) hbe htok ht0 hfr hne (by omega) (Or.inr (Or.inr (Or.inl ⟨rfl, rfl, rfl⟩)))
end EL3
