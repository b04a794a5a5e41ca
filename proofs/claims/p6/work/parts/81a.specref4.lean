/-! an expression: what waits in the class, and the reference's frames -/
def FRR (w f v : Int) : Prop := (w = 126 ∧ f = 5) ∨ (w = 40 ∧ f = 4) ∨ (w = 9 ∧ f = 1) ∨ (w = 10 ∧ f = 2) ∨ (w = 11 ∧ f = 3) ∨ (f = 6 ∧ v = w ∧ 2 ≤ kBn w ∧ kBn w ≤ 4)
def FRS (wt fr ff : Int → Int) (k : Int) : Prop := (∀ i : Int, 0 ≤ i ∧ i < k → FRR (wt i) (fr (i + 1)) (ff (i + 1))) ∧ (∀ i : Int, 0 ≤ i ∧ i < k → wt i = 9 ∨ wt i = 10 ∨ wt i = 11 → i = 0 ∨ kBn (wt (i - 1)) ≤ 1) ∧ (∀ i : Int, 0 ≤ i ∧ i + 1 < k → 2 ≤ kBn (wt (i + 1)) ∧ kBn (wt (i + 1)) ≤ 4 → ¬ wt i = 126)
theorem frs_sub {wt fr ff : Int → Int} {k j : Int} (h : FRS wt fr ff k) (hj : j ≤ k) : FRS wt fr ff j := ⟨fun i hi => h.1 i (by omega), fun i hi => h.2.1 i (by omega), fun i hi => h.2.2 i (by omega)⟩
theorem frs_push {wt fr ff : Int → Int} {k w f v : Int} (h : FRS wt fr ff k) (h0 : 0 ≤ k) (hw : FRR w f v) (h1 : w = 9 ∨ w = 10 ∨ w = 11 → k = 0 ∨ kBn (wt (k - 1)) ≤ 1) (h2 : 2 ≤ kBn w ∧ kBn w ≤ 4 → ¬ kTop wt k = 126) : FRS (zU wt k w) (zU fr (k + 1) f) (zU ff (k + 1) v) (k + 1) := by
  refine ⟨?_, ?_, ?_⟩
  · intro i hi
    by_cases q : i = k
    · subst q
      rw [zU_s, zU_s, zU_s]
      exact hw
    · rw [zU_n q, zU_n (by omega), zU_n (by omega)]
      exact h.1 i (by omega)
  · intro i hi g
    by_cases q : i = k
    · subst q
      rw [zU_s] at g
      rw [zU_n (by omega)]
      exact h1 g
    · rw [zU_n q] at g
      rw [zU_n (by omega)]
      exact h.2.1 i (by omega) g
  · intro i hi g
    by_cases q : i + 1 = k
    · rw [q, zU_s] at g
      rw [zU_n (by omega)]
      have z := h2 g
      unfold kTop at z
      rw [if_pos (by omega), show k - 1 = i by omega] at z
      exact z
    · rw [zU_n q] at g
      rw [zU_n (by omega)]
      exact h.2.2 i (by omega) g
/-- the last frame turned into another -/
theorem frs_set {wt fr ff : Int → Int} {k w f v : Int} (h : FRS wt fr ff k) (h0 : 0 < k) (hw : FRR w f v) (h1 : kBn w ≤ 1) (h2 : wt (k - 1) = 9 ∨ wt (k - 1) = 10 ∨ wt (k - 1) = 11) : FRS (zU wt (k - 1) w) (zU fr k f) (zU ff k v) k := by
  refine ⟨?_, ?_, ?_⟩
  · intro i hi
    by_cases q : i = k - 1
    · subst q
      rw [show k - 1 + 1 = k by omega, zU_s, zU_s, zU_s]
      exact hw
    · rw [zU_n q, zU_n (by omega), zU_n (by omega)]
      exact h.1 i (by omega)
  · intro i hi g
    by_cases q : i = k - 1
    · subst q
      rw [zU_n (by omega)]
      exact h.2.1 (k - 1) (by omega) h2
    · rw [zU_n q] at g
      rw [zU_n (by omega)]
      exact h.2.1 i (by omega) g
  · intro i hi g
    by_cases q : i + 1 = k - 1
    · rw [q, zU_s] at g
      omega
    · rw [zU_n q] at g
      rw [zU_n (by omega)]
      exact h.2.2 i (by omega) g
theorem kTop_put {wt : Int → Int} {k w : Int} (h : 0 ≤ k) : kTop (zU wt k w) (k + 1) = w := by
  unfold kTop
  rw [if_pos (by omega), show k + 1 - 1 = k by omega, zU_s]
theorem kTop_set {wt : Int → Int} {k w : Int} (h : 0 < k) : kTop (zU wt (k - 1) w) k = w := by
  unfold kTop
  rw [if_pos h, zU_s]
theorem kTop_p {wt : Int → Int} {k : Int} (h : 0 < k) : kTop wt k = wt (k - 1) := if_pos h
theorem kPop_rng {wt : Int → Int} {b : Int} : ∀ (m : Nat) (k : Int), k.toNat = m → 0 ≤ k → 0 ≤ kPop wt b k ∧ kPop wt b k ≤ k := by
  intro m
  induction m with
  | zero =>
    intro k hk h0
    rw [kPop_0 (by omega)]
    omega
  | succ m ih =>
    intro k hk h0
    by_cases q : b ≤ kBn (wt (k - 1))
    · rw [kPop_t (by omega) q]
      have z := ih (k - 1) (by omega) (by omega)
      omega
    · rw [kPop_f (by omega) q]
      omega
theorem kPop_in {wt : Int → Int} {b k : Int} (h : 0 ≤ k) : 0 ≤ kPop wt b k ∧ kPop wt b k ≤ k := kPop_rng _ k rfl h
theorem kPop_id {wt : Int → Int} {b k : Int} (h : 0 ≤ k) (hb : 1 ≤ b) (q : kBn (kTop wt k) < b) : kPop wt b k = k := by
  rcases Int.lt_or_eq_of_le h with z | z
  · rw [kTop_p z] at q
    exact kPop_f z (by omega)
  · exact kPop_0 z.symm
theorem kPop_top {wt : Int → Int} {b : Int} : ∀ (m : Nat) (k : Int), k.toNat = m → 0 ≤ k → 1 ≤ b → kBn (kTop wt (kPop wt b k)) < b := by
  intro m
  induction m with
  | zero =>
    intro k hk h0 hb
    rw [kPop_0 (by omega)]
    unfold kTop
    rw [if_neg (by omega)]
    have z : kBn (-1) = 0 := by decide
    omega
  | succ m ih =>
    intro k hk h0 hb
    by_cases q : b ≤ kBn (wt (k - 1))
    · rw [kPop_t (by omega) q]
      exact ih (k - 1) (by omega) (by omega) hb
    · rw [kPop_f (by omega) q, kTop_p (by omega)]
      omega
theorem kPop_pop {wt : Int → Int} {b c : Int} (hb : b ≤ c) : ∀ (m : Nat) (k : Int), k.toNat = m → 0 ≤ k → kPop wt b (kPop wt c k) = kPop wt b k := by
  intro m
  induction m with
  | zero =>
    intro k hk h0
    rw [kPop_0 (b := c) (by omega)]
  | succ m ih =>
    intro k hk h0
    by_cases q : c ≤ kBn (wt (k - 1))
    · rw [kPop_t (by omega) q, kPop_t (k := k) (by omega) (show b ≤ kBn (wt (k - 1)) by omega)]
      exact ih (k - 1) (by omega) (by omega)
    · rw [kPop_f (by omega) q]
theorem frr_bn {w f v : Int} (h : FRR w f v) : (f = 5 ↔ kBn w = 5) ∧ (f = 6 ↔ (2 ≤ kBn w ∧ kBn w ≤ 4)) ∧ (f = 3 ↔ kBn w = 1) ∧ (1 ≤ f ∧ f ≤ 6) := by
  have a1 : kBn 126 = 5 := by decide
  have a2 : kBn 40 = 0 := by decide
  have a3 : kBn 9 = 0 := by decide
  have a4 : kBn 10 = 0 := by decide
  have a5 : kBn 11 = 1 := by decide
  rcases h with ⟨rfl, rfl⟩ | ⟨rfl, rfl⟩ | ⟨rfl, rfl⟩ | ⟨rfl, rfl⟩ | ⟨rfl, rfl⟩ | ⟨rfl, rfl, h⟩ <;> omega
def OPT (tx : Int → Int) (n tok : Int) : Prop := kMS tx n tok = 4 ∧ 2 ≤ kBn (kMT tx n tok) ∧ kBn (kMT tx n tok) ≤ 4
def PHS (tx : Int → Int) (n ph tok xst wc : Int) (wt : Int → Int) (k : Int) : Prop :=
  (ph = 0 ∧ xst = 0 ∧ wc = k ∧ kBn (kTop wt k) ≤ 1)
  ∨ (ph = 1 ∧ xst = 0 ∧ wc = k ∧ (kBn (kTop wt k) ≤ 1 → ¬ (kMS tx n tok = 2 ∧ kMT tx n tok = 6)))
  ∨ (ph = 2 ∧ xst = 3 ∧ wc = kPop wt 5 k)
  ∨ (ph = 3 ∧ xst = 3 ∧ 0 ≤ wc ∧ kPop wt 1 wc = kPop wt 1 k ∧ kBn (kTop wt k) ≤ 1 ∧ ¬ OPT tx n tok)
  ∨ (11 ≤ ph ∧ ph ≤ 14 ∧ xst = 3 ∧ 0 ≤ wc ∧ kPop wt (ph - 10) wc = kPop wt (ph - 10) k ∧ ¬ kBn (kTop wt k) = 5)
def EXR (tx : Int → Int) (n : Int) (S0 : Nat → Int → Int) (ph tok sc rc v3 tc : Int) (msn mac man mih mrn mcc mrs mef : Int → Int) (k : Int) (fr ff : Int → Int) (ne : Int) : Prop :=
  ∃ (ri tp ts be xst xop wc : Int) (sn ac ic an ih rn rs cc cs wt : Int → Int), CHN tx n S0 (mkS 14 ri tp ts be sc rc xst tc xop wc sn ac ic an ih rn rs cc (zU cs v3 0) wt) ∧ (0 ≤ be ∧ be ≤ n) ∧ tok = kRun isBl tx n be ∧ TRL rc sc rc sn ac ic an ih rn rs cc cs msn mac man mih mrn mcc mrs mef ∧ FRS wt fr ff k ∧ ne = kOc wt k ∧ (0 ≤ k ∧ k ≤ tc ∧ tc ≤ 40) ∧ PHS tx n ph tok xst wc wt k
section EL
variable {tx : Int → Int} {n : Int} {S0 : Nat → Int → Int} {tok sc rc v3 tc k ne : Int} {msn mac man mih mrn mcc mrs mef fr ff : Int → Int}
variable {ri tp ts be xst xop wc r st2 xst2 tc2 xop2 wc2 ic2 : Int} {sn ac ic an ih rn rs cc cs wt wt2 : Int → Int}
theorem stp_x (h : rXStep (kKA tx n tok) (nxT tx n tok < n ∧ tx (nxT tx n tok) = 46) (kDv tx n tok 0) (kAtt rs ac an (rc - 1) xop (kCv tx n tok 0)) cc (rc - 1) xst tc xop wt wc r xst2 tc2 xop2 wt2 wc2 ic2) (hi : r = 0 → st2 = if ic2 = 1 then 9 else 14) (htok : tok = kRun isBl tx n be) : STEP tx n (mkS 14 ri tp ts be sc rc xst tc xop wc sn ac ic an ih rn rs cc cs wt) r (mkS st2 ri tp ts (kBA tx n tok) sc rc xst2 tc2 xop2 wc2 sn ac ic an ih rn rs cc cs wt2) := by
  subst htok
  exact ⟨rfl, Or.inl ⟨rfl, ⟨rfl, rfl, rfl, rfl, rfl, rfl, rfl, rfl, rfl, rfl, rfl, rfl, rfl, rfl⟩, ic2, h, hi⟩⟩
theorem rf_x (hc : CHN tx n S0 (mkS 14 ri tp ts be sc rc xst tc xop wc sn ac ic an ih rn rs cc cs wt)) (h : rXStep (kKA tx n tok) (nxT tx n tok < n ∧ tx (nxT tx n tok) = 46) (kDv tx n tok 0) (kAtt rs ac an (rc - 1) xop (kCv tx n tok 0)) cc (rc - 1) xst tc xop wt wc r xst2 tc2 xop2 wt2 wc2 ic2) (htok : tok = kRun isBl tx n be) (hr : ¬ r = 0) : RF tx n S0 r tok := by
  intro e
  have z := hc _ _ _ (res_bad (stp_x (ri := ri) (tp := tp) (ts := ts) (sc := sc) (st2 := 14) (sn := sn) (ic := ic) (ih := ih) (rn := rn) (cs := cs) h (fun q => absurd q hr) htok) hr e)
  rw [htok]
  exact z
/-- a step that goes on in the expression -/
theorem ex_x {ph k2 ne2 : Int} {fr2 ff2 : Int → Int} (hc : CHN tx n S0 (mkS 14 ri tp ts be sc rc xst tc xop wc sn ac ic an ih rn rs cc (zU cs v3 0) wt)) (h : rXStep (kKA tx n tok) (nxT tx n tok < n ∧ tx (nxT tx n tok) = 46) (kDv tx n tok 0) (kAtt rs ac an (rc - 1) xop (kCv tx n tok 0)) cc (rc - 1) xst tc xop wt wc 0 xst2 tc2 xop2 wt2 wc2 0) (hbe : 0 ≤ be ∧ be ≤ n) (htok : tok = kRun isBl tx n be) (ht : TRL rc sc rc sn ac ic an ih rn rs cc cs msn mac man mih mrn mcc mrs mef) (hf : FRS wt2 fr2 ff2 k2) (hn : ne2 = kOc wt2 k2) (hk : 0 ≤ k2 ∧ k2 ≤ tc2 ∧ tc2 ≤ 40) (hp : PHS tx n ph (nxT tx n tok) xst2 wc2 wt2 k2) : EXR tx n S0 ph (nxT tx n tok) sc rc v3 tc2 msn mac man mih mrn mcc mrs mef k2 fr2 ff2 ne2 := by
  have g := kRun_in (pq := isBl) (tx := tx) (n := n) (a := be) hbe.2
  have g2 := kBA_rng (tx := tx) (n := n) (a := tok) (by omega)
  exact ⟨ri, tp, ts, kBA tx n tok, xst2, xop2, wc2, sn, ac, ic, an, ih, rn, rs, cc, cs, wt2, chn_tr hc (chn_st (stp_x h (fun _ => (if_neg (by decide)).symm) htok) (fun z => absurd z (by decide : ¬ (14 : Int) = 15))), ⟨by omega, g2.2.1⟩, rfl, ht, hf, hn, hk, hp⟩
theorem e_if_bad (h : EXR tx n S0 0 tok sc rc v3 tc msn mac man mih mrn mcc mrs mef k fr ff ne) (hs : (kMS tx n tok = 2 ∧ kMT tx n tok = 6)) (hb4 : (20 ≤ ne ∨ 40 ≤ tc)) : RF tx n S0 4 tok := by
  obtain ⟨ri, tp, ts, be, xst, xop, wc, sn, ac, ic, an, ih, rn, rs, cc, cs, wt, hc, hbe, htok, ht, hfr, hne, hk, hp⟩ := h
  obtain ⟨t1, t3, t0, tw, tsg, tn, td⟩ := tk_all tx n tok
  have k6 := tw 6 (by decide)
  obtain ⟨rfl, rfl, hb⟩ : xst = 0 ∧ wc = k ∧ kBn (kTop wt k) ≤ 1 := by
    rcases hp with hp | hp | hp | hp | hp
    all_goals first | exact hp.2 | (have z := hp.1; omega)
  exact rf_x (xst2 := 3) (tc2 := tc) (xop2 := xop) (wt2 := wt) (wc2 := wc) (ic2 := 0) hc (Or.inl ⟨rfl, rfl, (Or.inr (Or.inr (Or.inr (Or.inr (Or.inr (Or.inl (⟨by omega, by omega, rfl, Or.inl ⟨rfl, by omega⟩⟩)))))))⟩) htok (by decide)
theorem e_if_ok {v : Int} (h : EXR tx n S0 0 tok sc rc v3 tc msn mac man mih mrn mcc mrs mef k fr ff ne) (hs : (kMS tx n tok = 2 ∧ kMT tx n tok = 6)) (hb4 : ¬ (20 ≤ ne ∨ 40 ≤ tc)) : EXR tx n S0 0 (nxT tx n tok) sc rc v3 (tc + 1) msn mac man mih mrn mcc mrs mef (k + 1) (zU fr (k + 1) 1) (zU ff (k + 1) v) (ne + 1) := by
  obtain ⟨ri, tp, ts, be, xst, xop, wc, sn, ac, ic, an, ih, rn, rs, cc, cs, wt, hc, hbe, htok, ht, hfr, hne, hk, hp⟩ := h
  obtain ⟨t1, t3, t0, tw, tsg, tn, td⟩ := tk_all tx n tok
  have k6 := tw 6 (by decide)
  obtain ⟨rfl, rfl, hb⟩ : xst = 0 ∧ wc = k ∧ kBn (kTop wt k) ≤ 1 := by
    rcases hp with hp | hp | hp | hp | hp
    all_goals first | exact hp.2 | (have z := hp.1; omega)
  have tb9 : wc = 0 ∨ kBn (wt (wc - 1)) ≤ 1 := by
    rcases Int.lt_or_eq_of_le hk.1 with z | z
    · rw [kTop_p z] at hb
      exact Or.inr hb
    · exact Or.inl z.symm
  have h1 : kOpn 9 = 1 := by decide
  have h2 := kOc_put (wt := wt) (k := wc) (v := 9) hk.1
  have h3 : kBn 9 = 0 := by decide
  exact ex_x hc (Or.inl ⟨rfl, rfl, (Or.inr (Or.inr (Or.inr (Or.inr (Or.inr (Or.inl (⟨by omega, by omega, rfl, Or.inr ⟨rfl, by omega, by omega, rfl, rfl, rfl, rfl⟩⟩)))))))⟩) hbe htok ht (frs_push hfr hk.1 (Or.inr (Or.inr (Or.inl ⟨rfl, rfl⟩))) (fun _ => tb9) (fun z => by omega)) (by omega) (by omega) (Or.inl ⟨rfl, rfl, rfl, by rw [kTop_put hk.1]; omega⟩)
theorem e_min_bad (h : EXR tx n S0 1 tok sc rc v3 tc msn mac man mih mrn mcc mrs mef k fr ff ne) (hs : (kMS tx n tok = 4 ∧ kMT tx n tok = 45)) (hb4 : (20 ≤ ne ∨ 40 ≤ tc)) : RF tx n S0 4 tok := by
  obtain ⟨ri, tp, ts, be, xst, xop, wc, sn, ac, ic, an, ih, rn, rs, cc, cs, wt, hc, hbe, htok, ht, hfr, hne, hk, hp⟩ := h
  obtain ⟨t1, t3, t0, tw, tsg, tn, td⟩ := tk_all tx n tok
  have k45 := tsg 45 (by decide)
  obtain ⟨rfl, rfl, hb⟩ : xst = 0 ∧ wc = k ∧ (kBn (kTop wt k) ≤ 1 → ¬ (kMS tx n tok = 2 ∧ kMT tx n tok = 6)) := by
    rcases hp with hp | hp | hp | hp | hp
    all_goals first | exact hp.2 | (have z := hp.1; omega)
  exact rf_x (xst2 := 3) (tc2 := tc) (xop2 := xop) (wt2 := wt) (wc2 := wc) (ic2 := 0) hc (Or.inl ⟨rfl, rfl, (Or.inr (Or.inr (Or.inr (Or.inr (Or.inl (⟨by omega, rfl, Or.inl ⟨rfl, by omega⟩⟩))))))⟩) htok (by decide)
theorem e_min_ok {v : Int} (h : EXR tx n S0 1 tok sc rc v3 tc msn mac man mih mrn mcc mrs mef k fr ff ne) (hs : (kMS tx n tok = 4 ∧ kMT tx n tok = 45)) (hb4 : ¬ (20 ≤ ne ∨ 40 ≤ tc)) : EXR tx n S0 1 (nxT tx n tok) sc rc v3 (tc + 1) msn mac man mih mrn mcc mrs mef (k + 1) (zU fr (k + 1) 5) (zU ff (k + 1) v) (ne + 1) := by
  obtain ⟨ri, tp, ts, be, xst, xop, wc, sn, ac, ic, an, ih, rn, rs, cc, cs, wt, hc, hbe, htok, ht, hfr, hne, hk, hp⟩ := h
  obtain ⟨t1, t3, t0, tw, tsg, tn, td⟩ := tk_all tx n tok
  have k45 := tsg 45 (by decide)
  obtain ⟨rfl, rfl, hb⟩ : xst = 0 ∧ wc = k ∧ (kBn (kTop wt k) ≤ 1 → ¬ (kMS tx n tok = 2 ∧ kMT tx n tok = 6)) := by
    rcases hp with hp | hp | hp | hp | hp
    all_goals first | exact hp.2 | (have z := hp.1; omega)
  have h1 : kOpn 126 = 1 := by decide
  have h2 := kOc_put (wt := wt) (k := wc) (v := 126) hk.1
  have h3 : kBn 126 = 5 := by decide
  exact ex_x hc (Or.inl ⟨rfl, rfl, (Or.inr (Or.inr (Or.inr (Or.inr (Or.inl (⟨by omega, rfl, Or.inr ⟨rfl, by omega, by omega, rfl, rfl, rfl, rfl⟩⟩))))))⟩) hbe htok ht (frs_push hfr hk.1 (Or.inl ⟨rfl, rfl⟩) (fun z => by omega) (fun z => by omega)) (by omega) (by omega) (Or.inr (Or.inl ⟨rfl, rfl, rfl, fun z => by rw [kTop_put hk.1] at z; omega⟩))
theorem e_par_bad (h : EXR tx n S0 1 tok sc rc v3 tc msn mac man mih mrn mcc mrs mef k fr ff ne) (hs : (kMS tx n tok = 4 ∧ kMT tx n tok = 40)) (hb4 : (20 ≤ ne ∨ 40 ≤ tc)) : RF tx n S0 4 tok := by
  obtain ⟨ri, tp, ts, be, xst, xop, wc, sn, ac, ic, an, ih, rn, rs, cc, cs, wt, hc, hbe, htok, ht, hfr, hne, hk, hp⟩ := h
  obtain ⟨t1, t3, t0, tw, tsg, tn, td⟩ := tk_all tx n tok
  have k40 := tsg 40 (by decide)
  obtain ⟨rfl, rfl, hb⟩ : xst = 0 ∧ wc = k ∧ (kBn (kTop wt k) ≤ 1 → ¬ (kMS tx n tok = 2 ∧ kMT tx n tok = 6)) := by
    rcases hp with hp | hp | hp | hp | hp
    all_goals first | exact hp.2 | (have z := hp.1; omega)
  exact rf_x (xst2 := 3) (tc2 := tc) (xop2 := xop) (wt2 := wt) (wc2 := wc) (ic2 := 0) hc (Or.inl ⟨rfl, rfl, (Or.inr (Or.inr (Or.inr (Or.inl (⟨by omega, rfl, Or.inl ⟨rfl, by omega⟩⟩)))))⟩) htok (by decide)
theorem e_par_ok {v : Int} (h : EXR tx n S0 1 tok sc rc v3 tc msn mac man mih mrn mcc mrs mef k fr ff ne) (hs : (kMS tx n tok = 4 ∧ kMT tx n tok = 40)) (hb4 : ¬ (20 ≤ ne ∨ 40 ≤ tc)) : EXR tx n S0 0 (nxT tx n tok) sc rc v3 (tc + 1) msn mac man mih mrn mcc mrs mef (k + 1) (zU fr (k + 1) 4) (zU ff (k + 1) v) (ne + 1) := by
  obtain ⟨ri, tp, ts, be, xst, xop, wc, sn, ac, ic, an, ih, rn, rs, cc, cs, wt, hc, hbe, htok, ht, hfr, hne, hk, hp⟩ := h
  obtain ⟨t1, t3, t0, tw, tsg, tn, td⟩ := tk_all tx n tok
  have k40 := tsg 40 (by decide)
  obtain ⟨rfl, rfl, hb⟩ : xst = 0 ∧ wc = k ∧ (kBn (kTop wt k) ≤ 1 → ¬ (kMS tx n tok = 2 ∧ kMT tx n tok = 6)) := by
    rcases hp with hp | hp | hp | hp | hp
    all_goals first | exact hp.2 | (have z := hp.1; omega)
  have h1 : kOpn 40 = 1 := by decide
  have h2 := kOc_put (wt := wt) (k := wc) (v := 40) hk.1
  have h3 : kBn 40 = 0 := by decide
  exact ex_x hc (Or.inl ⟨rfl, rfl, (Or.inr (Or.inr (Or.inr (Or.inl (⟨by omega, rfl, Or.inr ⟨rfl, by omega, by omega, rfl, rfl, rfl, rfl⟩⟩)))))⟩) hbe htok ht (frs_push hfr hk.1 (Or.inr (Or.inl ⟨rfl, rfl⟩)) (fun z => by omega) (fun z => by omega)) (by omega) (by omega) (Or.inl ⟨rfl, rfl, rfl, by rw [kTop_put hk.1]; omega⟩)
theorem e_part (h : EXR tx n S0 0 tok sc rc v3 tc msn mac man mih mrn mcc mrs mef k fr ff ne) (hs : ¬ (kMS tx n tok = 2 ∧ kMT tx n tok = 6)) : EXR tx n S0 1 tok sc rc v3 tc msn mac man mih mrn mcc mrs mef k fr ff ne := by
  obtain ⟨ri, tp, ts, be, xst, xop, wc, sn, ac, ic, an, ih, rn, rs, cc, cs, wt, hc, hbe, htok, ht, hfr, hne, hk, hp⟩ := h
  obtain ⟨rfl, rfl, hb⟩ : xst = 0 ∧ wc = k ∧ kBn (kTop wt k) ≤ 1 := by
    rcases hp with hp | hp | hp | hp | hp
    all_goals first | exact hp.2 | (have z := hp.1; omega)
  exact ⟨ri, tp, ts, be, 0, xop, wc, sn, ac, ic, an, ih, rn, rs, cc, cs, wt, hc, hbe, htok, ht, hfr, hne, hk, Or.inr (Or.inl ⟨rfl, rfl, rfl, fun _ => hs⟩)⟩
theorem e_own_bad (h : EXR tx n S0 1 tok sc rc v3 tc msn mac man mih mrn mcc mrs mef k fr ff ne) (hs : (kMS tx n tok = 2 ∧ kMT tx n tok = 5)) (hb4 : 40 ≤ tc) : RF tx n S0 4 tok := by
  obtain ⟨ri, tp, ts, be, xst, xop, wc, sn, ac, ic, an, ih, rn, rs, cc, cs, wt, hc, hbe, htok, ht, hfr, hne, hk, hp⟩ := h
  obtain ⟨t1, t3, t0, tw, tsg, tn, td⟩ := tk_all tx n tok
  have k5 := tw 5 (by decide)
  obtain ⟨rfl, rfl, hb⟩ : xst = 0 ∧ wc = k ∧ (kBn (kTop wt k) ≤ 1 → ¬ (kMS tx n tok = 2 ∧ kMT tx n tok = 6)) := by
    rcases hp with hp | hp | hp | hp | hp
    all_goals first | exact hp.2 | (have z := hp.1; omega)
  exact rf_x (xst2 := 3) (tc2 := tc) (xop2 := xop) (wt2 := wt) (wc2 := wc) (ic2 := 0) hc (Or.inl ⟨rfl, rfl, (Or.inr (Or.inr (Or.inl (⟨by omega, ⟨rfl, rfl⟩, Or.inl ⟨rfl, by omega⟩⟩))))⟩) htok (by decide)
theorem e_own_ok (h : EXR tx n S0 1 tok sc rc v3 tc msn mac man mih mrn mcc mrs mef k fr ff ne) (hs : (kMS tx n tok = 2 ∧ kMT tx n tok = 5)) (hb4 : ¬ 40 ≤ tc) : EXR tx n S0 2 (nxT tx n tok) sc rc v3 (tc + 1) msn mac man mih mrn mcc mrs mef k fr ff ne := by
  obtain ⟨ri, tp, ts, be, xst, xop, wc, sn, ac, ic, an, ih, rn, rs, cc, cs, wt, hc, hbe, htok, ht, hfr, hne, hk, hp⟩ := h
  obtain ⟨t1, t3, t0, tw, tsg, tn, td⟩ := tk_all tx n tok
  have k5 := tw 5 (by decide)
  obtain ⟨rfl, rfl, hb⟩ : xst = 0 ∧ wc = k ∧ (kBn (kTop wt k) ≤ 1 → ¬ (kMS tx n tok = 2 ∧ kMT tx n tok = 6)) := by
    rcases hp with hp | hp | hp | hp | hp
    all_goals first | exact hp.2 | (have z := hp.1; omega)
  exact ex_x hc (Or.inl ⟨rfl, rfl, (Or.inr (Or.inr (Or.inl (⟨by omega, ⟨rfl, rfl⟩, Or.inr (Or.inr ⟨rfl, by omega, by omega, rfl, rfl, rfl⟩)⟩))))⟩) hbe htok ht hfr hne (by omega) (Or.inr (Or.inr (Or.inl ⟨rfl, rfl, rfl⟩)))
theorem e_num_bad4 (h : EXR tx n S0 1 tok sc rc v3 tc msn mac man mih mrn mcc mrs mef k fr ff ne) (hs : kMS tx n tok = 3) (hd : ¬ (nxT tx n tok < n ∧ tx (nxT tx n tok) = 46)) (hb4 : 40 ≤ tc) : RF tx n S0 4 tok := by
  obtain ⟨ri, tp, ts, be, xst, xop, wc, sn, ac, ic, an, ih, rn, rs, cc, cs, wt, hc, hbe, htok, ht, hfr, hne, hk, hp⟩ := h
  obtain ⟨t1, t3, t0, tw, tsg, tn, td⟩ := tk_all tx n tok
  obtain ⟨rfl, rfl, hb⟩ : xst = 0 ∧ wc = k ∧ (kBn (kTop wt k) ≤ 1 → ¬ (kMS tx n tok = 2 ∧ kMT tx n tok = 6)) := by
    rcases hp with hp | hp | hp | hp | hp
    all_goals first | exact hp.2 | (have z := hp.1; omega)
  exact rf_x (xst2 := 3) (tc2 := tc) (xop2 := xop) (wt2 := wt) (wc2 := wc) (ic2 := 0) hc (Or.inl ⟨rfl, rfl, (Or.inr (Or.inl (⟨by omega, hd, ⟨rfl, rfl⟩, Or.inl ⟨rfl, by omega⟩⟩)))⟩) htok (by decide)
theorem e_num_bad5 (h : EXR tx n S0 1 tok sc rc v3 tc msn mac man mih mrn mcc mrs mef k fr ff ne) (hs : kMS tx n tok = 3) (hd : ¬ (nxT tx n tok < n ∧ tx (nxT tx n tok) = 46)) (hb4 : ¬ 40 ≤ tc) (h5 : 2147483647 < kMT tx n tok) : RF tx n S0 5 tok := by
  obtain ⟨ri, tp, ts, be, xst, xop, wc, sn, ac, ic, an, ih, rn, rs, cc, cs, wt, hc, hbe, htok, ht, hfr, hne, hk, hp⟩ := h
  obtain ⟨t1, t3, t0, tw, tsg, tn, td⟩ := tk_all tx n tok
  have g2 := td hs
  obtain ⟨rfl, rfl, hb⟩ : xst = 0 ∧ wc = k ∧ (kBn (kTop wt k) ≤ 1 → ¬ (kMS tx n tok = 2 ∧ kMT tx n tok = 6)) := by
    rcases hp with hp | hp | hp | hp | hp
    all_goals first | exact hp.2 | (have z := hp.1; omega)
  exact rf_x (xst2 := 3) (tc2 := tc) (xop2 := xop) (wt2 := wt) (wc2 := wc) (ic2 := 0) hc (Or.inl ⟨rfl, rfl, (Or.inr (Or.inl (⟨by omega, hd, ⟨rfl, rfl⟩, Or.inr (Or.inl ⟨rfl, by omega, by omega⟩)⟩)))⟩) htok (by decide)
theorem e_num_ok (h : EXR tx n S0 1 tok sc rc v3 tc msn mac man mih mrn mcc mrs mef k fr ff ne) (hs : kMS tx n tok = 3) (hd : ¬ (nxT tx n tok < n ∧ tx (nxT tx n tok) = 46)) (hb4 : ¬ 40 ≤ tc) (h5 : ¬ 2147483647 < kMT tx n tok) : EXR tx n S0 2 (nxT tx n tok) sc rc v3 (tc + 1) msn mac man mih mrn mcc mrs mef k fr ff ne := by
  obtain ⟨ri, tp, ts, be, xst, xop, wc, sn, ac, ic, an, ih, rn, rs, cc, cs, wt, hc, hbe, htok, ht, hfr, hne, hk, hp⟩ := h
  obtain ⟨t1, t3, t0, tw, tsg, tn, td⟩ := tk_all tx n tok
  have g2 := td hs
  obtain ⟨rfl, rfl, hb⟩ : xst = 0 ∧ wc = k ∧ (kBn (kTop wt k) ≤ 1 → ¬ (kMS tx n tok = 2 ∧ kMT tx n tok = 6)) := by
    rcases hp with hp | hp | hp | hp | hp
    all_goals first | exact hp.2 | (have z := hp.1; omega)
  exact ex_x hc (Or.inl ⟨rfl, rfl, (Or.inr (Or.inl (⟨by omega, hd, ⟨rfl, rfl⟩, Or.inr (Or.inr ⟨rfl, by omega, by omega, rfl, rfl, rfl⟩)⟩)))⟩) hbe htok ht hfr hne (by omega) (Or.inr (Or.inr (Or.inl ⟨rfl, rfl, rfl⟩)))
theorem e_part_bad (h : EXR tx n S0 1 tok sc rc v3 tc msn mac man mih mrn mcc mrs mef k fr ff ne) (h1 : ¬ (kMS tx n tok = 4 ∧ kMT tx n tok = 45)) (h2 : ¬ (kMS tx n tok = 4 ∧ kMT tx n tok = 40)) (h3 : ¬ (kMS tx n tok = 2 ∧ kMT tx n tok = 5)) (h4 : ¬ kMS tx n tok = 3) : RF tx n S0 1 tok := by
  obtain ⟨ri, tp, ts, be, xst, xop, wc, sn, ac, ic, an, ih, rn, rs, cc, cs, wt, hc, hbe, htok, ht, hfr, hne, hk, hp⟩ := h
  obtain ⟨t1, t3, t0, tw, tsg, tn, td⟩ := tk_all tx n tok
  have k45 := tsg 45 (by decide)
  have k40 := tsg 40 (by decide)
  have k5 := tw 5 (by decide)
  have k6 := tw 6 (by decide)
  obtain ⟨rfl, rfl, hb⟩ : xst = 0 ∧ wc = k ∧ (kBn (kTop wt k) ≤ 1 → ¬ (kMS tx n tok = 2 ∧ kMT tx n tok = 6)) := by
    rcases hp with hp | hp | hp | hp | hp
    all_goals first | exact hp.2 | (have z := hp.1; omega)
  by_cases q : kKA tx n tok = 9
  · exact rf_x (xst2 := 3) (tc2 := tc) (xop2 := xop) (wt2 := wt) (wc2 := wc) (ic2 := 0) hc (Or.inl ⟨rfl, rfl, (Or.inr (Or.inr (Or.inr (Or.inr (Or.inr (Or.inr (Or.inl (⟨q, fun z => hb z (k6.mpr q), rfl⟩))))))))⟩) htok (by decide)
  · exact rf_x (xst2 := 3) (tc2 := tc) (xop2 := xop) (wt2 := wt) (wc2 := wc) (ic2 := 0) hc (Or.inl ⟨rfl, rfl, (Or.inr (Or.inr (Or.inr (Or.inr (Or.inr (Or.inr (Or.inr ((⟨by omega, rfl⟩)))))))))⟩) htok (by decide)
end EL
