/-! an expression: the class's steps and the reference's own code together -/
def EXV (or0 oo0 op0 oa0 : Int → Int) (from_ first occs r9 : Int) (mac mcc mrs orr oo op oa : Int → Int) : Prop :=
  (∀ p : Int, p < from_ → orr p = or0 p ∧ oo p = oo0 p) ∧ (∀ j : Int, j < first → op j = op0 j ∧ oa j = oa0 j) ∧ (∀ j : Int, first ≤ j ∧ j < occs → (0 ≤ op j ∧ op j ≤ mcc r9) ∧ (0 ≤ oa j ∧ oa j < mac (mrs (4 * r9 + op j))))
def EXQ (tx : Int → Int) (n : Int) (S0 : Nat → Int → Int) (ph tok sc rc v3 tc : Int) (msn mac man mih mrn mcc mrs mef : Int → Int) (k : Int) (fr ff : Int → Int) (ne : Int) : Prop :=
  (ph = 20 ∧ RF tx n S0 1 tok ∧ kMS tx n tok = 4 ∧ kBn (kMT tx n tok) = 2) ∨ (¬ ph = 20 ∧ EXR tx n S0 ph tok sc rc v3 tc msn mac man mih mrn mcc mrs mef k fr ff ne)
def EXW (tx : Int → Int) (n : Int) (S0 : Nat → Int → Int) (sc rc r9 v3 : Int) (msn mac man mih mrn mcc mrs mef or0 oo0 op0 oa0 : Int → Int) (from_ first ph d tok tc fm ne orders occs : Int) (orr oo op oa fr ff : Int → Int) : Prop :=
  ((r9 = rc - 1 ∧ 1 ≤ rc) ∧ (1 ≤ fm ∧ fm ≤ 50) ∧ (0 ≤ from_ ∧ from_ ≤ orders) ∧ (0 ≤ first ∧ first ≤ occs)) ∧ EXQ tx n S0 ph tok sc rc v3 tc msn mac man mih mrn mcc mrs mef (fm - 1) fr ff ne ∧ GI d from_ first orders occs fm orr oo fr ff ∧ (fr 0 = 0 ∧ ∀ i : Int, 1 ≤ i ∧ i < fm → 1 ≤ fr i ∧ fr i ≤ 6) ∧ EXV or0 oo0 op0 oa0 from_ first occs r9 mac mcc mrs orr oo op oa
section WX
variable {tx : Int → Int} {n : Int} {S0 : Nat → Int → Int} {sc rc r9 v3 : Int} {msn mac man mih mrn mcc mrs mef or0 oo0 op0 oa0 : Int → Int} {from_ first ph d tok tc fm ne orders occs k xp tok0 tc0 : Int} {orr oo op oa fr ff : Int → Int}
theorem exr_rng (h : EXR tx n S0 ph tok sc rc v3 tc msn mac man mih mrn mcc mrs mef k fr ff ne) : (0 ≤ k ∧ k ≤ tc ∧ tc ≤ 40) ∧ 0 ≤ ne ∧ ∀ i : Int, 1 ≤ i ∧ i ≤ k → 1 ≤ fr i ∧ fr i ≤ 6 := by
  obtain ⟨ri, tp, ts, be, xst, xop, wc, sn, ac, ic, an, ih, rn, rs, cc, cs, wt, hc, hbe, htok, ht, hfr, hne, hk, hp⟩ := h
  have z := kOc_rng wt hk.1
  refine ⟨hk, by omega, fun i hi => ?_⟩
  have f := frr_bn (hfr.1 (i - 1) (by omega))
  rw [show i - 1 + 1 = i by omega] at f
  exact f.2.2.2
theorem exr3_top (h : EXR tx n S0 3 tok sc rc v3 tc msn mac man mih mrn mcc mrs mef k fr ff ne) (h1 : 1 ≤ k) : 1 ≤ fr k ∧ fr k ≤ 4 := by
  obtain ⟨ri, tp, ts, be, xst, xop, wc, sn, ac, ic, an, ih, rn, rs, cc, cs, wt, hc, hbe, htok, ht, hfr, hne, hk, hp⟩ := h
  have f := frr_bn (hfr.1 (k - 1) (by omega))
  rw [show k - 1 + 1 = k by omega] at f
  have e := kTop_p (wt := wt) (show 0 < k by omega)
  have q : kBn (wt (k - 1)) ≤ 1 := by
    rcases hp with z | z | z | z | z
    · exact absurd z.1 (by decide)
    · exact absurd z.1 (by decide)
    · exact absurd z.1 (by decide)
    · rw [← e]
      exact z.2.2.2.2.1
    · exact absurd z.1 (by decide)
  omega
theorem w_exr (h : EXW tx n S0 sc rc r9 v3 msn mac man mih mrn mcc mrs mef or0 oo0 op0 oa0 from_ first ph d tok tc fm ne orders occs orr oo op oa fr ff) (h2 : ¬ ph = 20) : EXR tx n S0 ph tok sc rc v3 tc msn mac man mih mrn mcc mrs mef (fm - 1) fr ff ne := h.2.1.elim (fun z => absurd z.1 h2) (fun z => z.2)
theorem w_mk (g0 : r9 = rc - 1 ∧ 1 ≤ rc) (g1 : 0 ≤ from_ ∧ from_ ≤ orders) (g2 : 0 ≤ first ∧ first ≤ occs) (h : EXR tx n S0 ph tok sc rc v3 tc msn mac man mih mrn mcc mrs mef k fr ff ne) (e : fm = k + 1) (h2 : ¬ ph = 20) (hg : GI d from_ first orders occs fm orr oo fr ff) (h0 : fr 0 = 0) (hv : EXV or0 oo0 op0 oa0 from_ first occs r9 mac mcc mrs orr oo op oa) : EXW tx n S0 sc rc r9 v3 msn mac man mih mrn mcc mrs mef or0 oo0 op0 oa0 from_ first ph d tok tc fm ne orders occs orr oo op oa fr ff := by
  subst e
  have z := exr_rng h
  refine ⟨⟨g0, ⟨by omega, by omega⟩, g1, g2⟩, Or.inr ⟨h2, ?_⟩, hg, ⟨h0, fun i hi => z.2.2 i (by omega)⟩, hv⟩
  rw [show k + 1 - 1 = k by omega]
  exact h
theorem w_ne (h : EXW tx n S0 sc rc r9 v3 msn mac man mih mrn mcc mrs mef or0 oo0 op0 oa0 from_ first ph d tok tc fm ne orders occs orr oo op oa fr ff) (h2 : ¬ ph = 20) : 0 ≤ ne ∧ fm ≤ tc + 1 ∧ tc ≤ 40 ∧ fm ≤ 41 := by
  have z := exr_rng (w_exr h h2)
  omega
theorem w_b (h : EXW tx n S0 sc rc r9 v3 msn mac man mih mrn mcc mrs mef or0 oo0 op0 oa0 from_ first ph d tok tc fm ne orders occs orr oo op oa fr ff) : (1 ≤ fm ∧ fm ≤ 50) ∧ (0 ≤ from_ ∧ from_ ≤ orders) ∧ (0 ≤ first ∧ first ≤ occs) := h.1.2
theorem exv_or {orr2 oo2 : Int → Int} (h : EXV or0 oo0 op0 oa0 from_ first occs r9 mac mcc mrs orr oo op oa) (h1 : ∀ p : Int, p < from_ → orr2 p = orr p ∧ oo2 p = oo p) : EXV or0 oo0 op0 oa0 from_ first occs r9 mac mcc mrs orr2 oo2 op oa := ⟨fun p hp => by rw [(h1 p hp).1, (h1 p hp).2]; exact h.1 p hp, h.2⟩
theorem exv_zu {q v u : Int} (h : EXV or0 oo0 op0 oa0 from_ first occs r9 mac mcc mrs orr oo op oa) (hq : from_ ≤ q) : EXV or0 oo0 op0 oa0 from_ first occs r9 mac mcc mrs (zU orr q v) (zU oo q u) op oa := exv_or h (fun p hp => ⟨zU_n (by omega), zU_n (by omega)⟩)
theorem exv_oo {q u : Int} (h : EXV or0 oo0 op0 oa0 from_ first occs r9 mac mcc mrs orr oo op oa) (hq : from_ ≤ q) : EXV or0 oo0 op0 oa0 from_ first occs r9 mac mcc mrs orr (zU oo q u) op oa := exv_or h (fun p hp => ⟨rfl, zU_n (by omega)⟩)
theorem exv_occ {a : Int} (h : EXV or0 oo0 op0 oa0 from_ first occs r9 mac mcc mrs orr oo op oa) (hk : 0 ≤ k ∧ k ≤ mcc r9) (ha : 0 ≤ a ∧ a < mac (mrs (4 * r9 + k))) (hf : first ≤ occs) : EXV or0 oo0 op0 oa0 from_ first (occs + 1) r9 mac mcc mrs orr oo (zU op occs k) (zU oa occs a) := by
  refine ⟨h.1, fun j hj => ?_, fun j hj => ?_⟩
  · rw [zU_n (by omega), zU_n (by omega)]
    exact h.2.1 j hj
  · by_cases q : j = occs
    · subst q
      rw [zU_s, zU_s]
      exact ⟨hk, ha⟩
    · rw [zU_n q, zU_n q]
      exact h.2.2 j (by omega)
theorem w_if_bad (h : EXW tx n S0 sc rc r9 v3 msn mac man mih mrn mcc mrs mef or0 oo0 op0 oa0 from_ first 0 0 tok tc fm ne orders occs orr oo op oa fr ff) (hs : (kMS tx n tok = 2 ∧ kMT tx n tok = 6)) (hb : ne = 20 ∨ tc = 40) : RF tx n S0 4 tok := by
  exact e_if_bad (w_exr h (by decide)) hs (by omega)
theorem w_if_ok {v : Int} (h : EXW tx n S0 sc rc r9 v3 msn mac man mih mrn mcc mrs mef or0 oo0 op0 oa0 from_ first 0 0 tok tc fm ne orders occs orr oo op oa fr ff) (hs : (kMS tx n tok = 2 ∧ kMT tx n tok = 6)) (h1 : ¬ ne = 20) (h2 : ¬ tc = 40) (hn : ne ≤ 20) : EXW tx n S0 sc rc r9 v3 msn mac man mih mrn mcc mrs mef or0 oo0 op0 oa0 from_ first 0 0 (nxT tx n tok) (tc + 1) (fm + 1) (ne + 1) orders occs orr oo op oa (zU fr fm 1) (zU ff fm v) := by
  have e := w_exr h (by decide)
  have g := exr_rng e
  have b := h.1
  have z := e_if_ok (v := v) e hs (by omega)
  rw [show fm - 1 + 1 = fm by omega] at z
  exact w_mk h.1.1 (by omega) (by omega) z (by omega) (by decide) (g_push h.2.2.1 b.2.1.1 (by decide)) ((zU_n (by omega)).trans h.2.2.2.1.1) h.2.2.2.2
theorem w_min_bad (h : EXW tx n S0 sc rc r9 v3 msn mac man mih mrn mcc mrs mef or0 oo0 op0 oa0 from_ first 1 0 tok tc fm ne orders occs orr oo op oa fr ff) (hs : (kMS tx n tok = 4 ∧ kMT tx n tok = 45)) (hb : ne = 20 ∨ tc = 40) : RF tx n S0 4 tok := by
  exact e_min_bad (w_exr h (by decide)) hs (by omega)
theorem w_min_ok {v : Int} (h : EXW tx n S0 sc rc r9 v3 msn mac man mih mrn mcc mrs mef or0 oo0 op0 oa0 from_ first 1 0 tok tc fm ne orders occs orr oo op oa fr ff) (hs : (kMS tx n tok = 4 ∧ kMT tx n tok = 45)) (h1 : ¬ ne = 20) (h2 : ¬ tc = 40) (hn : ne ≤ 20) : EXW tx n S0 sc rc r9 v3 msn mac man mih mrn mcc mrs mef or0 oo0 op0 oa0 from_ first 1 0 (nxT tx n tok) (tc + 1) (fm + 1) (ne + 1) orders occs orr oo op oa (zU fr fm 5) (zU ff fm v) := by
  have e := w_exr h (by decide)
  have g := exr_rng e
  have b := h.1
  have z := e_min_ok (v := v) e hs (by omega)
  rw [show fm - 1 + 1 = fm by omega] at z
  exact w_mk h.1.1 (by omega) (by omega) z (by omega) (by decide) (g_push h.2.2.1 b.2.1.1 (by decide)) ((zU_n (by omega)).trans h.2.2.2.1.1) h.2.2.2.2
theorem w_par_bad (h : EXW tx n S0 sc rc r9 v3 msn mac man mih mrn mcc mrs mef or0 oo0 op0 oa0 from_ first 1 0 tok tc fm ne orders occs orr oo op oa fr ff) (hs : (kMS tx n tok = 4 ∧ kMT tx n tok = 40)) (hb : ne = 20 ∨ tc = 40) : RF tx n S0 4 tok := by
  exact e_par_bad (w_exr h (by decide)) hs (by omega)
theorem w_par_ok {v : Int} (h : EXW tx n S0 sc rc r9 v3 msn mac man mih mrn mcc mrs mef or0 oo0 op0 oa0 from_ first 1 0 tok tc fm ne orders occs orr oo op oa fr ff) (hs : (kMS tx n tok = 4 ∧ kMT tx n tok = 40)) (h1 : ¬ ne = 20) (h2 : ¬ tc = 40) (hn : ne ≤ 20) : EXW tx n S0 sc rc r9 v3 msn mac man mih mrn mcc mrs mef or0 oo0 op0 oa0 from_ first 0 0 (nxT tx n tok) (tc + 1) (fm + 1) (ne + 1) orders occs orr oo op oa (zU fr fm 4) (zU ff fm v) := by
  have e := w_exr h (by decide)
  have g := exr_rng e
  have b := h.1
  have z := e_par_ok (v := v) e hs (by omega)
  rw [show fm - 1 + 1 = fm by omega] at z
  exact w_mk h.1.1 (by omega) (by omega) z (by omega) (by decide) (g_push h.2.2.1 b.2.1.1 (by decide)) ((zU_n (by omega)).trans h.2.2.2.1.1) h.2.2.2.2
theorem w_part (h : EXW tx n S0 sc rc r9 v3 msn mac man mih mrn mcc mrs mef or0 oo0 op0 oa0 from_ first 0 0 tok tc fm ne orders occs orr oo op oa fr ff) (hs : ¬ (kMS tx n tok = 2 ∧ kMT tx n tok = 6)) : EXW tx n S0 sc rc r9 v3 msn mac man mih mrn mcc mrs mef or0 oo0 op0 oa0 from_ first 1 0 tok tc fm ne orders occs orr oo op oa fr ff := by
  have e := w_exr h (by decide)
  have g := exr_rng e
  have b := h.1
  have z := e_part e hs
  exact w_mk h.1.1 (by omega) (by omega) z (by omega) (by decide) h.2.2.1 h.2.2.2.1.1 h.2.2.2.2
theorem w_part_bad (h : EXW tx n S0 sc rc r9 v3 msn mac man mih mrn mcc mrs mef or0 oo0 op0 oa0 from_ first 1 0 tok tc fm ne orders occs orr oo op oa fr ff) (h1 : ¬ (kMS tx n tok = 4 ∧ kMT tx n tok = 45)) (h2 : ¬ (kMS tx n tok = 4 ∧ kMT tx n tok = 40)) (h3 : ¬ (kMS tx n tok = 2 ∧ kMT tx n tok = 5)) (h4 : ¬ kMS tx n tok = 3) : RF tx n S0 1 tok := by
  exact e_part_bad (w_exr h (by decide)) h1 h2 h3 h4
theorem w_own_bad (h : EXW tx n S0 sc rc r9 v3 msn mac man mih mrn mcc mrs mef or0 oo0 op0 oa0 from_ first 1 0 tok tc fm ne orders occs orr oo op oa fr ff) (hs : (kMS tx n tok = 2 ∧ kMT tx n tok = 5)) (hb : tc = 40) : RF tx n S0 4 tok := by
  exact e_own_bad (w_exr h (by decide)) hs (by omega)
theorem w_own_ok {v : Int} (h : EXW tx n S0 sc rc r9 v3 msn mac man mih mrn mcc mrs mef or0 oo0 op0 oa0 from_ first 1 0 tok tc fm ne orders occs orr oo op oa fr ff) (hs : (kMS tx n tok = 2 ∧ kMT tx n tok = 5)) (hb : ¬ tc = 40) : EXW tx n S0 sc rc r9 v3 msn mac man mih mrn mcc mrs mef or0 oo0 op0 oa0 from_ first 2 1 (nxT tx n tok) (tc + 1) fm ne (orders + 1) occs (zU orr orders 1) (zU oo orders v) op oa fr ff := by
  have e := w_exr h (by decide)
  have g := exr_rng e
  have b := h.1
  have z := e_own_ok e hs (by omega)
  exact w_mk h.1.1 (by omega) (by omega) z (by omega) (by decide) (g_emit h.2.2.1 b.2.2.1.2 b.2.1 (Int.le_refl _) (Or.inr (Or.inl rfl))) h.2.2.2.1.1 (exv_zu h.2.2.2.2 b.2.2.1.2)
theorem w_num_bad4 (h : EXW tx n S0 sc rc r9 v3 msn mac man mih mrn mcc mrs mef or0 oo0 op0 oa0 from_ first 1 0 tok tc fm ne orders occs orr oo op oa fr ff) (hs : kMS tx n tok = 3) (hd : ¬ (nxT tx n tok < n ∧ tx (nxT tx n tok) = 46)) (hb : tc = 40) : RF tx n S0 4 tok := by
  exact e_num_bad4 (w_exr h (by decide)) hs hd (by omega)
theorem w_num_bad5 (h : EXW tx n S0 sc rc r9 v3 msn mac man mih mrn mcc mrs mef or0 oo0 op0 oa0 from_ first 1 0 tok tc fm ne orders occs orr oo op oa fr ff) (hs : kMS tx n tok = 3) (hd : ¬ (nxT tx n tok < n ∧ tx (nxT tx n tok) = 46)) (hb : ¬ tc = 40) (h5 : 2147483647 < kMT tx n tok) : RF tx n S0 5 tok := by
  have g := exr_rng (w_exr h (by decide))
  exact e_num_bad5 (w_exr h (by decide)) hs hd (by omega) h5
theorem w_num_ok {v : Int} (h : EXW tx n S0 sc rc r9 v3 msn mac man mih mrn mcc mrs mef or0 oo0 op0 oa0 from_ first 1 0 tok tc fm ne orders occs orr oo op oa fr ff) (hs : kMS tx n tok = 3) (hd : ¬ (nxT tx n tok < n ∧ tx (nxT tx n tok) = 46)) (hb : ¬ tc = 40) (h5 : ¬ 2147483647 < kMT tx n tok) : EXW tx n S0 sc rc r9 v3 msn mac man mih mrn mcc mrs mef or0 oo0 op0 oa0 from_ first 2 1 (nxT tx n tok) (tc + 1) fm ne (orders + 1) occs (zU orr orders 0) (zU oo orders v) op oa fr ff := by
  have e := w_exr h (by decide)
  have g := exr_rng e
  have b := h.1
  have z := e_num_ok e hs hd (by omega) h5
  exact w_mk h.1.1 (by omega) (by omega) z (by omega) (by decide) (g_emit h.2.2.1 b.2.2.1.2 b.2.1 (Int.le_refl _) (Or.inl rfl)) h.2.2.2.1.1 (exv_zu h.2.2.2.2 b.2.2.1.2)
theorem w_occ_ok (h : EXW tx n S0 sc rc r9 v3 msn mac man mih mrn mcc mrs mef or0 oo0 op0 oa0 from_ first 1 0 tok0 tc0 fm ne orders occs orr oo op oa fr ff) (ho : EXO tx n S0 2 tok sc rc v3 tc xp msn mac man mih mrn mcc mrs mef (fm - 1) fr ff ne) (hs : kMS tx n tok = 1) (hxp : 0 ≤ xp ∧ xp ≤ mcc r9) (hf2 : 0 ≤ (kLst (fun j => man (6 * (mrs (4 * r9 + xp)) + j)) (mac (mrs (4 * r9 + xp))) (kMT tx n tok))) (hf3 : (kLst (fun j => man (6 * (mrs (4 * r9 + xp)) + j)) (mac (mrs (4 * r9 + xp))) (kMT tx n tok)) < mac (mrs (4 * r9 + xp))) (hb : ¬ tc = 40) (hb2 : tc ≤ 40) : EXW tx n S0 sc rc r9 v3 msn mac man mih mrn mcc mrs mef or0 oo0 op0 oa0 from_ first 2 1 (nxT tx n tok) (tc + 1) fm ne (orders + 1) (occs + 1) (zU orr orders 2) (zU oo orders occs) (zU op occs xp) (zU oa occs (kLst (fun j => man (6 * (mrs (4 * r9 + xp)) + j)) (mac (mrs (4 * r9 + xp))) (kMT tx n tok))) fr ff := by
  have b := h.1
  have z := o_nm_s b.1.1 ho hs b.1.2 hxp hf2 (by omega)
  exact w_mk h.1.1 (by omega) (by omega) z (by omega) (by decide) (g_emit h.2.2.1 b.2.2.1.2 b.2.1 (by omega) (Or.inr (Or.inr ⟨rfl, by omega, by omega⟩))) h.2.2.2.1.1 (exv_occ (exv_zu h.2.2.2.2 b.2.2.1.2) hxp ⟨hf2, hf3⟩ b.2.2.2.2)
theorem w_top (h : EXW tx n S0 sc rc r9 v3 msn mac man mih mrn mcc mrs mef or0 oo0 op0 oa0 from_ first ph d tok tc fm ne orders occs orr oo op oa fr ff) (hf : ¬ fr (fm - 1) = 0) : 2 ≤ fm := by
  have b := h.1.2.1
  by_cases q : fm = 1
  · rw [q, show (1 : Int) - 1 = 0 by decide, h.2.2.2.1.1] at hf
    exact absurd rfl hf
  · omega
theorem w_uns {v : Int} (h : EXW tx n S0 sc rc r9 v3 msn mac man mih mrn mcc mrs mef or0 oo0 op0 oa0 from_ first 2 1 tok tc fm ne orders occs orr oo op oa fr ff) (hf : fr (fm - 1) = 5) : EXW tx n S0 sc rc r9 v3 msn mac man mih mrn mcc mrs mef or0 oo0 op0 oa0 from_ first 2 1 tok tc (fm - 1) (ne - 1) (orders + 1) occs (zU orr orders 3) (zU oo orders v) op oa fr ff := by
  have e := w_exr h (by decide)
  have g := exr_rng e
  have b := h.1
  have t := w_top h (by omega)
  have z := e_uns e (by omega) hf
  exact w_mk h.1.1 (by omega) (by omega) z (by omega) (by decide) (g_minus h.2.2.1 b.2.2.1.2 ⟨t, b.2.1.2⟩ hf) h.2.2.2.1.1 (exv_zu h.2.2.2.2 b.2.2.1.2)
theorem w_ph {b9 : Int} (h : EXW tx n S0 sc rc r9 v3 msn mac man mih mrn mcc mrs mef or0 oo0 op0 oa0 from_ first 2 1 tok tc fm ne orders occs orr oo op oa fr ff) (hf : ¬ fr (fm - 1) = 5) (hb : 1 ≤ b9 ∧ b9 ≤ 4) (hp : ph = b9 + 10) : EXW tx n S0 sc rc r9 v3 msn mac man mih mrn mcc mrs mef or0 oo0 op0 oa0 from_ first ph 1 tok tc fm ne orders occs orr oo op oa fr ff := by
  have e := w_exr h (by decide)
  have g := exr_rng e
  have b := h.1
  subst hp
  have z := e_ph (b := b9) e (Or.inr hf) hb
  exact w_mk h.1.1 (by omega) (by omega) z (by omega) (by omega) h.2.2.1 h.2.2.2.1.1 h.2.2.2.2
theorem w_sec {b9 v : Int} (h : EXW tx n S0 sc rc r9 v3 msn mac man mih mrn mcc mrs mef or0 oo0 op0 oa0 from_ first ph 1 tok tc fm ne orders occs orr oo op oa fr ff) (hp : ph = 20 ∨ (ph = b9 + 10 ∧ 2 ≤ b9 ∧ b9 ≤ 4)) (hf : fr (fm - 1) = 6) (hl : b9 - 1 ≤ kLv (ff (fm - 1))) : EXW tx n S0 sc rc r9 v3 msn mac man mih mrn mcc mrs mef or0 oo0 op0 oa0 from_ first ph 1 tok tc (fm - 1) ne (orders + 1) occs (zU orr orders 4) (zU oo orders v) op oa fr ff := by
  have b := h.1
  have t := w_top h (by omega)
  have gs := g_sign (v := v) h.2.2.1 b.2.2.1.2 ⟨t, b.2.1.2⟩ hf
  have vs := exv_zu (q := orders) (v := 4) (u := v) h.2.2.2.2 b.2.2.1.2
  rcases hp with rfl | ⟨rfl, hb⟩
  · exact ⟨⟨b.1, ⟨by omega, by omega⟩, by omega, b.2.2.2⟩, (h.2.1.elim (fun z => Or.inl z) (fun z => absurd rfl z.1)), gs, ⟨h.2.2.2.1.1, fun i hi => h.2.2.2.1.2 i (by omega)⟩, vs⟩
  · have z := e_sec (w_exr h (by omega)) hb (by omega) hf hl
    exact w_mk h.1.1 (by omega) (by omega) z (by omega) (by omega) gs h.2.2.2.1.1 vs
theorem w_bin4_bad (h : EXW tx n S0 sc rc r9 v3 msn mac man mih mrn mcc mrs mef or0 oo0 op0 oa0 from_ first 14 1 tok tc fm ne orders occs orr oo op oa fr ff) (hd : ¬ fr (fm - 1) = 6 ∨ kLv (ff (fm - 1)) < 3) (hs : kMS tx n tok = 4) (hs2 : kBn (kMT tx n tok) = 4) (hb : tc = 40) : RF tx n S0 4 tok := by
  exact e_bin4_bad (w_exr h (by decide)) (Or.inr hd) hs hs2 (by omega)
theorem w_bin4_ok (h : EXW tx n S0 sc rc r9 v3 msn mac man mih mrn mcc mrs mef or0 oo0 op0 oa0 from_ first 14 1 tok tc fm ne orders occs orr oo op oa fr ff) (hd : ¬ fr (fm - 1) = 6 ∨ kLv (ff (fm - 1)) < 3) (hs : kMS tx n tok = 4) (hs2 : kBn (kMT tx n tok) = 4) (hb : ¬ tc = 40) : EXW tx n S0 sc rc r9 v3 msn mac man mih mrn mcc mrs mef or0 oo0 op0 oa0 from_ first 1 0 (nxT tx n tok) (tc + 1) (fm + 1) ne orders occs orr oo op oa (zU fr fm 6) (zU ff fm (kMT tx n tok)) := by
  have e := w_exr h (by decide)
  have g := exr_rng e
  have b := h.1
  have z := e_bin4_ok e (Or.inr hd) hs hs2 (by omega)
  rw [show fm - 1 + 1 = fm by omega] at z
  exact w_mk h.1.1 (by omega) (by omega) z (by omega) (by decide) (g_pushS h.2.2.1 b.2.1.1) ((zU_n (by omega)).trans h.2.2.2.1.1) h.2.2.2.2
theorem w_bin3_bad (h : EXW tx n S0 sc rc r9 v3 msn mac man mih mrn mcc mrs mef or0 oo0 op0 oa0 from_ first 13 1 tok tc fm ne orders occs orr oo op oa fr ff) (hd : ¬ fr (fm - 1) = 6 ∨ kLv (ff (fm - 1)) < 2) (hs : kMS tx n tok = 4) (hs2 : kBn (kMT tx n tok) = 3) (hb : tc = 40) : RF tx n S0 4 tok := by
  exact e_bin3_bad (w_exr h (by decide)) (Or.inr hd) hs hs2 (by omega)
theorem w_bin3_ok (h : EXW tx n S0 sc rc r9 v3 msn mac man mih mrn mcc mrs mef or0 oo0 op0 oa0 from_ first 13 1 tok tc fm ne orders occs orr oo op oa fr ff) (hd : ¬ fr (fm - 1) = 6 ∨ kLv (ff (fm - 1)) < 2) (hs : kMS tx n tok = 4) (hs2 : kBn (kMT tx n tok) = 3) (hb : ¬ tc = 40) : EXW tx n S0 sc rc r9 v3 msn mac man mih mrn mcc mrs mef or0 oo0 op0 oa0 from_ first 1 0 (nxT tx n tok) (tc + 1) (fm + 1) ne orders occs orr oo op oa (zU fr fm 6) (zU ff fm (kMT tx n tok)) := by
  have e := w_exr h (by decide)
  have g := exr_rng e
  have b := h.1
  have z := e_bin3_ok e (Or.inr hd) hs hs2 (by omega)
  rw [show fm - 1 + 1 = fm by omega] at z
  exact w_mk h.1.1 (by omega) (by omega) z (by omega) (by decide) (g_pushS h.2.2.1 b.2.1.1) ((zU_n (by omega)).trans h.2.2.2.1.1) h.2.2.2.2
theorem w_cmp_bad4 (h : EXW tx n S0 sc rc r9 v3 msn mac man mih mrn mcc mrs mef or0 oo0 op0 oa0 from_ first 13 1 tok tc fm ne orders occs orr oo op oa fr ff) (hd : ¬ fr (fm - 1) = 6 ∨ kLv (ff (fm - 1)) < 2) (hs : kMS tx n tok = 4) (hs2 : kBn (kMT tx n tok) = 2) (h6 : ¬ fr (fm - 1) = 6) (hb : tc = 40) : RF tx n S0 4 tok := by
  exact e_cmp_bad4 (w_exr h (by decide)) (Or.inr hd) hs hs2 (Or.inr h6) (by omega)
theorem w_cmp_ok (h : EXW tx n S0 sc rc r9 v3 msn mac man mih mrn mcc mrs mef or0 oo0 op0 oa0 from_ first 13 1 tok tc fm ne orders occs orr oo op oa fr ff) (hd : ¬ fr (fm - 1) = 6 ∨ kLv (ff (fm - 1)) < 2) (hs : kMS tx n tok = 4) (hs2 : kBn (kMT tx n tok) = 2) (h6 : ¬ fr (fm - 1) = 6) (hb : ¬ tc = 40) : EXW tx n S0 sc rc r9 v3 msn mac man mih mrn mcc mrs mef or0 oo0 op0 oa0 from_ first 1 0 (nxT tx n tok) (tc + 1) (fm + 1) ne orders occs orr oo op oa (zU fr fm 6) (zU ff fm (kMT tx n tok)) := by
  have e := w_exr h (by decide)
  have g := exr_rng e
  have b := h.1
  have z := e_cmp_ok e (Or.inr hd) hs hs2 (Or.inr h6) (by omega)
  rw [show fm - 1 + 1 = fm by omega] at z
  exact w_mk h.1.1 (by omega) (by omega) z (by omega) (by decide) (g_pushS h.2.2.1 b.2.1.1) ((zU_n (by omega)).trans h.2.2.2.1.1) h.2.2.2.2
theorem w_cmp1 (h : EXW tx n S0 sc rc r9 v3 msn mac man mih mrn mcc mrs mef or0 oo0 op0 oa0 from_ first 13 1 tok tc fm ne orders occs orr oo op oa fr ff) (hd : ¬ fr (fm - 1) = 6 ∨ kLv (ff (fm - 1)) < 2) (hs : kMS tx n tok = 4) (hs2 : kBn (kMT tx n tok) = 2) (h6 : fr (fm - 1) = 6) : EXW tx n S0 sc rc r9 v3 msn mac man mih mrn mcc mrs mef or0 oo0 op0 oa0 from_ first 20 1 tok tc fm ne orders occs orr oo op oa fr ff := by
  have t := w_top h (by omega)
  have z := e_cmp_bad1 (w_exr h (by decide)) (Or.inr hd) hs hs2 (by omega) h6
  exact ⟨h.1, Or.inl ⟨rfl, z, hs, hs2⟩, h.2.2⟩
theorem w_end (h : EXW tx n S0 sc rc r9 v3 msn mac man mih mrn mcc mrs mef or0 oo0 op0 oa0 from_ first 12 1 tok tc fm ne orders occs orr oo op oa fr ff) (hd : ¬ fr (fm - 1) = 6 ∨ kLv (ff (fm - 1)) < 1) (ho : ¬ OPT tx n tok) : EXW tx n S0 sc rc r9 v3 msn mac man mih mrn mcc mrs mef or0 oo0 op0 oa0 from_ first 3 1 tok tc fm ne orders occs orr oo op oa fr ff := by
  have e := w_exr h (by decide)
  have g := exr_rng e
  have b := h.1
  have z := e_end e (Or.inr hd) ho
  exact w_mk h.1.1 (by omega) (by omega) z (by omega) (by decide) h.2.2.1 h.2.2.2.1.1 h.2.2.2.2
theorem w_then_bad1 (h : EXW tx n S0 sc rc r9 v3 msn mac man mih mrn mcc mrs mef or0 oo0 op0 oa0 from_ first ph 1 tok tc fm ne orders occs orr oo op oa fr ff) (hp : ph = 3 ∨ ph = 20) (hf : fr (fm - 1) = 1) (hs : ¬ (kMS tx n tok = 2 ∧ kMT tx n tok = 7)) : RF tx n S0 1 tok := by
  have t := w_top h (by omega)
  rcases hp with rfl | rfl
  · exact e_if_end (w_exr h (by decide)) (by omega) hf hs
  · exact h.2.1.elim (fun z => z.2.1) (fun z => absurd rfl z.1)
theorem w_then_bad4 (h : EXW tx n S0 sc rc r9 v3 msn mac man mih mrn mcc mrs mef or0 oo0 op0 oa0 from_ first ph 1 tok tc fm ne orders occs orr oo op oa fr ff) (hp : ph = 3 ∨ ph = 20) (hf : fr (fm - 1) = 1) (hs : (kMS tx n tok = 2 ∧ kMT tx n tok = 7)) (hb : tc = 40) : RF tx n S0 4 tok := by
  have t := w_top h (by omega)
  rcases hp with rfl | rfl
  · exact e_then_bad4 (w_exr h (by decide)) (by omega) hf hs (by omega)
  · exact h.2.1.elim (fun z => absurd (z.2.2.1.symm.trans hs.1) (by decide)) (fun z => absurd rfl z.1)
theorem w_then_ok {v : Int} (h : EXW tx n S0 sc rc r9 v3 msn mac man mih mrn mcc mrs mef or0 oo0 op0 oa0 from_ first ph 1 tok tc fm ne orders occs orr oo op oa fr ff) (hp : ph = 3 ∨ ph = 20) (hf : fr (fm - 1) = 1) (hs : (kMS tx n tok = 2 ∧ kMT tx n tok = 7)) (hb : ¬ tc = 40) : EXW tx n S0 sc rc r9 v3 msn mac man mih mrn mcc mrs mef or0 oo0 op0 oa0 from_ first 0 0 (nxT tx n tok) (tc + 1) fm ne (orders + 1) occs (zU orr orders 5) (zU oo orders v) op oa (zU fr (fm - 1) 2) (zU ff (fm - 1) orders) := by
  have t := w_top h (by omega)
  rcases hp with rfl | rfl
  · have e := w_exr h (by decide)
    have g := exr_rng e
    have b := h.1
    have z := e_then_ok (v := orders) e (by omega) hf hs (by omega)
    exact w_mk h.1.1 (by omega) (by omega) z (by omega) (by decide) (g_then h.2.2.1 b.2.2.1.2 ⟨t, b.2.1.2⟩ hf) ((zU_n (by omega)).trans h.2.2.2.1.1) (exv_zu h.2.2.2.2 b.2.2.1.2)
  · exact h.2.1.elim (fun z => absurd (z.2.2.1.symm.trans hs.1) (by decide)) (fun z => absurd rfl z.1)
theorem w_else_bad1 (h : EXW tx n S0 sc rc r9 v3 msn mac man mih mrn mcc mrs mef or0 oo0 op0 oa0 from_ first ph 1 tok tc fm ne orders occs orr oo op oa fr ff) (hp : ph = 3 ∨ ph = 20) (hf : fr (fm - 1) = 2) (hs : ¬ (kMS tx n tok = 2 ∧ kMT tx n tok = 8)) : RF tx n S0 1 tok := by
  have t := w_top h (by omega)
  rcases hp with rfl | rfl
  · exact e_then_end (w_exr h (by decide)) (by omega) hf hs
  · exact h.2.1.elim (fun z => z.2.1) (fun z => absurd rfl z.1)
theorem w_else_bad4 (h : EXW tx n S0 sc rc r9 v3 msn mac man mih mrn mcc mrs mef or0 oo0 op0 oa0 from_ first ph 1 tok tc fm ne orders occs orr oo op oa fr ff) (hp : ph = 3 ∨ ph = 20) (hf : fr (fm - 1) = 2) (hs : (kMS tx n tok = 2 ∧ kMT tx n tok = 8)) (hb : tc = 40) : RF tx n S0 4 tok := by
  have t := w_top h (by omega)
  rcases hp with rfl | rfl
  · exact e_else_bad4 (w_exr h (by decide)) (by omega) hf hs (by omega)
  · exact h.2.1.elim (fun z => absurd (z.2.2.1.symm.trans hs.1) (by decide)) (fun z => absurd rfl z.1)
theorem w_idx2 (h : EXW tx n S0 sc rc r9 v3 msn mac man mih mrn mcc mrs mef or0 oo0 op0 oa0 from_ first ph d tok tc fm ne orders occs orr oo op oa fr ff) (hf : fr (fm - 1) = 2) : from_ ≤ ff (fm - 1) ∧ ff (fm - 1) < orders := by
  have t := w_top h (by omega)
  obtain ⟨ht, -, -, -, q⟩ := h.2.2.1
  exact ((q (fm - 1) (by omega)).1 hf).1
theorem w_idx3 (h : EXW tx n S0 sc rc r9 v3 msn mac man mih mrn mcc mrs mef or0 oo0 op0 oa0 from_ first ph d tok tc fm ne orders occs orr oo op oa fr ff) (hf : fr (fm - 1) = 3) : 0 ≤ ff (fm - 1) ∧ (from_ ≤ ff (fm - 1) % 4096 ∧ ff (fm - 1) % 4096 < orders) := by
  have t := w_top h (by omega)
  obtain ⟨ht, -, -, -, q⟩ := h.2.2.1
  have z := (q (fm - 1) (by omega)).2 hf
  exact ⟨z.1, z.2.1⟩
theorem w_else_ok {v w : Int} (h : EXW tx n S0 sc rc r9 v3 msn mac man mih mrn mcc mrs mef or0 oo0 op0 oa0 from_ first ph 1 tok tc fm ne orders occs orr oo op oa fr ff) (hp : ph = 3 ∨ ph = 20) (hf : fr (fm - 1) = 2) (hs : (kMS tx n tok = 2 ∧ kMT tx n tok = 8)) (hb : ¬ tc = 40) (hor : orders < 4096) (hw : w = ff (fm - 1) * 4096 + orders) : EXW tx n S0 sc rc r9 v3 msn mac man mih mrn mcc mrs mef or0 oo0 op0 oa0 from_ first 0 0 (nxT tx n tok) (tc + 1) fm ne (orders + 1) occs (zU orr orders 6) (zU (zU oo (ff (fm - 1)) (orders + 1)) orders v) op oa (zU fr (fm - 1) 3) (zU ff (fm - 1) w) := by
  have t := w_top h (by omega)
  rcases hp with rfl | rfl
  · have e := w_exr h (by decide)
    have g := exr_rng e
    have b := h.1
    have z := e_else_ok (v := w) e (by omega) hf hs (by omega)
    have i2 := w_idx2 h hf
    exact w_mk h.1.1 (by omega) (by omega) z (by omega) (by decide) (g_else h.2.2.1 ⟨b.2.2.1.1, b.2.2.1.2, hor⟩ ⟨t, b.2.1.2⟩ hf hw) ((zU_n (by omega)).trans h.2.2.2.1.1) (exv_or h.2.2.2.2 (fun p hp => ⟨zU_n (by omega), by rw [zU_n (by omega), zU_n (by omega)]⟩))
  · exact h.2.1.elim (fun z => absurd (z.2.2.1.symm.trans hs.1) (by decide)) (fun z => absurd rfl z.1)
theorem w_elseend (h : EXW tx n S0 sc rc r9 v3 msn mac man mih mrn mcc mrs mef or0 oo0 op0 oa0 from_ first ph 1 tok tc fm ne orders occs orr oo op oa fr ff) (hp : ph = 3 ∨ ph = 20) (hf : fr (fm - 1) = 3) : EXW tx n S0 sc rc r9 v3 msn mac man mih mrn mcc mrs mef or0 oo0 op0 oa0 from_ first ph 1 tok tc (fm - 1) (ne - 1) orders occs orr (zU oo (ff (fm - 1) % 4096) orders) op oa fr ff := by
  have t := w_top h (by omega)
  have b := h.1
  have i3 := w_idx3 h hf
  have gs := g_elseend h.2.2.1 b.2.2.1 ⟨t, b.2.1.2⟩ hf
  have vs := exv_oo (q := ff (fm - 1) % 4096) (u := orders) h.2.2.2.2 i3.2.1
  rcases hp with rfl | rfl
  · have z := e_else_end (w_exr h (by decide)) (by omega) hf
    exact w_mk h.1.1 (by omega) (by omega) z (by omega) (by decide) gs h.2.2.2.1.1 vs
  · exact ⟨⟨b.1, ⟨by omega, by omega⟩, b.2.2.1, b.2.2.2⟩, (h.2.1.elim (fun z => Or.inl z) (fun z => absurd rfl z.1)), gs, ⟨h.2.2.2.1.1, fun i hi => h.2.2.2.1.2 i (by omega)⟩, vs⟩
theorem w_cl_bad1 (h : EXW tx n S0 sc rc r9 v3 msn mac man mih mrn mcc mrs mef or0 oo0 op0 oa0 from_ first ph 1 tok tc fm ne orders occs orr oo op oa fr ff) (hp : ph = 3 ∨ ph = 20) (hf : ¬ fr (fm - 1) = 0 ∧ ¬ fr (fm - 1) = 1 ∧ ¬ fr (fm - 1) = 2 ∧ ¬ fr (fm - 1) = 3) (hs : ¬ (kMS tx n tok = 4 ∧ kMT tx n tok = 41)) : RF tx n S0 1 tok := by
  have t := w_top h hf.1
  rcases hp with rfl | rfl
  · have e := w_exr h (by decide)
    have e3 := exr3_top e (by omega)
    have f4 : fr (fm - 1) = 4 := by omega
    exact e_par_end e (by omega) f4 hs
  · exact h.2.1.elim (fun z => z.2.1) (fun z => absurd rfl z.1)
theorem w_cl_bad4 (h : EXW tx n S0 sc rc r9 v3 msn mac man mih mrn mcc mrs mef or0 oo0 op0 oa0 from_ first ph 1 tok tc fm ne orders occs orr oo op oa fr ff) (hp : ph = 3 ∨ ph = 20) (hf : ¬ fr (fm - 1) = 0 ∧ ¬ fr (fm - 1) = 1 ∧ ¬ fr (fm - 1) = 2 ∧ ¬ fr (fm - 1) = 3) (hs : (kMS tx n tok = 4 ∧ kMT tx n tok = 41)) (hb : tc = 40) : RF tx n S0 4 tok := by
  have t := w_top h hf.1
  rcases hp with rfl | rfl
  · have e := w_exr h (by decide)
    have e3 := exr3_top e (by omega)
    have f4 : fr (fm - 1) = 4 := by omega
    exact e_close_bad4 e (by omega) f4 hs (by omega)
  · exact h.2.1.elim (fun z => absurd (by rw [hs.2] at z; exact z.2.2.2) (by decide : ¬ kBn 41 = 2)) (fun z => absurd rfl z.1)
theorem w_cl_ok (h : EXW tx n S0 sc rc r9 v3 msn mac man mih mrn mcc mrs mef or0 oo0 op0 oa0 from_ first ph 1 tok tc fm ne orders occs orr oo op oa fr ff) (hp : ph = 3 ∨ ph = 20) (hf : ¬ fr (fm - 1) = 0 ∧ ¬ fr (fm - 1) = 1 ∧ ¬ fr (fm - 1) = 2 ∧ ¬ fr (fm - 1) = 3) (hs : (kMS tx n tok = 4 ∧ kMT tx n tok = 41)) (hb : ¬ tc = 40) : EXW tx n S0 sc rc r9 v3 msn mac man mih mrn mcc mrs mef or0 oo0 op0 oa0 from_ first 2 1 (nxT tx n tok) (tc + 1) (fm - 1) (ne - 1) orders occs orr oo op oa fr ff := by
  have t := w_top h hf.1
  rcases hp with rfl | rfl
  · have e := w_exr h (by decide)
    have e3 := exr3_top e (by omega)
    have f4 : fr (fm - 1) = 4 := by omega
    have b := h.1
    have g := exr_rng e
    have z := e_close_ok e (by omega) f4 hs (by omega)
    exact w_mk h.1.1 (by omega) (by omega) z (by omega) (by decide) (g_pop h.2.2.1 t (by omega)) h.2.2.2.1.1 h.2.2.2.2
  · exact h.2.1.elim (fun z => absurd (by rw [hs.2] at z; exact z.2.2.2) (by decide : ¬ kBn 41 = 2)) (fun z => absurd rfl z.1)
theorem w_one (h : EXW tx n S0 sc rc r9 v3 msn mac man mih mrn mcc mrs mef or0 oo0 op0 oa0 from_ first ph d tok tc fm ne orders occs orr oo op oa fr ff) (hf : fr (fm - 1) = 0) : fm = 1 := by
  have b := h.1.2.1
  by_cases q : fm = 1
  · exact q
  · have z := h.2.2.2.1.2 (fm - 1) (by omega)
    omega
theorem w_fin_bad (h : EXW tx n S0 sc rc r9 v3 msn mac man mih mrn mcc mrs mef or0 oo0 op0 oa0 from_ first ph 1 tok tc 1 ne orders occs orr oo op oa fr ff) (hp : ph = 3 ∨ ph = 20) (hs : ¬ (kMS tx n tok = 4 ∧ kMT tx n tok = 59)) : RF tx n S0 1 tok := by
  rcases hp with rfl | rfl
  · exact e_whole_bad (w_exr h (by decide)) (by decide) hs
  · exact h.2.1.elim (fun z => z.2.1) (fun z => absurd rfl z.1)
theorem w_fin {u1 u2 u3 v : Int} (h : EXW tx n S0 sc rc r9 v3 msn mac man mih mrn mcc mrs mef or0 oo0 op0 oa0 from_ first ph 1 tok tc 1 ne orders occs orr oo op oa fr ff) (hp : ph = 3 ∨ ph = 20) (hs : (kMS tx n tok = 4 ∧ kMT tx n tok = 59)) (hor : orders < 4000) : RSt tx n S0 9 (nxT tx n tok) rc u1 u2 u3 sc rc msn mac man mih mrn mcc mrs (zU mef v3 from_) ∧ WFE (zU orr orders 7) (zU oo orders v) first occs from_ orders := by
  rcases hp with rfl | rfl
  · have b := h.1
    have e := w_exr h (by decide)
    rw [show (1 : Int) - 1 = 0 by decide] at e
    exact ⟨e_fin e hs b.2.2.1.1, g_fin h.2.2.1 ⟨b.2.2.1.1, b.2.2.1.2, hor⟩ h.2.2.2.1.1⟩
  · exact h.2.1.elim (fun z => absurd (by rw [hs.2] at z; exact z.2.2.2) (by decide : ¬ kBn 59 = 2)) (fun z => absurd rfl z.1)
theorem w_start {v1 v2 : Int} (h : RSt tx n S0 13 tok rc v1 v2 v3 sc rc msn mac man mih mrn mcc mrs mef) (hs : (kMS tx n tok = 4 ∧ kMT tx n tok = 61)) (hr : r9 = rc - 1 ∧ 1 ≤ rc) (ho : 0 ≤ orders) (hoc : 0 ≤ occs) (h0 : fr 0 = 0) : EXW tx n S0 sc rc r9 v3 msn mac man mih mrn mcc mrs mef orr oo op oa orders occs 0 0 (nxT tx n tok) 0 1 0 orders occs orr oo op oa fr ff := by
  have z := e_start (fr := fr) (ff := ff) h hs
  exact w_mk hr (by omega) (by omega) z (by decide) (by decide) (g_start h0) h0 ⟨fun p hp => ⟨rfl, rfl⟩, fun j hj => ⟨rfl, rfl⟩, fun j hj => absurd hj (by omega)⟩
theorem w_v (h : EXW tx n S0 sc rc r9 v3 msn mac man mih mrn mcc mrs mef or0 oo0 op0 oa0 from_ first ph d tok tc fm ne orders occs orr oo op oa fr ff) : EXV or0 oo0 op0 oa0 from_ first occs r9 mac mcc mrs orr oo op oa := h.2.2.2.2
end WX
def XWN (tx : Int → Int) (n : Int) (S0 : Nat → Int → Int) (sc rc r9 v3 : Int) (msn mac man mih mrn mcc mrs mef or0 oo0 op0 oa0 : Int → Int) (from_ first mode tok tc fm ne orders occs : Int) (orr oo op oa fr ff : Int → Int) : Prop :=
  (fm = 0 ∧ ∃ ph : Int, (ph = 3 ∨ ph = 20) ∧ EXW tx n S0 sc rc r9 v3 msn mac man mih mrn mcc mrs mef or0 oo0 op0 oa0 from_ first ph 1 tok tc 1 ne orders occs orr oo op oa fr ff) ∨ (1 ≤ fm ∧ ∃ ph d : Int, ((ph = mode ∧ ((0 ≤ ph ∧ ph ≤ 1 ∧ d = 0) ∨ ((ph = 2 ∨ ph = 3) ∧ d = 1))) ∨ (mode = 3 ∧ ph = 20 ∧ d = 1)) ∧ EXW tx n S0 sc rc r9 v3 msn mac man mih mrn mcc mrs mef or0 oo0 op0 oa0 from_ first ph d tok tc fm ne orders occs orr oo op oa fr ff)
section WN
variable {tx : Int → Int} {n : Int} {S0 : Nat → Int → Int} {sc rc r9 v3 : Int} {msn mac man mih mrn mcc mrs mef or0 oo0 op0 oa0 : Int → Int} {from_ first ph d tok tc fm ne orders occs mode : Int} {orr oo op oa fr ff : Int → Int}
theorem xwn_0 (h : EXW tx n S0 sc rc r9 v3 msn mac man mih mrn mcc mrs mef or0 oo0 op0 oa0 from_ first 0 0 tok tc fm ne orders occs orr oo op oa fr ff) : XWN tx n S0 sc rc r9 v3 msn mac man mih mrn mcc mrs mef or0 oo0 op0 oa0 from_ first 0 tok tc fm ne orders occs orr oo op oa fr ff := Or.inr ⟨h.1.2.1.1, 0, 0, Or.inl ⟨rfl, Or.inl ⟨by decide, by decide, rfl⟩⟩, h⟩
theorem xwn_1 (h : EXW tx n S0 sc rc r9 v3 msn mac man mih mrn mcc mrs mef or0 oo0 op0 oa0 from_ first 1 0 tok tc fm ne orders occs orr oo op oa fr ff) : XWN tx n S0 sc rc r9 v3 msn mac man mih mrn mcc mrs mef or0 oo0 op0 oa0 from_ first 1 tok tc fm ne orders occs orr oo op oa fr ff := Or.inr ⟨h.1.2.1.1, 1, 0, Or.inl ⟨rfl, Or.inl ⟨by decide, by decide, rfl⟩⟩, h⟩
theorem xwn_2 (h : EXW tx n S0 sc rc r9 v3 msn mac man mih mrn mcc mrs mef or0 oo0 op0 oa0 from_ first 2 1 tok tc fm ne orders occs orr oo op oa fr ff) : XWN tx n S0 sc rc r9 v3 msn mac man mih mrn mcc mrs mef or0 oo0 op0 oa0 from_ first 2 tok tc fm ne orders occs orr oo op oa fr ff := Or.inr ⟨h.1.2.1.1, 2, 1, Or.inl ⟨rfl, Or.inr ⟨Or.inl rfl, rfl⟩⟩, h⟩
theorem xwn_3 (h : EXW tx n S0 sc rc r9 v3 msn mac man mih mrn mcc mrs mef or0 oo0 op0 oa0 from_ first ph 1 tok tc fm ne orders occs orr oo op oa fr ff) (hp : ph = 3 ∨ ph = 20) : XWN tx n S0 sc rc r9 v3 msn mac man mih mrn mcc mrs mef or0 oo0 op0 oa0 from_ first 3 tok tc fm ne orders occs orr oo op oa fr ff := by
  rcases hp with rfl | rfl
  · exact Or.inr ⟨h.1.2.1.1, 3, 1, Or.inl ⟨rfl, Or.inr ⟨Or.inr rfl, rfl⟩⟩, h⟩
  · exact Or.inr ⟨h.1.2.1.1, 20, 1, Or.inr ⟨rfl, rfl, rfl⟩, h⟩
theorem xwn_f (h : EXW tx n S0 sc rc r9 v3 msn mac man mih mrn mcc mrs mef or0 oo0 op0 oa0 from_ first ph 1 tok tc 1 ne orders occs orr oo op oa fr ff) (hp : ph = 3 ∨ ph = 20) : XWN tx n S0 sc rc r9 v3 msn mac man mih mrn mcc mrs mef or0 oo0 op0 oa0 from_ first mode tok tc 0 ne orders occs orr oo op oa fr ff := Or.inl ⟨rfl, ph, hp, h⟩
theorem xwn_at0 (h : XWN tx n S0 sc rc r9 v3 msn mac man mih mrn mcc mrs mef or0 oo0 op0 oa0 from_ first mode tok tc fm ne orders occs orr oo op oa fr ff) (h1 : 1 ≤ fm) (hm : mode = 0) : EXW tx n S0 sc rc r9 v3 msn mac man mih mrn mcc mrs mef or0 oo0 op0 oa0 from_ first 0 0 tok tc fm ne orders occs orr oo op oa fr ff := by
  subst hm
  rcases h with ⟨h0, -⟩ | ⟨-, ph, d, hq, h⟩
  · omega
  · have e : ph = 0 ∧ d = 0 := by omega
    rw [e.1, e.2] at h
    exact h
theorem xwn_at1 (h : XWN tx n S0 sc rc r9 v3 msn mac man mih mrn mcc mrs mef or0 oo0 op0 oa0 from_ first mode tok tc fm ne orders occs orr oo op oa fr ff) (h1 : 1 ≤ fm) (hm : mode = 1) : EXW tx n S0 sc rc r9 v3 msn mac man mih mrn mcc mrs mef or0 oo0 op0 oa0 from_ first 1 0 tok tc fm ne orders occs orr oo op oa fr ff := by
  subst hm
  rcases h with ⟨h0, -⟩ | ⟨-, ph, d, hq, h⟩
  · omega
  · have e : ph = 1 ∧ d = 0 := by omega
    rw [e.1, e.2] at h
    exact h
theorem xwn_at2 (h : XWN tx n S0 sc rc r9 v3 msn mac man mih mrn mcc mrs mef or0 oo0 op0 oa0 from_ first mode tok tc fm ne orders occs orr oo op oa fr ff) (h1 : 1 ≤ fm) (hm : mode = 2) : EXW tx n S0 sc rc r9 v3 msn mac man mih mrn mcc mrs mef or0 oo0 op0 oa0 from_ first 2 1 tok tc fm ne orders occs orr oo op oa fr ff := by
  subst hm
  rcases h with ⟨h0, -⟩ | ⟨-, ph, d, hq, h⟩
  · omega
  · have e : ph = 2 ∧ d = 1 := by omega
    rw [e.1, e.2] at h
    exact h
theorem xwn_at3 (h : XWN tx n S0 sc rc r9 v3 msn mac man mih mrn mcc mrs mef or0 oo0 op0 oa0 from_ first mode tok tc fm ne orders occs orr oo op oa fr ff) (h1 : 1 ≤ fm) (h0 : ¬ mode = 0) (h2 : ¬ mode = 1) (h3 : ¬ mode = 2) : ∃ ph : Int, (ph = 3 ∨ ph = 20) ∧ EXW tx n S0 sc rc r9 v3 msn mac man mih mrn mcc mrs mef or0 oo0 op0 oa0 from_ first ph 1 tok tc fm ne orders occs orr oo op oa fr ff := by
  rcases h with ⟨h0, -⟩ | ⟨-, ph, d, hq, h⟩
  · omega
  · have e : (ph = 3 ∨ ph = 20) ∧ d = 1 := by omega
    rw [e.2] at h
    exact ⟨ph, e.1, h⟩
theorem xwn_atF (h : XWN tx n S0 sc rc r9 v3 msn mac man mih mrn mcc mrs mef or0 oo0 op0 oa0 from_ first mode tok tc fm ne orders occs orr oo op oa fr ff) (h1 : ¬ 1 ≤ fm) : ∃ ph : Int, (ph = 3 ∨ ph = 20) ∧ EXW tx n S0 sc rc r9 v3 msn mac man mih mrn mcc mrs mef or0 oo0 op0 oa0 from_ first ph 1 tok tc 1 ne orders occs orr oo op oa fr ff := by
  rcases h with ⟨-, h⟩ | ⟨h0, -⟩
  · exact h
  · omega
theorem kLv_rng (c : Int) : 0 ≤ kLv c ∧ kLv c ≤ 3 := by
  unfold kLv
  split <;> (try split) <;> (try split) <;> omega
end WN
