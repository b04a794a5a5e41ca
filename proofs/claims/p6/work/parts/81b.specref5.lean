/-! an expression: what stands behind an operand -/
theorem kBn5 {x : Int} : kBn x = 5 ↔ x = 126 := by
  unfold kBn
  constructor
  · intro h
    by_cases q : x = 126
    · exact q
    · rw [if_neg q] at h
      repeat' split at h
      all_goals omega
  · intro q
    rw [if_pos q]
def kLv (c : Int) : Int := if c = 42 ∨ c = 47 ∨ c = 37 then 3 else if c = 43 ∨ c = 45 then 2 else if c = 60 ∨ c = 61 then 1 else 0
theorem kLv_bn (c : Int) : (2 ≤ kBn c ∧ kBn c ≤ 4 ∧ kLv c = kBn c - 1) ∨ (kLv c = 0 ∧ ¬ (2 ≤ kBn c ∧ kBn c ≤ 4)) := by
  unfold kLv kBn
  by_cases q : c = 126
  · rw [if_pos q, if_neg (by omega), if_neg (by omega), if_neg (by omega)]
    omega
  · rw [if_neg q]
    by_cases q2 : c = 42 ∨ c = 47 ∨ c = 37
    · rw [if_pos q2, if_pos q2]
      omega
    · rw [if_neg q2, if_neg q2]
      by_cases q3 : c = 43 ∨ c = 45
      · rw [if_pos q3, if_pos q3]
        omega
      · rw [if_neg q3, if_neg q3]
        by_cases q4 : c = 60 ∨ c = 61
        · rw [if_pos q4, if_pos q4]
          omega
        · rw [if_neg q4, if_neg q4]
          split <;> omega
theorem bn_kinds {c : Int} (h : 2 ≤ kBn c ∧ kBn c ≤ 4) : (kBn c = 4 ∧ (c = 42 ∨ c = 47 ∨ c = 37)) ∨ (kBn c = 3 ∧ (c = 43 ∨ c = 45)) ∨ (kBn c = 2 ∧ (c = 60 ∨ c = 61)) := by
  unfold kBn at h ⊢
  by_cases q : c = 126
  · rw [if_pos q] at h
    omega
  · rw [if_neg q] at h ⊢
    by_cases q2 : c = 42 ∨ c = 47 ∨ c = 37
    · rw [if_pos q2]
      omega
    · rw [if_neg q2] at h ⊢
      by_cases q3 : c = 43 ∨ c = 45
      · rw [if_pos q3]
        omega
      · rw [if_neg q3] at h ⊢
        by_cases q4 : c = 60 ∨ c = 61
        · rw [if_pos q4]
          omega
        · rw [if_neg q4] at h
          split at h <;> omega
theorem kOpn_sg {c : Int} (h : 2 ≤ kBn c ∧ kBn c ≤ 4) : kOpn c = 0 := by
  have z := bn_kinds h
  unfold kOpn
  rw [if_neg (by omega)]
section EL2
variable {tx : Int → Int} {n : Int} {S0 : Nat → Int → Int} {tok sc rc v3 tc k ne : Int} {msn mac man mih mrn mcc mrs mef fr ff : Int → Int}
variable {b : Int}
theorem e_uns (h : EXR tx n S0 2 tok sc rc v3 tc msn mac man mih mrn mcc mrs mef k fr ff ne) (hk1 : 1 ≤ k) (hf : fr k = 5) : EXR tx n S0 2 tok sc rc v3 tc msn mac man mih mrn mcc mrs mef (k - 1) fr ff (ne - 1) := by
  obtain ⟨ri, tp, ts, be, xst, xop, wc, sn, ac, ic, an, ih, rn, rs, cc, cs, wt, hc, hbe, htok, ht, hfr, hne, hk, hp⟩ := h
  obtain ⟨rfl, rfl⟩ : xst = 3 ∧ wc = kPop wt 5 k := by
    rcases hp with hp | hp | hp | hp | hp
    all_goals first | exact hp.2 | (have z := hp.1; omega)
  have f1 := hfr.1 (k - 1) (by omega)
  rw [show k - 1 + 1 = k by omega] at f1
  have f2 := frr_bn f1
  have op := kOc_pop (wt := wt) (k := k) (by omega)
  rw [kTop_p (show 0 < k by omega)] at op
  have w126 : wt (k - 1) = 126 := kBn5.mp (f2.1.mp hf)
  have p5 : kPop wt 5 k = kPop wt 5 (k - 1) := kPop_t (by omega) (by omega)
  have o1 : kOpn 126 = 1 := by decide
  rw [w126] at op
  rw [p5] at hc
  exact ⟨ri, tp, ts, be, 3, xop, kPop wt 5 (k - 1), sn, ac, ic, an, ih, rn, rs, cc, cs, wt, hc, hbe, htok, ht, frs_sub hfr (by omega), by omega, by omega, Or.inr (Or.inr (Or.inl ⟨rfl, rfl, rfl⟩))⟩
theorem e_ph (h : EXR tx n S0 2 tok sc rc v3 tc msn mac man mih mrn mcc mrs mef k fr ff ne) (hf : k = 0 ∨ ¬ fr k = 5) (hb9 : 1 ≤ b ∧ b ≤ 4) : EXR tx n S0 (b + 10) tok sc rc v3 tc msn mac man mih mrn mcc mrs mef k fr ff ne := by
  obtain ⟨ri, tp, ts, be, xst, xop, wc, sn, ac, ic, an, ih, rn, rs, cc, cs, wt, hc, hbe, htok, ht, hfr, hne, hk, hp⟩ := h
  obtain ⟨rfl, rfl⟩ : xst = 3 ∧ wc = kPop wt 5 k := by
    rcases hp with hp | hp | hp | hp | hp
    all_goals first | exact hp.2 | (have z := hp.1; omega)
  have top5 : ¬ kBn (kTop wt k) = 5 := by
    rcases Int.lt_or_eq_of_le hk.1 with z | z
    · have f1 := hfr.1 (k - 1) (by omega)
      rw [show k - 1 + 1 = k by omega] at f1
      have f2 := frr_bn f1
      rw [kTop_p z]
      omega
    · unfold kTop
      rw [if_neg (by omega)]
      decide
  have bn := kBn_rng (kTop wt k)
  have p5 : kPop wt 5 k = k := kPop_id hk.1 (by decide) (by omega)
  rw [p5] at hc
  exact ⟨ri, tp, ts, be, 3, xop, k, sn, ac, ic, an, ih, rn, rs, cc, cs, wt, hc, hbe, htok, ht, hfr, hne, hk, Or.inr (Or.inr (Or.inr (Or.inr ⟨by omega, by omega, rfl, by omega, rfl, top5⟩)))⟩
theorem e_sec (h : EXR tx n S0 (b + 10) tok sc rc v3 tc msn mac man mih mrn mcc mrs mef k fr ff ne) (hb9 : 2 ≤ b ∧ b ≤ 4) (hk1 : 1 ≤ k) (hf : fr k = 6) (hl : b - 1 ≤ kLv (ff k)) : EXR tx n S0 (b + 10) tok sc rc v3 tc msn mac man mih mrn mcc mrs mef (k - 1) fr ff ne := by
  obtain ⟨ri, tp, ts, be, xst, xop, wc, sn, ac, ic, an, ih, rn, rs, cc, cs, wt, hc, hbe, htok, ht, hfr, hne, hk, hp⟩ := h
  obtain ⟨rfl, hw0, hpw, htop⟩ : xst = 3 ∧ 0 ≤ wc ∧ kPop wt b wc = kPop wt b k ∧ ¬ kBn (kTop wt k) = 5 := by
    rcases hp with hp | hp | hp | hp | ⟨-, -, p1, p2, p3, p4⟩
    all_goals first | (have z := hp.1; omega) | skip
    rw [show b + 10 - 10 = b by omega] at p3
    exact ⟨p1, p2, p3, p4⟩
  have f1 := hfr.1 (k - 1) (by omega)
  rw [show k - 1 + 1 = k by omega] at f1
  have f2 := frr_bn f1
  have op := kOc_pop (wt := wt) (k := k) (by omega)
  rw [kTop_p (show 0 < k by omega)] at op
  have s6 := f2.2.1.mp hf
  have fv : ff k = wt (k - 1) := by
    rcases f1 with y | y | y | y | y | y <;> omega
  have lv := kLv_bn (ff k)
  rw [fv] at lv hl
  have og := kOpn_sg s6
  have t5 : ¬ kBn (kTop wt (k - 1)) = 5 := by
    rcases Int.lt_or_eq_of_le (show 0 ≤ k - 1 by omega) with z | z
    · rw [kTop_p z, kBn5]
      exact hfr.2.2 (k - 1 - 1) (by omega) (by rw [show k - 1 - 1 + 1 = k - 1 by omega]; exact s6)
    · unfold kTop
      rw [if_neg (by omega)]
      decide
  have pb : kPop wt b k = kPop wt b (k - 1) := kPop_t (by omega) (by omega)
  exact ⟨ri, tp, ts, be, 3, xop, wc, sn, ac, ic, an, ih, rn, rs, cc, cs, wt, hc, hbe, htok, ht, frs_sub hfr (by omega), by omega, by omega, Or.inr (Or.inr (Or.inr (Or.inr ⟨by omega, by omega, rfl, hw0, by rw [show b + 10 - 10 = b by omega]; omega, t5⟩)))⟩
theorem e_bin4_bad (h : EXR tx n S0 14 tok sc rc v3 tc msn mac man mih mrn mcc mrs mef k fr ff ne) (hd : k = 0 ∨ ¬ fr k = 6 ∨ kLv (ff k) < 3) (hs : kMS tx n tok = 4) (hs2 : kBn (kMT tx n tok) = 4) (hb4 : 40 ≤ tc) : RF tx n S0 4 tok := by
  obtain ⟨ri, tp, ts, be, xst, xop, wc, sn, ac, ic, an, ih, rn, rs, cc, cs, wt, hc, hbe, htok, ht, hfr, hne, hk, hp⟩ := h
  obtain ⟨t1, t3, t0, tw, tsg, tn, td⟩ := tk_all tx n tok
  obtain ⟨rfl, hw0, hpw, htop⟩ : xst = 3 ∧ 0 ≤ wc ∧ kPop wt 4 wc = kPop wt 4 k ∧ ¬ kBn (kTop wt k) = 5 := by
    rcases hp with hp | hp | hp | hp | ⟨-, -, p1, p2, p3, p4⟩
    all_goals first | (have z := hp.1; omega) | skip
    exact ⟨p1, p2, p3, p4⟩
  have kk : kKA tx n tok = kMT tx n tok := (tsg _ (by have z := bn_kinds (c := kMT tx n tok) (by omega); omega)).mp ⟨hs, rfl⟩
  have bk := bn_kinds (c := kMT tx n tok) (by omega)
  exact rf_x (xst2 := 3) (tc2 := tc) (xop2 := xop) (wt2 := wt) (wc2 := wc) (ic2 := 0) hc (Or.inr (Or.inr (Or.inr ⟨rfl, rfl, (Or.inl (⟨by omega, rfl, Or.inl ⟨rfl, by omega⟩⟩))⟩))) htok (by decide)
theorem e_bin4_ok (h : EXR tx n S0 14 tok sc rc v3 tc msn mac man mih mrn mcc mrs mef k fr ff ne) (hd : k = 0 ∨ ¬ fr k = 6 ∨ kLv (ff k) < 3) (hs : kMS tx n tok = 4) (hs2 : kBn (kMT tx n tok) = 4) (hb4 : ¬ 40 ≤ tc) : EXR tx n S0 1 (nxT tx n tok) sc rc v3 (tc + 1) msn mac man mih mrn mcc mrs mef (k + 1) (zU fr (k + 1) 6) (zU ff (k + 1) (kMT tx n tok)) ne := by
  obtain ⟨ri, tp, ts, be, xst, xop, wc, sn, ac, ic, an, ih, rn, rs, cc, cs, wt, hc, hbe, htok, ht, hfr, hne, hk, hp⟩ := h
  obtain ⟨t1, t3, t0, tw, tsg, tn, td⟩ := tk_all tx n tok
  obtain ⟨rfl, hw0, hpw, htop⟩ : xst = 3 ∧ 0 ≤ wc ∧ kPop wt 4 wc = kPop wt 4 k ∧ ¬ kBn (kTop wt k) = 5 := by
    rcases hp with hp | hp | hp | hp | ⟨-, -, p1, p2, p3, p4⟩
    all_goals first | (have z := hp.1; omega) | skip
    exact ⟨p1, p2, p3, p4⟩
  have topb : kBn (kTop wt k) < 4 := by
    have bn := kBn_rng (kTop wt k)
    rcases Int.lt_or_eq_of_le hk.1 with z | z
    · have f1 := hfr.1 (k - 1) (by omega)
      rw [show k - 1 + 1 = k by omega] at f1
      have f2 := frr_bn f1
      rw [kTop_p z] at htop bn ⊢
      rcases hd with y | y | y
      · omega
      · omega
      · by_cases s6 : fr k = 6
        · have fv : ff k = wt (k - 1) := by
            rcases f1 with x | x | x | x | x | x <;> omega
          have lv := kLv_bn (ff k)
          rw [fv] at lv y
          omega
        · omega
    · unfold kTop
      rw [if_neg (by omega)]
      have z2 : kBn (-1) = 0 := by decide
      omega
  have pk : kPop wt 4 k = k := kPop_id hk.1 (by omega) topb
  have kk : kKA tx n tok = kMT tx n tok := (tsg _ (by have z := bn_kinds (c := kMT tx n tok) (by omega); omega)).mp ⟨hs, rfl⟩
  have bk := bn_kinds (c := kMT tx n tok) (by omega)
  have og := kOpn_sg (c := kMT tx n tok) (by omega)
  have h2 := kOc_put (wt := wt) (k := k) (v := kMT tx n tok) hk.1
  rw [← kk] at hs2 og h2 bk ⊢
  have stp := frs_push (w := kKA tx n tok) (f := 6) (v := kKA tx n tok) hfr hk.1 (Or.inr (Or.inr (Or.inr (Or.inr (Or.inr ⟨rfl, rfl, by omega, by omega⟩))))) (fun z => by exfalso; omega) (fun _ z => htop (kBn5.mpr z))
  refine ex_x hc (Or.inr (Or.inr (Or.inr ⟨rfl, rfl, (Or.inl (⟨by omega, rfl, Or.inr ⟨rfl, by omega, rfl, rfl, by rw [hpw, pk], by rw [hpw, pk]⟩⟩))⟩))) hbe htok ht (wt2 := zU wt k (kKA tx n tok)) (wc2 := k + 1) stp (by omega) (by omega) (Or.inr (Or.inl ⟨rfl, rfl, rfl, fun z => ?_⟩))
  rw [kTop_put hk.1] at z
  omega
theorem e_bin3_bad (h : EXR tx n S0 13 tok sc rc v3 tc msn mac man mih mrn mcc mrs mef k fr ff ne) (hd : k = 0 ∨ ¬ fr k = 6 ∨ kLv (ff k) < 2) (hs : kMS tx n tok = 4) (hs2 : kBn (kMT tx n tok) = 3) (hb4 : 40 ≤ tc) : RF tx n S0 4 tok := by
  obtain ⟨ri, tp, ts, be, xst, xop, wc, sn, ac, ic, an, ih, rn, rs, cc, cs, wt, hc, hbe, htok, ht, hfr, hne, hk, hp⟩ := h
  obtain ⟨t1, t3, t0, tw, tsg, tn, td⟩ := tk_all tx n tok
  obtain ⟨rfl, hw0, hpw, htop⟩ : xst = 3 ∧ 0 ≤ wc ∧ kPop wt 3 wc = kPop wt 3 k ∧ ¬ kBn (kTop wt k) = 5 := by
    rcases hp with hp | hp | hp | hp | ⟨-, -, p1, p2, p3, p4⟩
    all_goals first | (have z := hp.1; omega) | skip
    exact ⟨p1, p2, p3, p4⟩
  have kk : kKA tx n tok = kMT tx n tok := (tsg _ (by have z := bn_kinds (c := kMT tx n tok) (by omega); omega)).mp ⟨hs, rfl⟩
  have bk := bn_kinds (c := kMT tx n tok) (by omega)
  exact rf_x (xst2 := 3) (tc2 := tc) (xop2 := xop) (wt2 := wt) (wc2 := wc) (ic2 := 0) hc (Or.inr (Or.inr (Or.inr ⟨rfl, rfl, (Or.inr (Or.inl (⟨by omega, rfl, Or.inl ⟨rfl, by omega⟩⟩)))⟩))) htok (by decide)
theorem e_bin3_ok (h : EXR tx n S0 13 tok sc rc v3 tc msn mac man mih mrn mcc mrs mef k fr ff ne) (hd : k = 0 ∨ ¬ fr k = 6 ∨ kLv (ff k) < 2) (hs : kMS tx n tok = 4) (hs2 : kBn (kMT tx n tok) = 3) (hb4 : ¬ 40 ≤ tc) : EXR tx n S0 1 (nxT tx n tok) sc rc v3 (tc + 1) msn mac man mih mrn mcc mrs mef (k + 1) (zU fr (k + 1) 6) (zU ff (k + 1) (kMT tx n tok)) ne := by
  obtain ⟨ri, tp, ts, be, xst, xop, wc, sn, ac, ic, an, ih, rn, rs, cc, cs, wt, hc, hbe, htok, ht, hfr, hne, hk, hp⟩ := h
  obtain ⟨t1, t3, t0, tw, tsg, tn, td⟩ := tk_all tx n tok
  obtain ⟨rfl, hw0, hpw, htop⟩ : xst = 3 ∧ 0 ≤ wc ∧ kPop wt 3 wc = kPop wt 3 k ∧ ¬ kBn (kTop wt k) = 5 := by
    rcases hp with hp | hp | hp | hp | ⟨-, -, p1, p2, p3, p4⟩
    all_goals first | (have z := hp.1; omega) | skip
    exact ⟨p1, p2, p3, p4⟩
  have topb : kBn (kTop wt k) < 3 := by
    have bn := kBn_rng (kTop wt k)
    rcases Int.lt_or_eq_of_le hk.1 with z | z
    · have f1 := hfr.1 (k - 1) (by omega)
      rw [show k - 1 + 1 = k by omega] at f1
      have f2 := frr_bn f1
      rw [kTop_p z] at htop bn ⊢
      rcases hd with y | y | y
      · omega
      · omega
      · by_cases s6 : fr k = 6
        · have fv : ff k = wt (k - 1) := by
            rcases f1 with x | x | x | x | x | x <;> omega
          have lv := kLv_bn (ff k)
          rw [fv] at lv y
          omega
        · omega
    · unfold kTop
      rw [if_neg (by omega)]
      have z2 : kBn (-1) = 0 := by decide
      omega
  have pk : kPop wt 3 k = k := kPop_id hk.1 (by omega) topb
  have kk : kKA tx n tok = kMT tx n tok := (tsg _ (by have z := bn_kinds (c := kMT tx n tok) (by omega); omega)).mp ⟨hs, rfl⟩
  have bk := bn_kinds (c := kMT tx n tok) (by omega)
  have og := kOpn_sg (c := kMT tx n tok) (by omega)
  have h2 := kOc_put (wt := wt) (k := k) (v := kMT tx n tok) hk.1
  rw [← kk] at hs2 og h2 bk ⊢
  have stp := frs_push (w := kKA tx n tok) (f := 6) (v := kKA tx n tok) hfr hk.1 (Or.inr (Or.inr (Or.inr (Or.inr (Or.inr ⟨rfl, rfl, by omega, by omega⟩))))) (fun z => by exfalso; omega) (fun _ z => htop (kBn5.mpr z))
  refine ex_x hc (Or.inr (Or.inr (Or.inr ⟨rfl, rfl, (Or.inr (Or.inl (⟨by omega, rfl, Or.inr ⟨rfl, by omega, rfl, rfl, by rw [hpw, pk], by rw [hpw, pk]⟩⟩)))⟩))) hbe htok ht (wt2 := zU wt k (kKA tx n tok)) (wc2 := k + 1) stp (by omega) (by omega) (Or.inr (Or.inl ⟨rfl, rfl, rfl, fun z => ?_⟩))
  rw [kTop_put hk.1] at z
  omega
theorem e_cmp_bad1 (h : EXR tx n S0 13 tok sc rc v3 tc msn mac man mih mrn mcc mrs mef k fr ff ne) (hd : k = 0 ∨ ¬ fr k = 6 ∨ kLv (ff k) < 2) (hs : kMS tx n tok = 4) (hs2 : kBn (kMT tx n tok) = 2) (hk1 : 1 ≤ k) (h6 : fr k = 6) : RF tx n S0 1 tok := by
  obtain ⟨ri, tp, ts, be, xst, xop, wc, sn, ac, ic, an, ih, rn, rs, cc, cs, wt, hc, hbe, htok, ht, hfr, hne, hk, hp⟩ := h
  obtain ⟨t1, t3, t0, tw, tsg, tn, td⟩ := tk_all tx n tok
  obtain ⟨rfl, hw0, hpw, htop⟩ : xst = 3 ∧ 0 ≤ wc ∧ kPop wt 3 wc = kPop wt 3 k ∧ ¬ kBn (kTop wt k) = 5 := by
    rcases hp with hp | hp | hp | hp | ⟨-, -, p1, p2, p3, p4⟩
    all_goals first | (have z := hp.1; omega) | skip
    exact ⟨p1, p2, p3, p4⟩
  have topb : kBn (kTop wt k) < 3 := by
    have bn := kBn_rng (kTop wt k)
    rcases Int.lt_or_eq_of_le hk.1 with z | z
    · have f1 := hfr.1 (k - 1) (by omega)
      rw [show k - 1 + 1 = k by omega] at f1
      have f2 := frr_bn f1
      rw [kTop_p z] at htop bn ⊢
      rcases hd with y | y | y
      · omega
      · omega
      · by_cases s6 : fr k = 6
        · have fv : ff k = wt (k - 1) := by
            rcases f1 with x | x | x | x | x | x <;> omega
          have lv := kLv_bn (ff k)
          rw [fv] at lv y
          omega
        · omega
    · unfold kTop
      rw [if_neg (by omega)]
      have z2 : kBn (-1) = 0 := by decide
      omega
  have pk : kPop wt 3 k = k := kPop_id hk.1 (by omega) topb
  have kk : kKA tx n tok = kMT tx n tok := (tsg _ (by have z := bn_kinds (c := kMT tx n tok) (by omega); omega)).mp ⟨hs, rfl⟩
  have bk := bn_kinds (c := kMT tx n tok) (by omega)
  have f1 := hfr.1 (k - 1) (by omega)
  rw [show k - 1 + 1 = k by omega] at f1
  have f2 := (frr_bn f1).2.1.mp h6
  rw [kTop_p (show 0 < k by omega)] at topb
  exact rf_x (xst2 := 3) (tc2 := tc) (xop2 := xop) (wt2 := wt) (wc2 := wc) (ic2 := 0) hc (Or.inr (Or.inr (Or.inr ⟨rfl, rfl, (Or.inr (Or.inr (Or.inl (⟨by omega, rfl, Or.inl ⟨rfl, by rw [hpw, pk, kTop_p (show 0 < k by omega)]; omega⟩⟩))))⟩))) htok (by decide)
theorem e_cmp_bad4 (h : EXR tx n S0 13 tok sc rc v3 tc msn mac man mih mrn mcc mrs mef k fr ff ne) (hd : k = 0 ∨ ¬ fr k = 6 ∨ kLv (ff k) < 2) (hs : kMS tx n tok = 4) (hs2 : kBn (kMT tx n tok) = 2) (h6 : k = 0 ∨ ¬ fr k = 6) (hb4 : 40 ≤ tc) : RF tx n S0 4 tok := by
  obtain ⟨ri, tp, ts, be, xst, xop, wc, sn, ac, ic, an, ih, rn, rs, cc, cs, wt, hc, hbe, htok, ht, hfr, hne, hk, hp⟩ := h
  obtain ⟨t1, t3, t0, tw, tsg, tn, td⟩ := tk_all tx n tok
  obtain ⟨rfl, hw0, hpw, htop⟩ : xst = 3 ∧ 0 ≤ wc ∧ kPop wt 3 wc = kPop wt 3 k ∧ ¬ kBn (kTop wt k) = 5 := by
    rcases hp with hp | hp | hp | hp | ⟨-, -, p1, p2, p3, p4⟩
    all_goals first | (have z := hp.1; omega) | skip
    exact ⟨p1, p2, p3, p4⟩
  have topb : kBn (kTop wt k) < 3 := by
    have bn := kBn_rng (kTop wt k)
    rcases Int.lt_or_eq_of_le hk.1 with z | z
    · have f1 := hfr.1 (k - 1) (by omega)
      rw [show k - 1 + 1 = k by omega] at f1
      have f2 := frr_bn f1
      rw [kTop_p z] at htop bn ⊢
      rcases hd with y | y | y
      · omega
      · omega
      · by_cases s6 : fr k = 6
        · have fv : ff k = wt (k - 1) := by
            rcases f1 with x | x | x | x | x | x <;> omega
          have lv := kLv_bn (ff k)
          rw [fv] at lv y
          omega
        · omega
    · unfold kTop
      rw [if_neg (by omega)]
      have z2 : kBn (-1) = 0 := by decide
      omega
  have pk : kPop wt 3 k = k := kPop_id hk.1 (by omega) topb
  have kk : kKA tx n tok = kMT tx n tok := (tsg _ (by have z := bn_kinds (c := kMT tx n tok) (by omega); omega)).mp ⟨hs, rfl⟩
  have bk := bn_kinds (c := kMT tx n tok) (by omega)
  have nt : ¬ kBn (kTop wt k) = 2 := by
    rcases Int.lt_or_eq_of_le hk.1 with z | z
    · have f1 := hfr.1 (k - 1) (by omega)
      rw [show k - 1 + 1 = k by omega] at f1
      have f2 := (frr_bn f1).2.1
      rw [kTop_p z]
      omega
    · unfold kTop
      rw [if_neg (by omega)]
      decide
  exact rf_x (xst2 := 3) (tc2 := tc) (xop2 := xop) (wt2 := wt) (wc2 := wc) (ic2 := 0) hc (Or.inr (Or.inr (Or.inr ⟨rfl, rfl, (Or.inr (Or.inr (Or.inl (⟨by omega, rfl, Or.inr (Or.inl ⟨rfl, by rw [hpw, pk]; exact nt, by omega⟩)⟩))))⟩))) htok (by decide)
theorem e_cmp_ok (h : EXR tx n S0 13 tok sc rc v3 tc msn mac man mih mrn mcc mrs mef k fr ff ne) (hd : k = 0 ∨ ¬ fr k = 6 ∨ kLv (ff k) < 2) (hs : kMS tx n tok = 4) (hs2 : kBn (kMT tx n tok) = 2) (h6 : k = 0 ∨ ¬ fr k = 6) (hb4 : ¬ 40 ≤ tc) : EXR tx n S0 1 (nxT tx n tok) sc rc v3 (tc + 1) msn mac man mih mrn mcc mrs mef (k + 1) (zU fr (k + 1) 6) (zU ff (k + 1) (kMT tx n tok)) ne := by
  obtain ⟨ri, tp, ts, be, xst, xop, wc, sn, ac, ic, an, ih, rn, rs, cc, cs, wt, hc, hbe, htok, ht, hfr, hne, hk, hp⟩ := h
  obtain ⟨t1, t3, t0, tw, tsg, tn, td⟩ := tk_all tx n tok
  obtain ⟨rfl, hw0, hpw, htop⟩ : xst = 3 ∧ 0 ≤ wc ∧ kPop wt 3 wc = kPop wt 3 k ∧ ¬ kBn (kTop wt k) = 5 := by
    rcases hp with hp | hp | hp | hp | ⟨-, -, p1, p2, p3, p4⟩
    all_goals first | (have z := hp.1; omega) | skip
    exact ⟨p1, p2, p3, p4⟩
  have topb : kBn (kTop wt k) < 3 := by
    have bn := kBn_rng (kTop wt k)
    rcases Int.lt_or_eq_of_le hk.1 with z | z
    · have f1 := hfr.1 (k - 1) (by omega)
      rw [show k - 1 + 1 = k by omega] at f1
      have f2 := frr_bn f1
      rw [kTop_p z] at htop bn ⊢
      rcases hd with y | y | y
      · omega
      · omega
      · by_cases s6 : fr k = 6
        · have fv : ff k = wt (k - 1) := by
            rcases f1 with x | x | x | x | x | x <;> omega
          have lv := kLv_bn (ff k)
          rw [fv] at lv y
          omega
        · omega
    · unfold kTop
      rw [if_neg (by omega)]
      have z2 : kBn (-1) = 0 := by decide
      omega
  have pk : kPop wt 3 k = k := kPop_id hk.1 (by omega) topb
  have kk : kKA tx n tok = kMT tx n tok := (tsg _ (by have z := bn_kinds (c := kMT tx n tok) (by omega); omega)).mp ⟨hs, rfl⟩
  have bk := bn_kinds (c := kMT tx n tok) (by omega)
  have nt : ¬ kBn (kTop wt k) = 2 := by
    rcases Int.lt_or_eq_of_le hk.1 with z | z
    · have f1 := hfr.1 (k - 1) (by omega)
      rw [show k - 1 + 1 = k by omega] at f1
      have f2 := (frr_bn f1).2.1
      rw [kTop_p z]
      omega
    · unfold kTop
      rw [if_neg (by omega)]
      decide
  have og := kOpn_sg (c := kMT tx n tok) (by omega)
  have h2 := kOc_put (wt := wt) (k := k) (v := kMT tx n tok) hk.1
  rw [← kk] at hs2 og h2 bk ⊢
  have stp := frs_push (w := kKA tx n tok) (f := 6) (v := kKA tx n tok) hfr hk.1 (Or.inr (Or.inr (Or.inr (Or.inr (Or.inr ⟨rfl, rfl, by omega, by omega⟩))))) (fun z => by exfalso; omega) (fun _ z => htop (kBn5.mpr z))
  refine ex_x hc (Or.inr (Or.inr (Or.inr ⟨rfl, rfl, (Or.inr (Or.inr (Or.inl (⟨by omega, rfl, Or.inr (Or.inr ⟨rfl, by rw [hpw, pk]; exact nt, by omega, rfl, rfl, by rw [hpw, pk], by rw [hpw, pk]⟩)⟩))))⟩))) hbe htok ht (wt2 := zU wt k (kKA tx n tok)) (wc2 := k + 1) stp (by omega) (by omega) (Or.inr (Or.inl ⟨rfl, rfl, rfl, fun z => ?_⟩))
  rw [kTop_put hk.1] at z
  omega
theorem e_end (h : EXR tx n S0 12 tok sc rc v3 tc msn mac man mih mrn mcc mrs mef k fr ff ne) (hd : k = 0 ∨ ¬ fr k = 6 ∨ kLv (ff k) < 1) (ho : ¬ OPT tx n tok) : EXR tx n S0 3 tok sc rc v3 tc msn mac man mih mrn mcc mrs mef k fr ff ne := by
  obtain ⟨ri, tp, ts, be, xst, xop, wc, sn, ac, ic, an, ih, rn, rs, cc, cs, wt, hc, hbe, htok, ht, hfr, hne, hk, hp⟩ := h
  obtain ⟨rfl, hw0, hpw, htop⟩ : xst = 3 ∧ 0 ≤ wc ∧ kPop wt 2 wc = kPop wt 2 k ∧ ¬ kBn (kTop wt k) = 5 := by
    rcases hp with hp | hp | hp | hp | ⟨-, -, p1, p2, p3, p4⟩
    all_goals first | (have z := hp.1; omega) | skip
    exact ⟨p1, p2, p3, p4⟩
  have topb : kBn (kTop wt k) < 2 := by
    have bn := kBn_rng (kTop wt k)
    rcases Int.lt_or_eq_of_le hk.1 with z | z
    · have f1 := hfr.1 (k - 1) (by omega)
      rw [show k - 1 + 1 = k by omega] at f1
      have f2 := frr_bn f1
      rw [kTop_p z] at htop bn ⊢
      rcases hd with y | y | y
      · omega
      · omega
      · by_cases s6 : fr k = 6
        · have fv : ff k = wt (k - 1) := by
            rcases f1 with x | x | x | x | x | x <;> omega
          have lv := kLv_bn (ff k)
          rw [fv] at lv y
          omega
        · omega
    · unfold kTop
      rw [if_neg (by omega)]
      have z2 : kBn (-1) = 0 := by decide
      omega
  have pk : kPop wt 2 k = k := kPop_id hk.1 (by omega) topb
  have p12 := kPop_pop (wt := wt) (b := 1) (c := 2) (by decide) _ wc rfl hw0
  exact ⟨ri, tp, ts, be, 3, xop, wc, sn, ac, ic, an, ih, rn, rs, cc, cs, wt, hc, hbe, htok, ht, hfr, hne, hk, Or.inr (Or.inr (Or.inr (Or.inl ⟨rfl, rfl, hw0, by rw [← p12, hpw, pk], by omega, ho⟩)))⟩
theorem e_whole_bad (h : EXR tx n S0 3 tok sc rc v3 tc msn mac man mih mrn mcc mrs mef k fr ff ne) (hk0 : k = 0) (hs : ¬ (kMS tx n tok = 4 ∧ kMT tx n tok = 59)) : RF tx n S0 1 tok := by
  obtain ⟨ri, tp, ts, be, xst, xop, wc, sn, ac, ic, an, ih, rn, rs, cc, cs, wt, hc, hbe, htok, ht, hfr, hne, hk, hp⟩ := h
  obtain ⟨t1, t3, t0, tw, tsg, tn, td⟩ := tk_all tx n tok
  obtain ⟨rfl, hw0, hpw, htop, ho⟩ : xst = 3 ∧ 0 ≤ wc ∧ kPop wt 1 wc = kPop wt 1 k ∧ kBn (kTop wt k) ≤ 1 ∧ ¬ OPT tx n tok := by
    rcases hp with hp | hp | hp | hp | hp
    all_goals first | exact hp.2 | (have z := hp.1; omega)
  have k59 := tsg 59 (by decide)
  subst hk0
  have pk : kPop wt 1 0 = 0 := kPop_0 rfl
  have tk9 : kTop wt 0 = -1 := if_neg (by decide)
  have n37 : ¬ kKA tx n tok = 37 := fun q => ho ((fun z => ⟨z.1, by rw [z.2]; decide, by rw [z.2]; decide⟩) ((tsg 37 (by decide)).mpr q))
  have n42 : ¬ kKA tx n tok = 42 := fun q => ho ((fun z => ⟨z.1, by rw [z.2]; decide, by rw [z.2]; decide⟩) ((tsg 42 (by decide)).mpr q))
  have n47 : ¬ kKA tx n tok = 47 := fun q => ho ((fun z => ⟨z.1, by rw [z.2]; decide, by rw [z.2]; decide⟩) ((tsg 47 (by decide)).mpr q))
  have n43 : ¬ kKA tx n tok = 43 := fun q => ho ((fun z => ⟨z.1, by rw [z.2]; decide, by rw [z.2]; decide⟩) ((tsg 43 (by decide)).mpr q))
  have n45 : ¬ kKA tx n tok = 45 := fun q => ho ((fun z => ⟨z.1, by rw [z.2]; decide, by rw [z.2]; decide⟩) ((tsg 45 (by decide)).mpr q))
  have n60 : ¬ kKA tx n tok = 60 := fun q => ho ((fun z => ⟨z.1, by rw [z.2]; decide, by rw [z.2]; decide⟩) ((tsg 60 (by decide)).mpr q))
  have n61 : ¬ kKA tx n tok = 61 := fun q => ho ((fun z => ⟨z.1, by rw [z.2]; decide, by rw [z.2]; decide⟩) ((tsg 61 (by decide)).mpr q))
  by_cases c41 : kKA tx n tok = 41
  · exact rf_x (xst2 := 3) (tc2 := tc) (xop2 := xop) (wt2 := wt) (wc2 := wc) (ic2 := 0) hc (Or.inr (Or.inr (Or.inr ⟨rfl, rfl, (Or.inr (Or.inr (Or.inr (Or.inl (⟨c41, ⟨rfl, rfl⟩, Or.inl ⟨rfl, by rw [hpw, pk, tk9]; omega⟩⟩)))))⟩))) htok (by decide)
  by_cases c10 : kKA tx n tok = 10
  · exact rf_x (xst2 := 3) (tc2 := tc) (xop2 := xop) (wt2 := wt) (wc2 := wc) (ic2 := 0) hc (Or.inr (Or.inr (Or.inr ⟨rfl, rfl, (Or.inr (Or.inr (Or.inr (Or.inr (Or.inl (⟨c10, rfl, Or.inl ⟨rfl, by rw [hpw, pk, tk9]; omega⟩⟩))))))⟩))) htok (by decide)
  by_cases c11 : kKA tx n tok = 11
  · exact rf_x (xst2 := 3) (tc2 := tc) (xop2 := xop) (wt2 := wt) (wc2 := wc) (ic2 := 0) hc (Or.inr (Or.inr (Or.inr ⟨rfl, rfl, (Or.inr (Or.inr (Or.inr (Or.inr (Or.inr (Or.inl (⟨c11, rfl, Or.inl ⟨rfl, by rw [hpw, pk, tk9]; omega⟩⟩)))))))⟩))) htok (by decide)
  by_cases c59 : kKA tx n tok = 59
  · exact absurd c59 (by omega)
  exact rf_x (xst2 := 3) (tc2 := tc) (xop2 := xop) (wt2 := wt) (wc2 := wc) (ic2 := 0) hc (Or.inr (Or.inr (Or.inr ⟨rfl, rfl, (Or.inr (Or.inr (Or.inr (Or.inr (Or.inr (Or.inr (Or.inr ((⟨by omega, rfl⟩)))))))))⟩))) htok (by decide)
theorem e_if_end (h : EXR tx n S0 3 tok sc rc v3 tc msn mac man mih mrn mcc mrs mef k fr ff ne) (hk1 : 1 ≤ k) (hf : fr k = 1) (hs : ¬ (kMS tx n tok = 2 ∧ kMT tx n tok = 7)) : RF tx n S0 1 tok := by
  obtain ⟨ri, tp, ts, be, xst, xop, wc, sn, ac, ic, an, ih, rn, rs, cc, cs, wt, hc, hbe, htok, ht, hfr, hne, hk, hp⟩ := h
  obtain ⟨t1, t3, t0, tw, tsg, tn, td⟩ := tk_all tx n tok
  obtain ⟨rfl, hw0, hpw, htop, ho⟩ : xst = 3 ∧ 0 ≤ wc ∧ kPop wt 1 wc = kPop wt 1 k ∧ kBn (kTop wt k) ≤ 1 ∧ ¬ OPT tx n tok := by
    rcases hp with hp | hp | hp | hp | hp
    all_goals first | exact hp.2 | (have z := hp.1; omega)
  have k7 := tw 7 (by decide)
  have f1 := hfr.1 (k - 1) (by omega)
  rw [show k - 1 + 1 = k by omega] at f1
  have f2 := frr_bn f1
  have op := kOc_pop (wt := wt) (k := k) (by omega)
  rw [kTop_p (show 0 < k by omega)] at op
  have wk : wt (k - 1) = 9 := by
    rcases f1 with y | y | y | y | y | y <;> omega
  have tk9 : kTop wt k = 9 := by rw [kTop_p (show 0 < k by omega)]; exact wk
  have pk : kPop wt 1 k = k := kPop_id hk.1 (by decide) (by rw [tk9]; decide)
  have n37 : ¬ kKA tx n tok = 37 := fun q => ho ((fun z => ⟨z.1, by rw [z.2]; decide, by rw [z.2]; decide⟩) ((tsg 37 (by decide)).mpr q))
  have n42 : ¬ kKA tx n tok = 42 := fun q => ho ((fun z => ⟨z.1, by rw [z.2]; decide, by rw [z.2]; decide⟩) ((tsg 42 (by decide)).mpr q))
  have n47 : ¬ kKA tx n tok = 47 := fun q => ho ((fun z => ⟨z.1, by rw [z.2]; decide, by rw [z.2]; decide⟩) ((tsg 47 (by decide)).mpr q))
  have n43 : ¬ kKA tx n tok = 43 := fun q => ho ((fun z => ⟨z.1, by rw [z.2]; decide, by rw [z.2]; decide⟩) ((tsg 43 (by decide)).mpr q))
  have n45 : ¬ kKA tx n tok = 45 := fun q => ho ((fun z => ⟨z.1, by rw [z.2]; decide, by rw [z.2]; decide⟩) ((tsg 45 (by decide)).mpr q))
  have n60 : ¬ kKA tx n tok = 60 := fun q => ho ((fun z => ⟨z.1, by rw [z.2]; decide, by rw [z.2]; decide⟩) ((tsg 60 (by decide)).mpr q))
  have n61 : ¬ kKA tx n tok = 61 := fun q => ho ((fun z => ⟨z.1, by rw [z.2]; decide, by rw [z.2]; decide⟩) ((tsg 61 (by decide)).mpr q))
  by_cases c41 : kKA tx n tok = 41
  · exact rf_x (xst2 := 3) (tc2 := tc) (xop2 := xop) (wt2 := wt) (wc2 := wc) (ic2 := 0) hc (Or.inr (Or.inr (Or.inr ⟨rfl, rfl, (Or.inr (Or.inr (Or.inr (Or.inl (⟨c41, ⟨rfl, rfl⟩, Or.inl ⟨rfl, by rw [hpw, pk, tk9]; omega⟩⟩)))))⟩))) htok (by decide)
  by_cases c10 : kKA tx n tok = 10
  · exact rf_x (xst2 := 3) (tc2 := tc) (xop2 := xop) (wt2 := wt) (wc2 := wc) (ic2 := 0) hc (Or.inr (Or.inr (Or.inr ⟨rfl, rfl, (Or.inr (Or.inr (Or.inr (Or.inr (Or.inl (⟨c10, rfl, Or.inl ⟨rfl, by rw [hpw, pk, tk9]; omega⟩⟩))))))⟩))) htok (by decide)
  by_cases c11 : kKA tx n tok = 11
  · exact rf_x (xst2 := 3) (tc2 := tc) (xop2 := xop) (wt2 := wt) (wc2 := wc) (ic2 := 0) hc (Or.inr (Or.inr (Or.inr ⟨rfl, rfl, (Or.inr (Or.inr (Or.inr (Or.inr (Or.inr (Or.inl (⟨c11, rfl, Or.inl ⟨rfl, by rw [hpw, pk, tk9]; omega⟩⟩)))))))⟩))) htok (by decide)
  by_cases c59 : kKA tx n tok = 59
  · exact rf_x (xst2 := 3) (tc2 := tc) (xop2 := xop) (wt2 := wt) (wc2 := wc) (ic2 := 0) hc (Or.inr (Or.inr (Or.inr ⟨rfl, rfl, (Or.inr (Or.inr (Or.inr (Or.inr (Or.inr (Or.inr (Or.inl (⟨c59, ⟨rfl, rfl, rfl⟩, Or.inl ⟨rfl, by rw [hpw, pk]; omega⟩⟩))))))))⟩))) htok (by decide)
  exact rf_x (xst2 := 3) (tc2 := tc) (xop2 := xop) (wt2 := wt) (wc2 := wc) (ic2 := 0) hc (Or.inr (Or.inr (Or.inr ⟨rfl, rfl, (Or.inr (Or.inr (Or.inr (Or.inr (Or.inr (Or.inr (Or.inr ((⟨by omega, rfl⟩)))))))))⟩))) htok (by decide)
theorem e_then_end (h : EXR tx n S0 3 tok sc rc v3 tc msn mac man mih mrn mcc mrs mef k fr ff ne) (hk1 : 1 ≤ k) (hf : fr k = 2) (hs : ¬ (kMS tx n tok = 2 ∧ kMT tx n tok = 8)) : RF tx n S0 1 tok := by
  obtain ⟨ri, tp, ts, be, xst, xop, wc, sn, ac, ic, an, ih, rn, rs, cc, cs, wt, hc, hbe, htok, ht, hfr, hne, hk, hp⟩ := h
  obtain ⟨t1, t3, t0, tw, tsg, tn, td⟩ := tk_all tx n tok
  obtain ⟨rfl, hw0, hpw, htop, ho⟩ : xst = 3 ∧ 0 ≤ wc ∧ kPop wt 1 wc = kPop wt 1 k ∧ kBn (kTop wt k) ≤ 1 ∧ ¬ OPT tx n tok := by
    rcases hp with hp | hp | hp | hp | hp
    all_goals first | exact hp.2 | (have z := hp.1; omega)
  have k8 := tw 8 (by decide)
  have f1 := hfr.1 (k - 1) (by omega)
  rw [show k - 1 + 1 = k by omega] at f1
  have f2 := frr_bn f1
  have op := kOc_pop (wt := wt) (k := k) (by omega)
  rw [kTop_p (show 0 < k by omega)] at op
  have wk : wt (k - 1) = 10 := by
    rcases f1 with y | y | y | y | y | y <;> omega
  have tk9 : kTop wt k = 10 := by rw [kTop_p (show 0 < k by omega)]; exact wk
  have pk : kPop wt 1 k = k := kPop_id hk.1 (by decide) (by rw [tk9]; decide)
  have n37 : ¬ kKA tx n tok = 37 := fun q => ho ((fun z => ⟨z.1, by rw [z.2]; decide, by rw [z.2]; decide⟩) ((tsg 37 (by decide)).mpr q))
  have n42 : ¬ kKA tx n tok = 42 := fun q => ho ((fun z => ⟨z.1, by rw [z.2]; decide, by rw [z.2]; decide⟩) ((tsg 42 (by decide)).mpr q))
  have n47 : ¬ kKA tx n tok = 47 := fun q => ho ((fun z => ⟨z.1, by rw [z.2]; decide, by rw [z.2]; decide⟩) ((tsg 47 (by decide)).mpr q))
  have n43 : ¬ kKA tx n tok = 43 := fun q => ho ((fun z => ⟨z.1, by rw [z.2]; decide, by rw [z.2]; decide⟩) ((tsg 43 (by decide)).mpr q))
  have n45 : ¬ kKA tx n tok = 45 := fun q => ho ((fun z => ⟨z.1, by rw [z.2]; decide, by rw [z.2]; decide⟩) ((tsg 45 (by decide)).mpr q))
  have n60 : ¬ kKA tx n tok = 60 := fun q => ho ((fun z => ⟨z.1, by rw [z.2]; decide, by rw [z.2]; decide⟩) ((tsg 60 (by decide)).mpr q))
  have n61 : ¬ kKA tx n tok = 61 := fun q => ho ((fun z => ⟨z.1, by rw [z.2]; decide, by rw [z.2]; decide⟩) ((tsg 61 (by decide)).mpr q))
  by_cases c41 : kKA tx n tok = 41
  · exact rf_x (xst2 := 3) (tc2 := tc) (xop2 := xop) (wt2 := wt) (wc2 := wc) (ic2 := 0) hc (Or.inr (Or.inr (Or.inr ⟨rfl, rfl, (Or.inr (Or.inr (Or.inr (Or.inl (⟨c41, ⟨rfl, rfl⟩, Or.inl ⟨rfl, by rw [hpw, pk, tk9]; omega⟩⟩)))))⟩))) htok (by decide)
  by_cases c10 : kKA tx n tok = 10
  · exact rf_x (xst2 := 3) (tc2 := tc) (xop2 := xop) (wt2 := wt) (wc2 := wc) (ic2 := 0) hc (Or.inr (Or.inr (Or.inr ⟨rfl, rfl, (Or.inr (Or.inr (Or.inr (Or.inr (Or.inl (⟨c10, rfl, Or.inl ⟨rfl, by rw [hpw, pk, tk9]; omega⟩⟩))))))⟩))) htok (by decide)
  by_cases c11 : kKA tx n tok = 11
  · exact rf_x (xst2 := 3) (tc2 := tc) (xop2 := xop) (wt2 := wt) (wc2 := wc) (ic2 := 0) hc (Or.inr (Or.inr (Or.inr ⟨rfl, rfl, (Or.inr (Or.inr (Or.inr (Or.inr (Or.inr (Or.inl (⟨c11, rfl, Or.inl ⟨rfl, by rw [hpw, pk, tk9]; omega⟩⟩)))))))⟩))) htok (by decide)
  by_cases c59 : kKA tx n tok = 59
  · exact rf_x (xst2 := 3) (tc2 := tc) (xop2 := xop) (wt2 := wt) (wc2 := wc) (ic2 := 0) hc (Or.inr (Or.inr (Or.inr ⟨rfl, rfl, (Or.inr (Or.inr (Or.inr (Or.inr (Or.inr (Or.inr (Or.inl (⟨c59, ⟨rfl, rfl, rfl⟩, Or.inl ⟨rfl, by rw [hpw, pk]; omega⟩⟩))))))))⟩))) htok (by decide)
  exact rf_x (xst2 := 3) (tc2 := tc) (xop2 := xop) (wt2 := wt) (wc2 := wc) (ic2 := 0) hc (Or.inr (Or.inr (Or.inr ⟨rfl, rfl, (Or.inr (Or.inr (Or.inr (Or.inr (Or.inr (Or.inr (Or.inr ((⟨by omega, rfl⟩)))))))))⟩))) htok (by decide)
theorem e_par_end (h : EXR tx n S0 3 tok sc rc v3 tc msn mac man mih mrn mcc mrs mef k fr ff ne) (hk1 : 1 ≤ k) (hf : fr k = 4) (hs : ¬ (kMS tx n tok = 4 ∧ kMT tx n tok = 41)) : RF tx n S0 1 tok := by
  obtain ⟨ri, tp, ts, be, xst, xop, wc, sn, ac, ic, an, ih, rn, rs, cc, cs, wt, hc, hbe, htok, ht, hfr, hne, hk, hp⟩ := h
  obtain ⟨t1, t3, t0, tw, tsg, tn, td⟩ := tk_all tx n tok
  obtain ⟨rfl, hw0, hpw, htop, ho⟩ : xst = 3 ∧ 0 ≤ wc ∧ kPop wt 1 wc = kPop wt 1 k ∧ kBn (kTop wt k) ≤ 1 ∧ ¬ OPT tx n tok := by
    rcases hp with hp | hp | hp | hp | hp
    all_goals first | exact hp.2 | (have z := hp.1; omega)
  have k41 := tsg 41 (by decide)
  have f1 := hfr.1 (k - 1) (by omega)
  rw [show k - 1 + 1 = k by omega] at f1
  have f2 := frr_bn f1
  have op := kOc_pop (wt := wt) (k := k) (by omega)
  rw [kTop_p (show 0 < k by omega)] at op
  have wk : wt (k - 1) = 40 := by
    rcases f1 with y | y | y | y | y | y <;> omega
  have tk9 : kTop wt k = 40 := by rw [kTop_p (show 0 < k by omega)]; exact wk
  have pk : kPop wt 1 k = k := kPop_id hk.1 (by decide) (by rw [tk9]; decide)
  have n37 : ¬ kKA tx n tok = 37 := fun q => ho ((fun z => ⟨z.1, by rw [z.2]; decide, by rw [z.2]; decide⟩) ((tsg 37 (by decide)).mpr q))
  have n42 : ¬ kKA tx n tok = 42 := fun q => ho ((fun z => ⟨z.1, by rw [z.2]; decide, by rw [z.2]; decide⟩) ((tsg 42 (by decide)).mpr q))
  have n47 : ¬ kKA tx n tok = 47 := fun q => ho ((fun z => ⟨z.1, by rw [z.2]; decide, by rw [z.2]; decide⟩) ((tsg 47 (by decide)).mpr q))
  have n43 : ¬ kKA tx n tok = 43 := fun q => ho ((fun z => ⟨z.1, by rw [z.2]; decide, by rw [z.2]; decide⟩) ((tsg 43 (by decide)).mpr q))
  have n45 : ¬ kKA tx n tok = 45 := fun q => ho ((fun z => ⟨z.1, by rw [z.2]; decide, by rw [z.2]; decide⟩) ((tsg 45 (by decide)).mpr q))
  have n60 : ¬ kKA tx n tok = 60 := fun q => ho ((fun z => ⟨z.1, by rw [z.2]; decide, by rw [z.2]; decide⟩) ((tsg 60 (by decide)).mpr q))
  have n61 : ¬ kKA tx n tok = 61 := fun q => ho ((fun z => ⟨z.1, by rw [z.2]; decide, by rw [z.2]; decide⟩) ((tsg 61 (by decide)).mpr q))
  by_cases c41 : kKA tx n tok = 41
  · exact rf_x (xst2 := 3) (tc2 := tc) (xop2 := xop) (wt2 := wt) (wc2 := wc) (ic2 := 0) hc (Or.inr (Or.inr (Or.inr ⟨rfl, rfl, (Or.inr (Or.inr (Or.inr (Or.inl (⟨c41, ⟨rfl, rfl⟩, Or.inl ⟨rfl, by rw [hpw, pk, tk9]; omega⟩⟩)))))⟩))) htok (by decide)
  by_cases c10 : kKA tx n tok = 10
  · exact rf_x (xst2 := 3) (tc2 := tc) (xop2 := xop) (wt2 := wt) (wc2 := wc) (ic2 := 0) hc (Or.inr (Or.inr (Or.inr ⟨rfl, rfl, (Or.inr (Or.inr (Or.inr (Or.inr (Or.inl (⟨c10, rfl, Or.inl ⟨rfl, by rw [hpw, pk, tk9]; omega⟩⟩))))))⟩))) htok (by decide)
  by_cases c11 : kKA tx n tok = 11
  · exact rf_x (xst2 := 3) (tc2 := tc) (xop2 := xop) (wt2 := wt) (wc2 := wc) (ic2 := 0) hc (Or.inr (Or.inr (Or.inr ⟨rfl, rfl, (Or.inr (Or.inr (Or.inr (Or.inr (Or.inr (Or.inl (⟨c11, rfl, Or.inl ⟨rfl, by rw [hpw, pk, tk9]; omega⟩⟩)))))))⟩))) htok (by decide)
  by_cases c59 : kKA tx n tok = 59
  · exact rf_x (xst2 := 3) (tc2 := tc) (xop2 := xop) (wt2 := wt) (wc2 := wc) (ic2 := 0) hc (Or.inr (Or.inr (Or.inr ⟨rfl, rfl, (Or.inr (Or.inr (Or.inr (Or.inr (Or.inr (Or.inr (Or.inl (⟨c59, ⟨rfl, rfl, rfl⟩, Or.inl ⟨rfl, by rw [hpw, pk]; omega⟩⟩))))))))⟩))) htok (by decide)
  exact rf_x (xst2 := 3) (tc2 := tc) (xop2 := xop) (wt2 := wt) (wc2 := wc) (ic2 := 0) hc (Or.inr (Or.inr (Or.inr ⟨rfl, rfl, (Or.inr (Or.inr (Or.inr (Or.inr (Or.inr (Or.inr (Or.inr ((⟨by omega, rfl⟩)))))))))⟩))) htok (by decide)
theorem e_then_bad4 (h : EXR tx n S0 3 tok sc rc v3 tc msn mac man mih mrn mcc mrs mef k fr ff ne) (hk1 : 1 ≤ k) (hf : fr k = 1) (hs : (kMS tx n tok = 2 ∧ kMT tx n tok = 7)) (hb4 : 40 ≤ tc) : RF tx n S0 4 tok := by
  obtain ⟨ri, tp, ts, be, xst, xop, wc, sn, ac, ic, an, ih, rn, rs, cc, cs, wt, hc, hbe, htok, ht, hfr, hne, hk, hp⟩ := h
  obtain ⟨t1, t3, t0, tw, tsg, tn, td⟩ := tk_all tx n tok
  have k7 := tw 7 (by decide)
  obtain ⟨rfl, hw0, hpw, htop, ho⟩ : xst = 3 ∧ 0 ≤ wc ∧ kPop wt 1 wc = kPop wt 1 k ∧ kBn (kTop wt k) ≤ 1 ∧ ¬ OPT tx n tok := by
    rcases hp with hp | hp | hp | hp | hp
    all_goals first | exact hp.2 | (have z := hp.1; omega)
  have f1 := hfr.1 (k - 1) (by omega)
  rw [show k - 1 + 1 = k by omega] at f1
  have f2 := frr_bn f1
  have op := kOc_pop (wt := wt) (k := k) (by omega)
  rw [kTop_p (show 0 < k by omega)] at op
  have wk : wt (k - 1) = 9 := by
    rcases f1 with y | y | y | y | y | y <;> omega
  have tk9 : kTop wt k = 9 := by rw [kTop_p (show 0 < k by omega)]; exact wk
  have pk : kPop wt 1 k = k := kPop_id hk.1 (by decide) (by rw [tk9]; decide)
  exact rf_x (xst2 := 3) (tc2 := tc) (xop2 := xop) (wt2 := wt) (wc2 := wc) (ic2 := 0) hc (Or.inr (Or.inr (Or.inr ⟨rfl, rfl, (Or.inr (Or.inr (Or.inr (Or.inr (Or.inl (⟨by omega, rfl, Or.inr (Or.inl ⟨rfl, by rw [hpw, pk, tk9], by omega⟩)⟩))))))⟩))) htok (by decide)
theorem e_then_ok {v : Int} (h : EXR tx n S0 3 tok sc rc v3 tc msn mac man mih mrn mcc mrs mef k fr ff ne) (hk1 : 1 ≤ k) (hf : fr k = 1) (hs : (kMS tx n tok = 2 ∧ kMT tx n tok = 7)) (hb4 : ¬ 40 ≤ tc) : EXR tx n S0 0 (nxT tx n tok) sc rc v3 (tc + 1) msn mac man mih mrn mcc mrs mef k (zU fr k 2) (zU ff k v) ne := by
  obtain ⟨ri, tp, ts, be, xst, xop, wc, sn, ac, ic, an, ih, rn, rs, cc, cs, wt, hc, hbe, htok, ht, hfr, hne, hk, hp⟩ := h
  obtain ⟨t1, t3, t0, tw, tsg, tn, td⟩ := tk_all tx n tok
  have k7 := tw 7 (by decide)
  obtain ⟨rfl, hw0, hpw, htop, ho⟩ : xst = 3 ∧ 0 ≤ wc ∧ kPop wt 1 wc = kPop wt 1 k ∧ kBn (kTop wt k) ≤ 1 ∧ ¬ OPT tx n tok := by
    rcases hp with hp | hp | hp | hp | hp
    all_goals first | exact hp.2 | (have z := hp.1; omega)
  have f1 := hfr.1 (k - 1) (by omega)
  rw [show k - 1 + 1 = k by omega] at f1
  have f2 := frr_bn f1
  have op := kOc_pop (wt := wt) (k := k) (by omega)
  rw [kTop_p (show 0 < k by omega)] at op
  have wk : wt (k - 1) = 9 := by
    rcases f1 with y | y | y | y | y | y <;> omega
  have tk9 : kTop wt k = 9 := by rw [kTop_p (show 0 < k by omega)]; exact wk
  have pk : kPop wt 1 k = k := kPop_id hk.1 (by decide) (by rw [tk9]; decide)
  have o1 : kOpn 9 = 1 := by decide
  have o2 : kOpn 10 = 1 := by decide
  have h2 := kOc_put (wt := wt) (k := k - 1) (v := 10) (by omega)
  rw [show k - 1 + 1 = k by omega] at h2
  rw [wk] at op
  have b2 : kBn 10 = 0 := by decide
  exact ex_x hc (Or.inr (Or.inr (Or.inr ⟨rfl, rfl, (Or.inr (Or.inr (Or.inr (Or.inr (Or.inl (⟨by omega, rfl, Or.inr (Or.inr ⟨rfl, by rw [hpw, pk, tk9], by omega, rfl, rfl, by rw [hpw, pk], by rw [hpw, pk]⟩)⟩))))))⟩))) hbe htok ht (wt2 := zU wt (k - 1) 10) (wc2 := k) (frs_set hfr (by omega) (Or.inr (Or.inr (Or.inr (Or.inl ⟨rfl, rfl⟩)))) (by omega) (by omega)) (by omega) (by omega) (Or.inl ⟨rfl, rfl, rfl, by rw [kTop_set (show 0 < k by omega)]; omega⟩)
theorem e_else_bad4 (h : EXR tx n S0 3 tok sc rc v3 tc msn mac man mih mrn mcc mrs mef k fr ff ne) (hk1 : 1 ≤ k) (hf : fr k = 2) (hs : (kMS tx n tok = 2 ∧ kMT tx n tok = 8)) (hb4 : 40 ≤ tc) : RF tx n S0 4 tok := by
  obtain ⟨ri, tp, ts, be, xst, xop, wc, sn, ac, ic, an, ih, rn, rs, cc, cs, wt, hc, hbe, htok, ht, hfr, hne, hk, hp⟩ := h
  obtain ⟨t1, t3, t0, tw, tsg, tn, td⟩ := tk_all tx n tok
  have k8 := tw 8 (by decide)
  obtain ⟨rfl, hw0, hpw, htop, ho⟩ : xst = 3 ∧ 0 ≤ wc ∧ kPop wt 1 wc = kPop wt 1 k ∧ kBn (kTop wt k) ≤ 1 ∧ ¬ OPT tx n tok := by
    rcases hp with hp | hp | hp | hp | hp
    all_goals first | exact hp.2 | (have z := hp.1; omega)
  have f1 := hfr.1 (k - 1) (by omega)
  rw [show k - 1 + 1 = k by omega] at f1
  have f2 := frr_bn f1
  have op := kOc_pop (wt := wt) (k := k) (by omega)
  rw [kTop_p (show 0 < k by omega)] at op
  have wk : wt (k - 1) = 10 := by
    rcases f1 with y | y | y | y | y | y <;> omega
  have tk9 : kTop wt k = 10 := by rw [kTop_p (show 0 < k by omega)]; exact wk
  have pk : kPop wt 1 k = k := kPop_id hk.1 (by decide) (by rw [tk9]; decide)
  exact rf_x (xst2 := 3) (tc2 := tc) (xop2 := xop) (wt2 := wt) (wc2 := wc) (ic2 := 0) hc (Or.inr (Or.inr (Or.inr ⟨rfl, rfl, (Or.inr (Or.inr (Or.inr (Or.inr (Or.inr (Or.inl (⟨by omega, rfl, Or.inr (Or.inl ⟨rfl, by rw [hpw, pk, tk9], by omega⟩)⟩)))))))⟩))) htok (by decide)
theorem e_else_ok {v : Int} (h : EXR tx n S0 3 tok sc rc v3 tc msn mac man mih mrn mcc mrs mef k fr ff ne) (hk1 : 1 ≤ k) (hf : fr k = 2) (hs : (kMS tx n tok = 2 ∧ kMT tx n tok = 8)) (hb4 : ¬ 40 ≤ tc) : EXR tx n S0 0 (nxT tx n tok) sc rc v3 (tc + 1) msn mac man mih mrn mcc mrs mef k (zU fr k 3) (zU ff k v) ne := by
  obtain ⟨ri, tp, ts, be, xst, xop, wc, sn, ac, ic, an, ih, rn, rs, cc, cs, wt, hc, hbe, htok, ht, hfr, hne, hk, hp⟩ := h
  obtain ⟨t1, t3, t0, tw, tsg, tn, td⟩ := tk_all tx n tok
  have k8 := tw 8 (by decide)
  obtain ⟨rfl, hw0, hpw, htop, ho⟩ : xst = 3 ∧ 0 ≤ wc ∧ kPop wt 1 wc = kPop wt 1 k ∧ kBn (kTop wt k) ≤ 1 ∧ ¬ OPT tx n tok := by
    rcases hp with hp | hp | hp | hp | hp
    all_goals first | exact hp.2 | (have z := hp.1; omega)
  have f1 := hfr.1 (k - 1) (by omega)
  rw [show k - 1 + 1 = k by omega] at f1
  have f2 := frr_bn f1
  have op := kOc_pop (wt := wt) (k := k) (by omega)
  rw [kTop_p (show 0 < k by omega)] at op
  have wk : wt (k - 1) = 10 := by
    rcases f1 with y | y | y | y | y | y <;> omega
  have tk9 : kTop wt k = 10 := by rw [kTop_p (show 0 < k by omega)]; exact wk
  have pk : kPop wt 1 k = k := kPop_id hk.1 (by decide) (by rw [tk9]; decide)
  have o1 : kOpn 10 = 1 := by decide
  have o2 : kOpn 11 = 1 := by decide
  have h2 := kOc_put (wt := wt) (k := k - 1) (v := 11) (by omega)
  rw [show k - 1 + 1 = k by omega] at h2
  rw [wk] at op
  have b2 : kBn 11 = 1 := by decide
  exact ex_x hc (Or.inr (Or.inr (Or.inr ⟨rfl, rfl, (Or.inr (Or.inr (Or.inr (Or.inr (Or.inr (Or.inl (⟨by omega, rfl, Or.inr (Or.inr ⟨rfl, by rw [hpw, pk, tk9], by omega, rfl, rfl, by rw [hpw, pk], by rw [hpw, pk]⟩)⟩)))))))⟩))) hbe htok ht (wt2 := zU wt (k - 1) 11) (wc2 := k) (frs_set hfr (by omega) (Or.inr (Or.inr (Or.inr (Or.inr (Or.inl ⟨rfl, rfl⟩))))) (by omega) (by omega)) (by omega) (by omega) (Or.inl ⟨rfl, rfl, rfl, by rw [kTop_set (show 0 < k by omega)]; omega⟩)
theorem e_else_end (h : EXR tx n S0 3 tok sc rc v3 tc msn mac man mih mrn mcc mrs mef k fr ff ne) (hk1 : 1 ≤ k) (hf : fr k = 3) : EXR tx n S0 3 tok sc rc v3 tc msn mac man mih mrn mcc mrs mef (k - 1) fr ff (ne - 1) := by
  obtain ⟨ri, tp, ts, be, xst, xop, wc, sn, ac, ic, an, ih, rn, rs, cc, cs, wt, hc, hbe, htok, ht, hfr, hne, hk, hp⟩ := h
  obtain ⟨rfl, hw0, hpw, htop, ho⟩ : xst = 3 ∧ 0 ≤ wc ∧ kPop wt 1 wc = kPop wt 1 k ∧ kBn (kTop wt k) ≤ 1 ∧ ¬ OPT tx n tok := by
    rcases hp with hp | hp | hp | hp | hp
    all_goals first | exact hp.2 | (have z := hp.1; omega)
  have f1 := hfr.1 (k - 1) (by omega)
  rw [show k - 1 + 1 = k by omega] at f1
  have f2 := frr_bn f1
  have op := kOc_pop (wt := wt) (k := k) (by omega)
  rw [kTop_p (show 0 < k by omega)] at op
  have wk : wt (k - 1) = 11 := by
    rcases f1 with y | y | y | y | y | y <;> omega
  have o1 : kOpn 11 = 1 := by decide
  have b1 : kBn 11 = 1 := by decide
  rw [wk] at op
  have p1 : kPop wt 1 k = kPop wt 1 (k - 1) := kPop_t (by omega) (by rw [wk]; omega)
  have g := hfr.2.1 (k - 1) (by omega) (by omega)
  have tb : kBn (kTop wt (k - 1)) ≤ 1 := by
    rcases Int.lt_or_eq_of_le (show 0 ≤ k - 1 by omega) with z | z
    · rw [kTop_p z]
      omega
    · unfold kTop
      rw [if_neg (by omega)]
      decide
  exact ⟨ri, tp, ts, be, 3, xop, wc, sn, ac, ic, an, ih, rn, rs, cc, cs, wt, hc, hbe, htok, ht, frs_sub hfr (by omega), by omega, by omega, Or.inr (Or.inr (Or.inr (Or.inl ⟨rfl, rfl, hw0, by omega, tb, ho⟩)))⟩
theorem e_close_bad4 (h : EXR tx n S0 3 tok sc rc v3 tc msn mac man mih mrn mcc mrs mef k fr ff ne) (hk1 : 1 ≤ k) (hf : fr k = 4) (hs : (kMS tx n tok = 4 ∧ kMT tx n tok = 41)) (hb4 : 40 ≤ tc) : RF tx n S0 4 tok := by
  obtain ⟨ri, tp, ts, be, xst, xop, wc, sn, ac, ic, an, ih, rn, rs, cc, cs, wt, hc, hbe, htok, ht, hfr, hne, hk, hp⟩ := h
  obtain ⟨t1, t3, t0, tw, tsg, tn, td⟩ := tk_all tx n tok
  have k41 := tsg 41 (by decide)
  obtain ⟨rfl, hw0, hpw, htop, ho⟩ : xst = 3 ∧ 0 ≤ wc ∧ kPop wt 1 wc = kPop wt 1 k ∧ kBn (kTop wt k) ≤ 1 ∧ ¬ OPT tx n tok := by
    rcases hp with hp | hp | hp | hp | hp
    all_goals first | exact hp.2 | (have z := hp.1; omega)
  have f1 := hfr.1 (k - 1) (by omega)
  rw [show k - 1 + 1 = k by omega] at f1
  have f2 := frr_bn f1
  have op := kOc_pop (wt := wt) (k := k) (by omega)
  rw [kTop_p (show 0 < k by omega)] at op
  have wk : wt (k - 1) = 40 := by
    rcases f1 with y | y | y | y | y | y <;> omega
  have tk9 : kTop wt k = 40 := by rw [kTop_p (show 0 < k by omega)]; exact wk
  have pk : kPop wt 1 k = k := kPop_id hk.1 (by decide) (by rw [tk9]; decide)
  exact rf_x (xst2 := 3) (tc2 := tc) (xop2 := xop) (wt2 := wt) (wc2 := wc) (ic2 := 0) hc (Or.inr (Or.inr (Or.inr ⟨rfl, rfl, (Or.inr (Or.inr (Or.inr (Or.inl (⟨by omega, ⟨rfl, rfl⟩, Or.inr (Or.inl ⟨rfl, by rw [hpw, pk, tk9], by omega⟩)⟩)))))⟩))) htok (by decide)
theorem e_close_ok (h : EXR tx n S0 3 tok sc rc v3 tc msn mac man mih mrn mcc mrs mef k fr ff ne) (hk1 : 1 ≤ k) (hf : fr k = 4) (hs : (kMS tx n tok = 4 ∧ kMT tx n tok = 41)) (hb4 : ¬ 40 ≤ tc) : EXR tx n S0 2 (nxT tx n tok) sc rc v3 (tc + 1) msn mac man mih mrn mcc mrs mef (k - 1) fr ff (ne - 1) := by
  obtain ⟨ri, tp, ts, be, xst, xop, wc, sn, ac, ic, an, ih, rn, rs, cc, cs, wt, hc, hbe, htok, ht, hfr, hne, hk, hp⟩ := h
  obtain ⟨t1, t3, t0, tw, tsg, tn, td⟩ := tk_all tx n tok
  have k41 := tsg 41 (by decide)
  obtain ⟨rfl, hw0, hpw, htop, ho⟩ : xst = 3 ∧ 0 ≤ wc ∧ kPop wt 1 wc = kPop wt 1 k ∧ kBn (kTop wt k) ≤ 1 ∧ ¬ OPT tx n tok := by
    rcases hp with hp | hp | hp | hp | hp
    all_goals first | exact hp.2 | (have z := hp.1; omega)
  have f1 := hfr.1 (k - 1) (by omega)
  rw [show k - 1 + 1 = k by omega] at f1
  have f2 := frr_bn f1
  have op := kOc_pop (wt := wt) (k := k) (by omega)
  rw [kTop_p (show 0 < k by omega)] at op
  have wk : wt (k - 1) = 40 := by
    rcases f1 with y | y | y | y | y | y <;> omega
  have tk9 : kTop wt k = 40 := by rw [kTop_p (show 0 < k by omega)]; exact wk
  have pk : kPop wt 1 k = k := kPop_id hk.1 (by decide) (by rw [tk9]; decide)
  have o1 : kOpn 40 = 1 := by decide
  rw [wk] at op
  exact ex_x hc (Or.inr (Or.inr (Or.inr ⟨rfl, rfl, (Or.inr (Or.inr (Or.inr (Or.inl (⟨by omega, ⟨rfl, rfl⟩, Or.inr (Or.inr ⟨rfl, by rw [hpw, pk, tk9], by omega, rfl, rfl, by rw [hpw, pk]⟩)⟩)))))⟩))) hbe htok ht (wt2 := wt) (wc2 := kPop wt 5 (k - 1)) (frs_sub hfr (by omega)) (by omega) (by omega) (Or.inr (Or.inr (Or.inl ⟨rfl, rfl, rfl⟩)))
end EL2
