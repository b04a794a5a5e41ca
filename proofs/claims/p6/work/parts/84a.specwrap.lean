/-! the steps, by the symbol and the rule at hand -/
section WR
variable {tx : Int → Int} {n : Int} {S0 : Nat → Int → Int} {tok hd v1 v2 v3 sc rc tc k ne xp s9 r9 : Int} {msn mac man mih mrn mcc mrs mef fr ff : Int → Int}
theorem l3_bad2_s  (es : s9 = sc - 1) (h : RSt tx n S0 3 tok hd v1 v2 v3 sc rc msn mac man mih mrn mcc mrs mef) (hs : kMS tx n tok = 1) (hsc : 1 ≤ sc) (hf2 : 0 ≤ kLst (fun j => man (6 * s9 + j)) (mac s9) (kMT tx n tok)) : RF tx n S0 2 tok := by
  subst es
  exact l3_bad2 h hs hsc hf2
theorem l3_bad4_s  (es : s9 = sc - 1) (h : RSt tx n S0 3 tok hd v1 v2 v3 sc rc msn mac man mih mrn mcc mrs mef) (hs : kMS tx n tok = 1) (hsc : 1 ≤ sc) (hf2 : kLst (fun j => man (6 * s9 + j)) (mac s9) (kMT tx n tok) = -1) (h6 : mac s9 = 6) : RF tx n S0 4 tok := by
  subst es
  exact l3_bad4 h hs hsc hf2 h6
theorem l3_ok_s  (es : s9 = sc - 1) (h : RSt tx n S0 3 tok hd v1 v2 v3 sc rc msn mac man mih mrn mcc mrs mef) (hs : kMS tx n tok = 1) (hsc : 1 ≤ sc) (hf2 : kLst (fun j => man (6 * s9 + j)) (mac s9) (kMT tx n tok) = -1) (h6 : mac s9 < 6) (hv : v1 = 0 ∨ v1 = 1) : RSt tx n S0 2 (nxT tx n tok) hd v1 v2 v3 sc rc msn (zU mac s9 (mac s9 + 1)) (zU man (6 * s9 + mac s9) (kMT tx n tok)) (zU mih (6 * s9 + mac s9) v1) mrn mcc mrs mef := by
  subst es
  exact l3_ok h hs hsc hf2 h6 hv
theorem l7_ok_s  (er : r9 = rc - 1) (h : RSt tx n S0 7 tok hd v1 v2 v3 sc rc msn mac man mih mrn mcc mrs mef) (hs : kMS tx n tok = 1) (hrc : 1 ≤ rc) (hf2 : 0 ≤ kLst msn sc (kMT tx n tok)) (hh : rc - 1 ≤ hd) : RSt tx n S0 8 (nxT tx n tok) rc v1 v2 v3 sc rc msn mac man mih mrn mcc (zU mrs (4 * r9) (kLst msn sc (kMT tx n tok))) mef := by
  subst er
  exact l7_ok h hs hrc hf2 hh
theorem l8_bad4_s  (er : r9 = rc - 1) (h : RSt tx n S0 8 tok hd v1 v2 v3 sc rc msn mac man mih mrn mcc mrs mef) (hs : kMS tx n tok = 1) (hrc : 1 ≤ rc) (hf2 : 0 ≤ kLst msn sc (kMT tx n tok)) (h3 : mcc r9 = 3) : RF tx n S0 4 tok := by
  subst er
  exact l8_bad4 h hs hrc hf2 h3
theorem l8_ok_s  (er : r9 = rc - 1) (h : RSt tx n S0 8 tok hd v1 v2 v3 sc rc msn mac man mih mrn mcc mrs mef) (hs : kMS tx n tok = 1) (hrc : 1 ≤ rc) (hf2 : 0 ≤ kLst msn sc (kMT tx n tok)) (h3 : mcc r9 < 3) : RSt tx n S0 8 (nxT tx n tok) hd v1 v2 v3 sc rc msn mac man mih mrn (zU mcc r9 (mcc r9 + 1)) (zU mrs (4 * r9 + (mcc r9 + 1)) (kLst msn sc (kMT tx n tok))) mef := by
  subst er
  exact l8_ok h hs hrc hf2 h3
theorem l9_bad8_s  (er : r9 = rc - 1) (h : RSt tx n S0 9 tok hd v1 v2 v3 sc rc msn mac man mih mrn mcc mrs mef) (hs : (kMS tx n tok = 2 ∧ kMT tx n tok = 4)) (hrc : 1 ≤ rc) (hh : hd = rc) (hl : kLack mrs mac mih mef mcc r9) : RF tx n S0 8 tok := by
  subst er
  exact l9_bad8 h hs hrc hh hl
theorem l9_end_s  (er : r9 = rc - 1) (h : RSt tx n S0 9 tok hd v1 v2 v3 sc rc msn mac man mih mrn mcc mrs mef) (hs : (kMS tx n tok = 2 ∧ kMT tx n tok = 4)) (hrc : 1 ≤ rc) (hh : hd = rc) (hl : ¬ kLack mrs mac mih mef mcc r9) : RSt tx n S0 10 (nxT tx n tok) hd v1 v2 v3 sc rc msn mac man mih mrn mcc mrs mef := by
  subst er
  exact l9_end h hs hrc hh hl
theorem l9_bad3_s  (er : r9 = rc - 1) (h : RSt tx n S0 9 tok hd v1 v2 v3 sc rc msn mac man mih mrn mcc mrs mef) (hs : kMS tx n tok = 3) (hrc : 1 ≤ rc) (hk : mcc r9 < kMT tx n tok) : RF tx n S0 3 tok := by
  subst er
  exact l9_bad3 h hs hrc hk
theorem l9_num_s  (er : r9 = rc - 1) (h : RSt tx n S0 9 tok hd v1 v2 v3 sc rc msn mac man mih mrn mcc mrs mef) (hs : kMS tx n tok = 3) (hrc : 1 ≤ rc) (hk : kMT tx n tok ≤ mcc r9) : RSt tx n S0 11 (nxT tx n tok) hd v1 (kMT tx n tok) v3 sc rc msn mac man mih mrn mcc mrs mef := by
  subst er
  exact l9_num h hs hrc hk
theorem l12_bad3_s  (er : r9 = rc - 1) (h : RSt tx n S0 12 tok hd v1 v2 v3 sc rc msn mac man mih mrn mcc mrs mef) (hs : kMS tx n tok = 1) (hrc : 1 ≤ rc) (hh : hd = rc) (hk : 0 ≤ v2 ∧ v2 ≤ mcc r9) (hf2 : kLst (fun j => man (6 * (mrs (4 * r9 + v2)) + j)) (mac (mrs (4 * r9 + v2))) (kMT tx n tok) = -1) : RF tx n S0 3 tok := by
  subst er
  exact l12_bad3 h hs hrc hh hk hf2
theorem l12_bad6_s  (er : r9 = rc - 1) (h : RSt tx n S0 12 tok hd v1 v2 v3 sc rc msn mac man mih mrn mcc mrs mef) (hs : kMS tx n tok = 1) (hrc : 1 ≤ rc) (hh : hd = rc) (hk : 0 ≤ v2 ∧ v2 ≤ mcc r9) (hf2 : 0 ≤ kLst (fun j => man (6 * (mrs (4 * r9 + v2)) + j)) (mac (mrs (4 * r9 + v2))) (kMT tx n tok)) (hm : ¬ (mih (6 * (mrs (4 * r9 + v2)) + kLst (fun j => man (6 * (mrs (4 * r9 + v2)) + j)) (mac (mrs (4 * r9 + v2))) (kMT tx n tok)) = 1 ↔ 0 < v2)) : RF tx n S0 6 tok := by
  subst er
  exact l12_bad6 h hs hrc hh hk hf2 hm
theorem l12_bad7_s  (er : r9 = rc - 1) (h : RSt tx n S0 12 tok hd v1 v2 v3 sc rc msn mac man mih mrn mcc mrs mef) (hs : kMS tx n tok = 1) (hrc : 1 ≤ rc) (hh : hd = rc) (hk : 0 ≤ v2 ∧ v2 ≤ mcc r9) (hf2 : 0 ≤ kLst (fun j => man (6 * (mrs (4 * r9 + v2)) + j)) (mac (mrs (4 * r9 + v2))) (kMT tx n tok)) (hm : (mih (6 * (mrs (4 * r9 + v2)) + kLst (fun j => man (6 * (mrs (4 * r9 + v2)) + j)) (mac (mrs (4 * r9 + v2))) (kMT tx n tok)) = 1 ↔ 0 < v2)) (he : 0 ≤ mef (24 * r9 + 6 * v2 + kLst (fun j => man (6 * (mrs (4 * r9 + v2)) + j)) (mac (mrs (4 * r9 + v2))) (kMT tx n tok))) : RF tx n S0 7 tok := by
  subst er
  exact l12_bad7 h hs hrc hh hk hf2 hm he
theorem l12_ok_s  (er : r9 = rc - 1) (h : RSt tx n S0 12 tok hd v1 v2 v3 sc rc msn mac man mih mrn mcc mrs mef) (hs : kMS tx n tok = 1) (hrc : 1 ≤ rc) (hh : hd = rc) (hk : 0 ≤ v2 ∧ v2 ≤ mcc r9) (hf2 : 0 ≤ kLst (fun j => man (6 * (mrs (4 * r9 + v2)) + j)) (mac (mrs (4 * r9 + v2))) (kMT tx n tok)) (hm : (mih (6 * (mrs (4 * r9 + v2)) + kLst (fun j => man (6 * (mrs (4 * r9 + v2)) + j)) (mac (mrs (4 * r9 + v2))) (kMT tx n tok)) = 1 ↔ 0 < v2)) (he : mef (24 * r9 + 6 * v2 + kLst (fun j => man (6 * (mrs (4 * r9 + v2)) + j)) (mac (mrs (4 * r9 + v2))) (kMT tx n tok)) = -1) : RSt tx n S0 13 (nxT tx n tok) hd v1 v2 (24 * r9 + 6 * v2 + kLst (fun j => man (6 * (mrs (4 * r9 + v2)) + j)) (mac (mrs (4 * r9 + v2))) (kMT tx n tok)) sc rc msn mac man mih mrn mcc mrs mef := by
  subst er
  exact l12_ok h hs hrc hh hk hf2 hm he
theorem o_bad3_s  (er : r9 = rc - 1) (h : EXR tx n S0 1 tok sc rc v3 tc msn mac man mih mrn mcc mrs mef k fr ff ne) (hs : kMS tx n tok = 3) (hd2 : nxT tx n tok < n ∧ tx (nxT tx n tok) = 46) (hrc : 1 ≤ rc) (hb : mcc r9 < kMT tx n tok) : RF tx n S0 3 tok := by
  subst er
  exact o_bad3 h hs hd2 hrc hb
theorem o_bad4_s  (er : r9 = rc - 1) (h : EXR tx n S0 1 tok sc rc v3 tc msn mac man mih mrn mcc mrs mef k fr ff ne) (hs : kMS tx n tok = 3) (hd2 : nxT tx n tok < n ∧ tx (nxT tx n tok) = 46) (hrc : 1 ≤ rc) (hb : kMT tx n tok ≤ mcc r9) (hb4 : 40 ≤ tc) : RF tx n S0 4 tok := by
  subst er
  exact o_bad4 h hs hd2 hrc hb hb4
theorem o_num_s  (er : r9 = rc - 1) (h : EXR tx n S0 1 tok sc rc v3 tc msn mac man mih mrn mcc mrs mef k fr ff ne) (hs : kMS tx n tok = 3) (hd2 : nxT tx n tok < n ∧ tx (nxT tx n tok) = 46) (hrc : 1 ≤ rc) (hb : kMT tx n tok ≤ mcc r9) (hb4 : ¬ 40 ≤ tc) : EXO tx n S0 1 (nxT tx n tok) sc rc v3 (tc + 1) (kMT tx n tok) msn mac man mih mrn mcc mrs mef k fr ff ne := by
  subst er
  exact o_num h hs hd2 hrc hb hb4
theorem o_nm3_s  (er : r9 = rc - 1) (h : EXO tx n S0 2 tok sc rc v3 tc xp msn mac man mih mrn mcc mrs mef k fr ff ne) (hs : kMS tx n tok = 1) (hrc : 1 ≤ rc) (hxp : 0 ≤ xp ∧ xp ≤ mcc r9) (hf2 : kLst (fun j => man (6 * (mrs (4 * r9 + xp)) + j)) (mac (mrs (4 * r9 + xp))) (kMT tx n tok) = -1) : RF tx n S0 3 tok := by
  subst er
  exact o_nm3 h hs hrc hxp hf2
theorem o_nm4_s  (er : r9 = rc - 1) (h : EXO tx n S0 2 tok sc rc v3 tc xp msn mac man mih mrn mcc mrs mef k fr ff ne) (hs : kMS tx n tok = 1) (hrc : 1 ≤ rc) (hxp : 0 ≤ xp ∧ xp ≤ mcc r9) (hf2 : 0 ≤ kLst (fun j => man (6 * (mrs (4 * r9 + xp)) + j)) (mac (mrs (4 * r9 + xp))) (kMT tx n tok)) (hb4 : 40 ≤ tc) : RF tx n S0 4 tok := by
  subst er
  exact o_nm4 h hs hrc hxp hf2 hb4
theorem o_nm_s  (er : r9 = rc - 1) (h : EXO tx n S0 2 tok sc rc v3 tc xp msn mac man mih mrn mcc mrs mef k fr ff ne) (hs : kMS tx n tok = 1) (hrc : 1 ≤ rc) (hxp : 0 ≤ xp ∧ xp ≤ mcc r9) (hf2 : 0 ≤ kLst (fun j => man (6 * (mrs (4 * r9 + xp)) + j)) (mac (mrs (4 * r9 + xp))) (kMT tx n tok)) (hb4 : ¬ 40 ≤ tc) : EXR tx n S0 2 (nxT tx n tok) sc rc v3 (tc + 1) msn mac man mih mrn mcc mrs mef k fr ff ne := by
  subst er
  exact o_nm h hs hrc hxp hf2 hb4
end WR
