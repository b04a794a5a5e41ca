/-! what omega is not to see -/
def HID (a : Prop) : Prop := a
theorem hid {a : Prop} (h : a) : HID a := h
theorem HID.to {a : Prop} (h : HID a) : a := h
/-! a state's numbers that nobody asks for -/
theorem rst_v {tx : Int → Int} {n : Int} {S0 : Nat → Int → Int} {st tok hd v1 v2 v3 u1 u2 u3 sc rc : Int} {msn mac man mih mrn mcc mrs mef : Int → Int} (h : RSt tx n S0 st tok hd v1 v2 v3 sc rc msn mac man mih mrn mcc mrs mef) (h1 : ¬ st = 3) (h2 : ¬ (st = 11 ∨ st = 12)) (h3 : ¬ st = 13) : RSt tx n S0 st tok hd u1 u2 u3 sc rc msn mac man mih mrn mcc mrs mef := by
  obtain ⟨ri, tp, ts, be, xst, tc, xop, wc, sn, ac, ic, an, ih, rn, rs, cc, cs, wt, hc, hbe, htok, ht, -, -, -⟩ := h
  exact ⟨ri, tp, ts, be, xst, tc, xop, wc, sn, ac, ic, an, ih, rn, rs, cc, cs, wt, hc, hbe, htok, ht, fun z => absurd z h1, fun z => absurd z h2, fun z => absurd z h3⟩
