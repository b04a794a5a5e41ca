/-! the reference's reading, TOKEN by TOKEN: rules -/
section RL3
variable {tx : Int → Int} {n : Int} {S0 : Nat → Int → Int} {tok hd v1 v2 v3 sc rc : Int} {msn mac man mih mrn mcc mrs mef : Int → Int}
variable {sn ac ic an ih rn rs cc cs : Int → Int}
theorem l5_bad (h : RSt tx n S0 5 tok hd v1 v2 v3 sc rc msn mac man mih mrn mcc mrs mef) (hs : ¬ kMS tx n tok = 1) : RF tx n S0 1 tok := by
  obtain ⟨ri, tp, ts, be, xst, tc, xop, wc, sn, ac, ic, an, ih, rn, rs, cc, cs, wt, hc, hbe, htok, ht, w1, w2, w3⟩ := h
  obtain ⟨t1, t3, t0, tw, tsg, tn, td⟩ := tk_all tx n tok
  exact rf_a (r := 1) (rk := fun _ => 0) (ec := fun _ => 0) (ce := fun _ => 0) (hgs := fun _ => 0) hc (Or.inr (Or.inl ⟨by omega, ⟨rfl, rfl, rfl, rfl, rfl, rfl, rfl, rfl, rfl⟩, (Or.inl (⟨by omega, ⟨rfl, rfl⟩, Or.inl ⟨Or.inl ⟨rfl, by omega⟩, rfl, rfl, rfl, rfl, rfl, rfl, rfl, rfl⟩⟩))⟩)) htok (by omega) (by decide)
theorem l5_bad2 (h : RSt tx n S0 5 tok hd v1 v2 v3 sc rc msn mac man mih mrn mcc mrs mef) (hs : kMS tx n tok = 1) (hf2 : 0 ≤ kLst mrn rc (kMT tx n tok)) : RF tx n S0 2 tok := by
  obtain ⟨ri, tp, ts, be, xst, tc, xop, wc, sn, ac, ic, an, ih, rn, rs, cc, cs, wt, hc, hbe, htok, ht, w1, w2, w3⟩ := h
  obtain ⟨t1, t3, t0, tw, tsg, tn, td⟩ := tk_all tx n tok
  obtain ⟨⟨b1, b2⟩, q1, q2, q3, q4, q5, q6, q6d, q7, q8⟩ := ht
  have hf : kFnd rn rc (kCv tx n tok 0) 0 = kLst mrn rc (kMT tx n tok) := fnd_lst b2.1 (fun j hj => (q6 j hj).1) q6d (tn hs)
  exact rf_a (r := 2) (rk := fun _ => 0) (ec := fun _ => 0) (ce := fun _ => 0) (hgs := fun _ => 0) hc (Or.inr (Or.inl ⟨by omega, ⟨rfl, rfl, rfl, rfl, rfl, rfl, rfl, rfl, rfl⟩, (Or.inl (⟨by omega, ⟨rfl, rfl⟩, Or.inl ⟨Or.inr (Or.inl ⟨rfl, by omega, by omega⟩), rfl, rfl, rfl, rfl, rfl, rfl, rfl, rfl⟩⟩))⟩)) htok (by omega) (by decide)
theorem l5_bad4 (h : RSt tx n S0 5 tok hd v1 v2 v3 sc rc msn mac man mih mrn mcc mrs mef) (hs : kMS tx n tok = 1) (hf2 : kLst mrn rc (kMT tx n tok) = -1) (h30 : rc = 30) : RF tx n S0 4 tok := by
  obtain ⟨ri, tp, ts, be, xst, tc, xop, wc, sn, ac, ic, an, ih, rn, rs, cc, cs, wt, hc, hbe, htok, ht, w1, w2, w3⟩ := h
  obtain ⟨t1, t3, t0, tw, tsg, tn, td⟩ := tk_all tx n tok
  obtain ⟨⟨b1, b2⟩, q1, q2, q3, q4, q5, q6, q6d, q7, q8⟩ := ht
  have hf : kFnd rn rc (kCv tx n tok 0) 0 = kLst mrn rc (kMT tx n tok) := fnd_lst b2.1 (fun j hj => (q6 j hj).1) q6d (tn hs)
  exact rf_a (r := 4) (rk := fun _ => 0) (ec := fun _ => 0) (ce := fun _ => 0) (hgs := fun _ => 0) hc (Or.inr (Or.inl ⟨by omega, ⟨rfl, rfl, rfl, rfl, rfl, rfl, rfl, rfl, rfl⟩, (Or.inl (⟨by omega, ⟨rfl, rfl⟩, Or.inl ⟨Or.inr (Or.inr ⟨rfl, by omega, by omega, by omega⟩), rfl, rfl, rfl, rfl, rfl, rfl, rfl, rfl⟩⟩))⟩)) htok (by omega) (by decide)
theorem trl_rulN {nm to : Int} (ht : TRL hd sc rc sn ac ic an ih rn rs cc cs msn mac man mih mrn mcc mrs mef) (hn : NMR nm to) (hf : ∀ j : Int, 0 ≤ j → j < rc → ¬ mrn j = to) (h30 : rc < 30) (hh : hd ≤ rc) : TRL hd sc (rc + 1) sn ac ic an ih (zU rn rc nm) rs (zU cc rc 0) (zFill cs (24 * rc) (24 * rc + 24) (-1)) msn mac man mih (zU mrn rc to) (zU mcc rc 0) mrs (zFill mef (24 * rc) (24 * rc + 24) (-1)) := by
  obtain ⟨⟨b1, b2⟩, q1, q2, q3, q4, q5, q6, q6d, q7, q8⟩ := ht
  refine ⟨⟨b1, by omega⟩, q1, q2, q3, q4, q5, ?_, ?_, ?_, ?_⟩
  · intro r hr
    by_cases z : r = rc
    · rw [z, zU_s, zU_s, zU_s, zU_s]
      exact ⟨hn, rfl, by omega, by omega⟩
    · rw [zU_n z, zU_n z, zU_n z, zU_n z]
      exact q6 r (by omega)
  · intro j k hj hk e
    by_cases z : j = rc
    · by_cases y : k = rc
      · omega
      · rw [z, zU_s, zU_n y] at e
        exact absurd e.symm (hf k hk.1 (by omega))
    · by_cases y : k = rc
      · rw [y, zU_s, zU_n z] at e
        exact absurd e (hf j hj.1 (by omega))
      · rw [zU_n z, zU_n y] at e
        exact q6d j k (by omega) (by omega) e
  · intro r k hr hk hh2
    by_cases z : r = rc
    · rw [z, zU_s] at hk
      have z2 := hh2 (by omega)
      omega
    · rw [zU_n z] at hk
      exact q7 r k (by omega) hk hh2
  · intro r p hr hp
    by_cases z : r = rc
    · rw [zFill_in (by omega), zFill_in (by omega)]
      omega
    · rw [zFill_out (by omega), zFill_out (by omega)]
      exact q8 r p (by omega) hp
theorem l5_ok (h : RSt tx n S0 5 tok hd v1 v2 v3 sc rc msn mac man mih mrn mcc mrs mef) (hs : kMS tx n tok = 1) (hf2 : kLst mrn rc (kMT tx n tok) = -1) (h30 : rc < 30) (hh : hd ≤ rc) : RSt tx n S0 6 (nxT tx n tok) hd v1 v2 v3 sc (rc + 1) msn mac man mih (zU mrn rc (kMT tx n tok)) (zU mcc rc 0) mrs (zFill mef (24 * rc) (24 * rc + 24) (-1)) := by
  obtain ⟨ri, tp, ts, be, xst, tc, xop, wc, sn, ac, ic, an, ih, rn, rs, cc, cs, wt, hc, hbe, htok, ht, w1, w2, w3⟩ := h
  obtain ⟨t1, t3, t0, tw, tsg, tn, td⟩ := tk_all tx n tok
  have ht0 := ht
  obtain ⟨⟨b1, b2⟩, q1, q2, q3, q4, q5, q6, q6d, q7, q8⟩ := ht
  have hf : kFnd rn rc (kCv tx n tok 0) 0 = kLst mrn rc (kMT tx n tok) := fnd_lst b2.1 (fun j hj => (q6 j hj).1) q6d (tn hs)
  have hno : ∀ j : Int, 0 ≤ j → j < rc → ¬ mrn j = kMT tx n tok := fun j y1 y2 => by
    rcases kLst_rng mrn (kMT tx n tok) b2.1 with z | z
    · exact z.2 j y1 y2
    · omega
  exact rs_a (st2 := 6) (rk := fun _ => 0) (ec := fun _ => 0) (ce := fun _ => 0) (hgs := fun _ => 0) hc (Or.inr (Or.inl ⟨by omega, ⟨rfl, rfl, rfl, rfl, rfl, rfl, rfl, rfl, rfl⟩, (Or.inl (⟨by omega, ⟨rfl, rfl⟩, Or.inr ⟨rfl, by omega, by omega, by omega, rfl, rfl, rfl, rfl, rfl, rfl, rfl, rfl⟩⟩))⟩)) hbe htok (by omega) (by decide) (trl_rulN ht0 (tn hs) hno h30 hh) (fun z => absurd z (by decide)) (fun z => absurd z (by decide)) (fun z => absurd z (by decide))
theorem l6_ok (h : RSt tx n S0 6 tok hd v1 v2 v3 sc rc msn mac man mih mrn mcc mrs mef) (hs : (kMS tx n tok = 4 ∧ kMT tx n tok = 61)) : RSt tx n S0 7 (nxT tx n tok) hd v1 v2 v3 sc rc msn mac man mih mrn mcc mrs mef := by
  obtain ⟨ri, tp, ts, be, xst, tc, xop, wc, sn, ac, ic, an, ih, rn, rs, cc, cs, wt, hc, hbe, htok, ht, w1, w2, w3⟩ := h
  obtain ⟨t1, t3, t0, tw, tsg, tn, td⟩ := tk_all tx n tok
  have k61 := tsg 61 (by decide)
  exact rs_a (st2 := 7) (rk := fun _ => 0) (ec := fun _ => 0) (ce := fun _ => 0) (hgs := fun _ => 0) hc (Or.inr (Or.inl ⟨by omega, ⟨rfl, rfl, rfl, rfl, rfl, rfl, rfl, rfl, rfl⟩, (Or.inr (Or.inl (⟨by omega, ⟨rfl, rfl, rfl, rfl, rfl, rfl, rfl, rfl, rfl⟩, Or.inl ⟨rfl, by omega, rfl⟩⟩)))⟩)) hbe htok (by omega) (by decide) ht (fun z => absurd z (by decide)) (fun z => absurd z (by decide)) (fun z => absurd z (by decide))
theorem l6_bad (h : RSt tx n S0 6 tok hd v1 v2 v3 sc rc msn mac man mih mrn mcc mrs mef) (hs : ¬ (kMS tx n tok = 4 ∧ kMT tx n tok = 61)) : RF tx n S0 1 tok := by
  obtain ⟨ri, tp, ts, be, xst, tc, xop, wc, sn, ac, ic, an, ih, rn, rs, cc, cs, wt, hc, hbe, htok, ht, w1, w2, w3⟩ := h
  obtain ⟨t1, t3, t0, tw, tsg, tn, td⟩ := tk_all tx n tok
  have k61 := tsg 61 (by decide)
  exact rf_a (r := 1) (rk := fun _ => 0) (ec := fun _ => 0) (ce := fun _ => 0) (hgs := fun _ => 0) hc (Or.inr (Or.inl ⟨by omega, ⟨rfl, rfl, rfl, rfl, rfl, rfl, rfl, rfl, rfl⟩, (Or.inr (Or.inl (⟨by omega, ⟨rfl, rfl, rfl, rfl, rfl, rfl, rfl, rfl, rfl⟩, Or.inr ⟨rfl, by omega, rfl⟩⟩)))⟩)) htok (by omega) (by decide)
theorem l7_bad (h : RSt tx n S0 7 tok hd v1 v2 v3 sc rc msn mac man mih mrn mcc mrs mef) (hs : ¬ kMS tx n tok = 1) : RF tx n S0 1 tok := by
  obtain ⟨ri, tp, ts, be, xst, tc, xop, wc, sn, ac, ic, an, ih, rn, rs, cc, cs, wt, hc, hbe, htok, ht, w1, w2, w3⟩ := h
  obtain ⟨t1, t3, t0, tw, tsg, tn, td⟩ := tk_all tx n tok
  exact rf_a (r := 1) (rk := fun _ => 0) (ec := fun _ => 0) (ce := fun _ => 0) (hgs := fun _ => 0) hc (Or.inr (Or.inl ⟨by omega, ⟨rfl, rfl, rfl, rfl, rfl, rfl, rfl, rfl, rfl⟩, (Or.inr (Or.inr (Or.inl (⟨by omega, ⟨rfl, rfl, rfl, rfl, rfl, rfl, rfl, rfl⟩, Or.inl ⟨Or.inl ⟨rfl, by omega⟩, rfl, rfl⟩⟩))))⟩)) htok (by omega) (by decide)
theorem l7_bad3 (h : RSt tx n S0 7 tok hd v1 v2 v3 sc rc msn mac man mih mrn mcc mrs mef) (hs : kMS tx n tok = 1) (hf2 : kLst msn sc (kMT tx n tok) = -1) : RF tx n S0 3 tok := by
  obtain ⟨ri, tp, ts, be, xst, tc, xop, wc, sn, ac, ic, an, ih, rn, rs, cc, cs, wt, hc, hbe, htok, ht, w1, w2, w3⟩ := h
  obtain ⟨t1, t3, t0, tw, tsg, tn, td⟩ := tk_all tx n tok
  obtain ⟨⟨b1, b2⟩, q1, q2, q3, q4, q5, q6, q6d, q7, q8⟩ := ht
  have hf : kFnd sn sc (kCv tx n tok 0) 0 = kLst msn sc (kMT tx n tok) := fnd_lst b1.1 (fun j hj => (q1 j hj).1) q2 (tn hs)
  exact rf_a (r := 3) (rk := fun _ => 0) (ec := fun _ => 0) (ce := fun _ => 0) (hgs := fun _ => 0) hc (Or.inr (Or.inl ⟨by omega, ⟨rfl, rfl, rfl, rfl, rfl, rfl, rfl, rfl, rfl⟩, (Or.inr (Or.inr (Or.inl (⟨by omega, ⟨rfl, rfl, rfl, rfl, rfl, rfl, rfl, rfl⟩, Or.inl ⟨Or.inr ⟨rfl, by omega, by omega⟩, rfl, rfl⟩⟩))))⟩)) htok (by omega) (by decide)
theorem trl_rs0 {v v' : Int} (ht : TRL hd sc rc sn ac ic an ih rn rs cc cs msn mac man mih mrn mcc mrs mef) (hv : v = v' ∧ 0 ≤ v ∧ v < sc) (hh : rc - 1 ≤ hd) : TRL rc sc rc sn ac ic an ih rn (zU rs (4 * (rc - 1)) v) cc cs msn mac man mih mrn mcc (zU mrs (4 * (rc - 1)) v') mef := by
  obtain ⟨⟨b1, b2⟩, q1, q2, q3, q4, q5, q6, q6d, q7, q8⟩ := ht
  refine ⟨⟨b1, b2⟩, q1, q2, q3, q4, q5, q6, q6d, ?_, q8⟩
  intro r k hr hk _
  have y := q6 r hr
  by_cases z : 4 * r + k = 4 * (rc - 1)
  · rw [z, zU_s, zU_s]
    exact ⟨hv.1, by omega, by omega⟩
  · rw [zU_n z, zU_n z]
    exact q7 r k hr hk (fun x => by omega)
theorem l7_ok (h : RSt tx n S0 7 tok hd v1 v2 v3 sc rc msn mac man mih mrn mcc mrs mef) (hs : kMS tx n tok = 1) (hrc : 1 ≤ rc) (hf2 : 0 ≤ kLst msn sc (kMT tx n tok)) (hh : rc - 1 ≤ hd) : RSt tx n S0 8 (nxT tx n tok) rc v1 v2 v3 sc rc msn mac man mih mrn mcc (zU mrs (4 * (rc - 1)) (kLst msn sc (kMT tx n tok))) mef := by
  obtain ⟨ri, tp, ts, be, xst, tc, xop, wc, sn, ac, ic, an, ih, rn, rs, cc, cs, wt, hc, hbe, htok, ht, w1, w2, w3⟩ := h
  obtain ⟨t1, t3, t0, tw, tsg, tn, td⟩ := tk_all tx n tok
  have ht0 := ht
  obtain ⟨⟨b1, b2⟩, q1, q2, q3, q4, q5, q6, q6d, q7, q8⟩ := ht
  have hf : kFnd sn sc (kCv tx n tok 0) 0 = kLst msn sc (kMT tx n tok) := fnd_lst b1.1 (fun j hj => (q1 j hj).1) q2 (tn hs)
  have hlt : kLst msn sc (kMT tx n tok) < sc := by
    rcases kLst_rng msn (kMT tx n tok) b1.1 with z | z <;> omega
  exact rs_a (st2 := 8) (rk := fun _ => 0) (ec := fun _ => 0) (ce := fun _ => 0) (hgs := fun _ => 0) hc (Or.inr (Or.inl ⟨by omega, ⟨rfl, rfl, rfl, rfl, rfl, rfl, rfl, rfl, rfl⟩, (Or.inr (Or.inr (Or.inl (⟨by omega, ⟨rfl, rfl, rfl, rfl, rfl, rfl, rfl, rfl⟩, Or.inr ⟨rfl, by omega, by omega, rfl, rfl⟩⟩))))⟩)) hbe htok (by omega) (by decide) (trl_rs0 ht0 (by omega) hh) (fun z => absurd z (by decide)) (fun z => absurd z (by decide)) (fun z => absurd z (by decide))
theorem l8_colon (h : RSt tx n S0 8 tok hd v1 v2 v3 sc rc msn mac man mih mrn mcc mrs mef) (hs : (kMS tx n tok = 4 ∧ kMT tx n tok = 58)) : RSt tx n S0 9 (nxT tx n tok) hd v1 v2 v3 sc rc msn mac man mih mrn mcc mrs mef := by
  obtain ⟨ri, tp, ts, be, xst, tc, xop, wc, sn, ac, ic, an, ih, rn, rs, cc, cs, wt, hc, hbe, htok, ht, w1, w2, w3⟩ := h
  obtain ⟨t1, t3, t0, tw, tsg, tn, td⟩ := tk_all tx n tok
  have k58 := tsg 58 (by decide)
  exact rs_a (st2 := 9) (rk := fun _ => 0) (ec := fun _ => 0) (ce := fun _ => 0) (hgs := fun _ => 0) hc (Or.inr (Or.inl ⟨by omega, ⟨rfl, rfl, rfl, rfl, rfl, rfl, rfl, rfl, rfl⟩, (Or.inr (Or.inr (Or.inr (Or.inl (⟨by omega, ⟨rfl, rfl, rfl, rfl, rfl, rfl, rfl⟩, Or.inl ⟨rfl, by omega, rfl, rfl, rfl⟩⟩)))))⟩)) hbe htok (by omega) (by decide) ht (fun z => absurd z (by decide)) (fun z => absurd z (by decide)) (fun z => absurd z (by decide))
theorem l8_bad (h : RSt tx n S0 8 tok hd v1 v2 v3 sc rc msn mac man mih mrn mcc mrs mef) (hs : ¬ kMS tx n tok = 1) (hs2 : ¬ (kMS tx n tok = 4 ∧ kMT tx n tok = 58)) : RF tx n S0 1 tok := by
  obtain ⟨ri, tp, ts, be, xst, tc, xop, wc, sn, ac, ic, an, ih, rn, rs, cc, cs, wt, hc, hbe, htok, ht, w1, w2, w3⟩ := h
  obtain ⟨t1, t3, t0, tw, tsg, tn, td⟩ := tk_all tx n tok
  have k58 := tsg 58 (by decide)
  exact rf_a (r := 1) (rk := fun _ => 0) (ec := fun _ => 0) (ce := fun _ => 0) (hgs := fun _ => 0) hc (Or.inr (Or.inl ⟨by omega, ⟨rfl, rfl, rfl, rfl, rfl, rfl, rfl, rfl, rfl⟩, (Or.inr (Or.inr (Or.inr (Or.inl (⟨by omega, ⟨rfl, rfl, rfl, rfl, rfl, rfl, rfl⟩, Or.inr (Or.inl ⟨Or.inl ⟨rfl, by omega, by omega⟩, rfl, rfl, rfl⟩)⟩)))))⟩)) htok (by omega) (by decide)
theorem l8_bad3 (h : RSt tx n S0 8 tok hd v1 v2 v3 sc rc msn mac man mih mrn mcc mrs mef) (hs : kMS tx n tok = 1) (hf2 : kLst msn sc (kMT tx n tok) = -1) : RF tx n S0 3 tok := by
  obtain ⟨ri, tp, ts, be, xst, tc, xop, wc, sn, ac, ic, an, ih, rn, rs, cc, cs, wt, hc, hbe, htok, ht, w1, w2, w3⟩ := h
  obtain ⟨t1, t3, t0, tw, tsg, tn, td⟩ := tk_all tx n tok
  obtain ⟨⟨b1, b2⟩, q1, q2, q3, q4, q5, q6, q6d, q7, q8⟩ := ht
  have hf : kFnd sn sc (kCv tx n tok 0) 0 = kLst msn sc (kMT tx n tok) := fnd_lst b1.1 (fun j hj => (q1 j hj).1) q2 (tn hs)
  exact rf_a (r := 3) (rk := fun _ => 0) (ec := fun _ => 0) (ce := fun _ => 0) (hgs := fun _ => 0) hc (Or.inr (Or.inl ⟨by omega, ⟨rfl, rfl, rfl, rfl, rfl, rfl, rfl, rfl, rfl⟩, (Or.inr (Or.inr (Or.inr (Or.inl (⟨by omega, ⟨rfl, rfl, rfl, rfl, rfl, rfl, rfl⟩, Or.inr (Or.inl ⟨Or.inr (Or.inl ⟨rfl, by omega, by omega⟩), rfl, rfl, rfl⟩)⟩)))))⟩)) htok (by omega) (by decide)
theorem l8_bad4 (h : RSt tx n S0 8 tok hd v1 v2 v3 sc rc msn mac man mih mrn mcc mrs mef) (hs : kMS tx n tok = 1) (hrc : 1 ≤ rc) (hf2 : 0 ≤ kLst msn sc (kMT tx n tok)) (h3 : mcc (rc - 1) = 3) : RF tx n S0 4 tok := by
  obtain ⟨ri, tp, ts, be, xst, tc, xop, wc, sn, ac, ic, an, ih, rn, rs, cc, cs, wt, hc, hbe, htok, ht, w1, w2, w3⟩ := h
  obtain ⟨t1, t3, t0, tw, tsg, tn, td⟩ := tk_all tx n tok
  obtain ⟨⟨b1, b2⟩, q1, q2, q3, q4, q5, q6, q6d, q7, q8⟩ := ht
  have hf : kFnd sn sc (kCv tx n tok 0) 0 = kLst msn sc (kMT tx n tok) := fnd_lst b1.1 (fun j hj => (q1 j hj).1) q2 (tn hs)
  have g := q6 (rc - 1) (by omega)
  exact rf_a (r := 4) (rk := fun _ => 0) (ec := fun _ => 0) (ce := fun _ => 0) (hgs := fun _ => 0) hc (Or.inr (Or.inl ⟨by omega, ⟨rfl, rfl, rfl, rfl, rfl, rfl, rfl, rfl, rfl⟩, (Or.inr (Or.inr (Or.inr (Or.inl (⟨by omega, ⟨rfl, rfl, rfl, rfl, rfl, rfl, rfl⟩, Or.inr (Or.inl ⟨Or.inr (Or.inr ⟨rfl, by omega, by omega, by omega⟩), rfl, rfl, rfl⟩)⟩)))))⟩)) htok (by omega) (by decide)
theorem trl_rsc {v v' : Int} (ht : TRL hd sc rc sn ac ic an ih rn rs cc cs msn mac man mih mrn mcc mrs mef) (hv : v = v' ∧ 0 ≤ v ∧ v < sc) (h3 : mcc (rc - 1) < 3) (hrc : 1 ≤ rc) : TRL hd sc rc sn ac ic an ih rn (zU rs (4 * (rc - 1) + (cc (rc - 1) + 1)) v) (zU cc (rc - 1) (cc (rc - 1) + 1)) cs msn mac man mih mrn (zU mcc (rc - 1) (mcc (rc - 1) + 1)) (zU mrs (4 * (rc - 1) + (mcc (rc - 1) + 1)) v') mef := by
  obtain ⟨⟨b1, b2⟩, q1, q2, q3, q4, q5, q6, q6d, q7, q8⟩ := ht
  have g := q6 (rc - 1) (by omega)
  rw [g.2.1]
  refine ⟨⟨b1, b2⟩, q1, q2, q3, q4, q5, ?_, q6d, ?_, q8⟩
  · intro r hr
    have y := q6 r hr
    by_cases z : r = rc - 1
    · rw [z, zU_s, zU_s]
      exact ⟨g.1, rfl, by omega, by omega⟩
    · rw [zU_n z, zU_n z]
      exact y
  · intro r k hr hk hh
    have y := q6 r hr
    by_cases z : r = rc - 1
    · subst z
      rw [zU_s] at hk
      by_cases x : k = mcc (rc - 1) + 1
      · subst x
        rw [zU_s, zU_s]
        exact ⟨hv.1, by omega, by omega⟩
      · rw [zU_n (by omega), zU_n (by omega)]
        exact q7 (rc - 1) k hr (by omega) hh
    · rw [zU_n z] at hk
      rw [zU_n (by omega), zU_n (by omega)]
      exact q7 r k hr hk hh
theorem l8_ok (h : RSt tx n S0 8 tok hd v1 v2 v3 sc rc msn mac man mih mrn mcc mrs mef) (hs : kMS tx n tok = 1) (hrc : 1 ≤ rc) (hf2 : 0 ≤ kLst msn sc (kMT tx n tok)) (h3 : mcc (rc - 1) < 3) : RSt tx n S0 8 (nxT tx n tok) hd v1 v2 v3 sc rc msn mac man mih mrn (zU mcc (rc - 1) (mcc (rc - 1) + 1)) (zU mrs (4 * (rc - 1) + (mcc (rc - 1) + 1)) (kLst msn sc (kMT tx n tok))) mef := by
  obtain ⟨ri, tp, ts, be, xst, tc, xop, wc, sn, ac, ic, an, ih, rn, rs, cc, cs, wt, hc, hbe, htok, ht, w1, w2, w3⟩ := h
  obtain ⟨t1, t3, t0, tw, tsg, tn, td⟩ := tk_all tx n tok
  have ht0 := ht
  obtain ⟨⟨b1, b2⟩, q1, q2, q3, q4, q5, q6, q6d, q7, q8⟩ := ht
  have hf : kFnd sn sc (kCv tx n tok 0) 0 = kLst msn sc (kMT tx n tok) := fnd_lst b1.1 (fun j hj => (q1 j hj).1) q2 (tn hs)
  have g := q6 (rc - 1) (by omega)
  have hlt : kLst msn sc (kMT tx n tok) < sc := by
    rcases kLst_rng msn (kMT tx n tok) b1.1 with z | z <;> omega
  exact rs_a (st2 := 8) (rk := fun _ => 0) (ec := fun _ => 0) (ce := fun _ => 0) (hgs := fun _ => 0) hc (Or.inr (Or.inl ⟨by omega, ⟨rfl, rfl, rfl, rfl, rfl, rfl, rfl, rfl, rfl⟩, (Or.inr (Or.inr (Or.inr (Or.inl (⟨by omega, ⟨rfl, rfl, rfl, rfl, rfl, rfl, rfl⟩, Or.inr (Or.inr ⟨rfl, by omega, by omega, by omega, rfl, rfl, rfl⟩)⟩)))))⟩)) hbe htok (by omega) (by decide) (trl_rsc ht0 (by omega) h3 hrc) (fun z => absurd z (by decide)) (fun z => absurd z (by decide)) (fun z => absurd z (by decide))
theorem lack_trl (ht : TRL hd sc rc sn ac ic an ih rn rs cc cs msn mac man mih mrn mcc mrs mef) {r : Int} (hr : 0 ≤ r ∧ r < rc) (hh : r < hd) : kLack rs ac ih cs cc r ↔ kLack mrs mac mih mef mcc r := by
  obtain ⟨⟨b1, b2⟩, q1, q2, q3, q4, q5, q6, q6d, q7, q8⟩ := ht
  have g := q6 r hr
  unfold kLack kLackAt
  constructor
  · rintro ⟨p, a, h1, h2, h3, h4, h5, h6⟩
    have y := q7 r p hr (by omega) (fun _ => hh)
    rw [y.1] at h4 h5
    have y2 := q1 _ y.2
    have y3 := q3 _ a y.2 (by omega)
    have y4 := q8 r (6 * p + a) hr (by omega)
    rw [show 24 * r + 6 * p + a = 24 * r + (6 * p + a) by omega] at h6
    rw [y3.2.1] at h5
    exact ⟨p, a, h1, by omega, h3, by omega, h5, by rw [show 24 * r + 6 * p + a = 24 * r + (6 * p + a) by omega]; exact y4.1.mp h6⟩
  · rintro ⟨p, a, h1, h2, h3, h4, h5, h6⟩
    have y := q7 r p hr (by omega) (fun _ => hh)
    have y2 := q1 _ y.2
    have y3 := q3 _ a y.2 (by omega)
    have y4 := q8 r (6 * p + a) hr (by omega)
    refine ⟨p, a, h1, by omega, h3, ?_, ?_, ?_⟩
    · rw [y.1]
      omega
    · rw [y.1, y3.2.1]
      exact h5
    · rw [show 24 * r + 6 * p + a = 24 * r + (6 * p + a) by omega] at h6 ⊢
      exact y4.1.mpr h6
theorem l9_bad8 (h : RSt tx n S0 9 tok hd v1 v2 v3 sc rc msn mac man mih mrn mcc mrs mef) (hs : (kMS tx n tok = 2 ∧ kMT tx n tok = 4)) (hrc : 1 ≤ rc) (hh : hd = rc) (hl : kLack mrs mac mih mef mcc (rc - 1)) : RF tx n S0 8 tok := by
  obtain ⟨ri, tp, ts, be, xst, tc, xop, wc, sn, ac, ic, an, ih, rn, rs, cc, cs, wt, hc, hbe, htok, ht, w1, w2, w3⟩ := h
  obtain ⟨t1, t3, t0, tw, tsg, tn, td⟩ := tk_all tx n tok
  have k4 := tw 4 (by decide)
  have b2 := ht.1.2
  have lk := lack_trl ht (r := rc - 1) (by omega) (by omega)
  exact rf_a (r := 8) (rk := fun _ => 0) (ec := fun _ => 0) (ce := fun _ => 0) (hgs := fun _ => 0) hc (Or.inr (Or.inl ⟨by omega, ⟨rfl, rfl, rfl, rfl, rfl, rfl, rfl, rfl, rfl⟩, (Or.inr (Or.inr (Or.inr (Or.inr (Or.inl (⟨by omega, ⟨rfl, rfl, rfl, rfl, rfl, rfl, rfl, rfl⟩, Or.inl ⟨rfl, by omega, lk.mpr hl, rfl, rfl⟩⟩))))))⟩)) htok (by omega) (by decide)
theorem l9_end (h : RSt tx n S0 9 tok hd v1 v2 v3 sc rc msn mac man mih mrn mcc mrs mef) (hs : (kMS tx n tok = 2 ∧ kMT tx n tok = 4)) (hrc : 1 ≤ rc) (hh : hd = rc) (hl : ¬ kLack mrs mac mih mef mcc (rc - 1)) : RSt tx n S0 10 (nxT tx n tok) hd v1 v2 v3 sc rc msn mac man mih mrn mcc mrs mef := by
  obtain ⟨ri, tp, ts, be, xst, tc, xop, wc, sn, ac, ic, an, ih, rn, rs, cc, cs, wt, hc, hbe, htok, ht, w1, w2, w3⟩ := h
  obtain ⟨t1, t3, t0, tw, tsg, tn, td⟩ := tk_all tx n tok
  have k4 := tw 4 (by decide)
  have b2 := ht.1.2
  have lk := lack_trl ht (r := rc - 1) (by omega) (by omega)
  exact rs_a (st2 := 10) (rk := fun _ => 0) (ec := fun _ => 0) (ce := fun _ => 0) (hgs := fun _ => 0) hc (Or.inr (Or.inl ⟨by omega, ⟨rfl, rfl, rfl, rfl, rfl, rfl, rfl, rfl, rfl⟩, (Or.inr (Or.inr (Or.inr (Or.inr (Or.inl (⟨by omega, ⟨rfl, rfl, rfl, rfl, rfl, rfl, rfl, rfl⟩, Or.inr (Or.inl ⟨rfl, by omega, fun z => hl (lk.mp z), rfl, rfl⟩)⟩))))))⟩)) hbe htok (by omega) (by decide) ht (fun z => absurd z (by decide)) (fun z => absurd z (by decide)) (fun z => absurd z (by decide))
theorem l9_bad (h : RSt tx n S0 9 tok hd v1 v2 v3 sc rc msn mac man mih mrn mcc mrs mef) (hs : ¬ (kMS tx n tok = 2 ∧ kMT tx n tok = 4)) (hs2 : ¬ kMS tx n tok = 3) : RF tx n S0 1 tok := by
  obtain ⟨ri, tp, ts, be, xst, tc, xop, wc, sn, ac, ic, an, ih, rn, rs, cc, cs, wt, hc, hbe, htok, ht, w1, w2, w3⟩ := h
  obtain ⟨t1, t3, t0, tw, tsg, tn, td⟩ := tk_all tx n tok
  have k4 := tw 4 (by decide)
  exact rf_a (r := 1) (rk := fun _ => 0) (ec := fun _ => 0) (ce := fun _ => 0) (hgs := fun _ => 0) hc (Or.inr (Or.inl ⟨by omega, ⟨rfl, rfl, rfl, rfl, rfl, rfl, rfl, rfl, rfl⟩, (Or.inr (Or.inr (Or.inr (Or.inr (Or.inl (⟨by omega, ⟨rfl, rfl, rfl, rfl, rfl, rfl, rfl, rfl⟩, Or.inr (Or.inr (Or.inl ⟨rfl, by omega, rfl, rfl⟩))⟩))))))⟩)) htok (by omega) (by decide)
theorem l9_bad3 (h : RSt tx n S0 9 tok hd v1 v2 v3 sc rc msn mac man mih mrn mcc mrs mef) (hs : kMS tx n tok = 3) (hrc : 1 ≤ rc) (hk : mcc (rc - 1) < kMT tx n tok) : RF tx n S0 3 tok := by
  obtain ⟨ri, tp, ts, be, xst, tc, xop, wc, sn, ac, ic, an, ih, rn, rs, cc, cs, wt, hc, hbe, htok, ht, w1, w2, w3⟩ := h
  obtain ⟨t1, t3, t0, tw, tsg, tn, td⟩ := tk_all tx n tok
  have g := ht.2.2.2.2.2.2.1 (rc - 1) (by have z := ht.1.2; omega)
  have g2 := td hs
  exact rf_a (r := 3) (rk := fun _ => 0) (ec := fun _ => 0) (ce := fun _ => 0) (hgs := fun _ => 0) hc (Or.inr (Or.inl ⟨by omega, ⟨rfl, rfl, rfl, rfl, rfl, rfl, rfl, rfl, rfl⟩, (Or.inr (Or.inr (Or.inr (Or.inr (Or.inl (⟨by omega, ⟨rfl, rfl, rfl, rfl, rfl, rfl, rfl, rfl⟩, Or.inr (Or.inr (Or.inr (Or.inl ⟨rfl, by omega, by omega, rfl, rfl⟩)))⟩))))))⟩)) htok (by omega) (by decide)
theorem l9_num (h : RSt tx n S0 9 tok hd v1 v2 v3 sc rc msn mac man mih mrn mcc mrs mef) (hs : kMS tx n tok = 3) (hrc : 1 ≤ rc) (hk : kMT tx n tok ≤ mcc (rc - 1)) : RSt tx n S0 11 (nxT tx n tok) hd v1 (kMT tx n tok) v3 sc rc msn mac man mih mrn mcc mrs mef := by
  obtain ⟨ri, tp, ts, be, xst, tc, xop, wc, sn, ac, ic, an, ih, rn, rs, cc, cs, wt, hc, hbe, htok, ht, w1, w2, w3⟩ := h
  obtain ⟨t1, t3, t0, tw, tsg, tn, td⟩ := tk_all tx n tok
  have g := ht.2.2.2.2.2.2.1 (rc - 1) (by have z := ht.1.2; omega)
  have g2 := td hs
  exact rs_a (st2 := 11) (rk := fun _ => 0) (ec := fun _ => 0) (ce := fun _ => 0) (hgs := fun _ => 0) hc (Or.inr (Or.inl ⟨by omega, ⟨rfl, rfl, rfl, rfl, rfl, rfl, rfl, rfl, rfl⟩, (Or.inr (Or.inr (Or.inr (Or.inr (Or.inl (⟨by omega, ⟨rfl, rfl, rfl, rfl, rfl, rfl, rfl, rfl⟩, Or.inr (Or.inr (Or.inr (Or.inr ⟨rfl, by omega, by omega, rfl, rfl⟩)))⟩))))))⟩)) hbe htok (by omega) (by decide) ht (fun z => absurd z (by decide)) (fun _ => g2.symm) (fun z => absurd z (by decide))
theorem l10_rule (h : RSt tx n S0 10 tok hd v1 v2 v3 sc rc msn mac man mih mrn mcc mrs mef) (hs : (kMS tx n tok = 2 ∧ kMT tx n tok = 3)) : RSt tx n S0 5 (nxT tx n tok) hd v1 v2 v3 sc rc msn mac man mih mrn mcc mrs mef := by
  obtain ⟨ri, tp, ts, be, xst, tc, xop, wc, sn, ac, ic, an, ih, rn, rs, cc, cs, wt, hc, hbe, htok, ht, w1, w2, w3⟩ := h
  obtain ⟨t1, t3, t0, tw, tsg, tn, td⟩ := tk_all tx n tok
  have k3 := tw 3 (by decide)
  exact rs_a (st2 := 5) (rk := fun _ => 0) (ec := fun _ => 0) (ce := fun _ => 0) (hgs := fun _ => 0) hc (Or.inr (Or.inl ⟨by omega, ⟨rfl, rfl, rfl, rfl, rfl, rfl, rfl, rfl, rfl⟩, (Or.inr (Or.inr (Or.inr (Or.inr (Or.inr ((⟨by omega, ⟨rfl, rfl, rfl, rfl, rfl, rfl, rfl, rfl, rfl⟩, Or.inl ⟨rfl, by omega, rfl⟩⟩)))))))⟩)) hbe htok (by omega) (by decide) ht (fun z => absurd z (by decide)) (fun z => absurd z (by decide)) (fun z => absurd z (by decide))
theorem l10_bad (h : RSt tx n S0 10 tok hd v1 v2 v3 sc rc msn mac man mih mrn mcc mrs mef) (hs : ¬ (kMS tx n tok = 2 ∧ kMT tx n tok = 3)) (hs2 : ¬ kMS tx n tok = 0) : RF tx n S0 1 tok := by
  obtain ⟨ri, tp, ts, be, xst, tc, xop, wc, sn, ac, ic, an, ih, rn, rs, cc, cs, wt, hc, hbe, htok, ht, w1, w2, w3⟩ := h
  obtain ⟨t1, t3, t0, tw, tsg, tn, td⟩ := tk_all tx n tok
  have k3 := tw 3 (by decide)
  exact rf_a (r := 1) (rk := fun _ => 0) (ec := fun _ => 0) (ce := fun _ => 0) (hgs := fun _ => 0) hc (Or.inr (Or.inl ⟨by omega, ⟨rfl, rfl, rfl, rfl, rfl, rfl, rfl, rfl, rfl⟩, (Or.inr (Or.inr (Or.inr (Or.inr (Or.inr ((⟨by omega, ⟨rfl, rfl, rfl, rfl, rfl, rfl, rfl, rfl, rfl⟩, Or.inr (Or.inl ⟨rfl, by omega, rfl⟩)⟩)))))))⟩)) htok (by omega) (by decide)
theorem l10_bad9 (h : RSt tx n S0 10 tok hd v1 v2 v3 sc rc msn mac man mih mrn mcc mrs mef) (hs : kMS tx n tok = 0) (hsc : 1 ≤ sc) (ha : ∃ a : Int, (0 ≤ a ∧ a < mac 0) ∧ mih a = 1) : RF tx n S0 9 tok := by
  obtain ⟨ri, tp, ts, be, xst, tc, xop, wc, sn, ac, ic, an, ih, rn, rs, cc, cs, wt, hc, hbe, htok, ht, w1, w2, w3⟩ := h
  obtain ⟨t1, t3, t0, tw, tsg, tn, td⟩ := tk_all tx n tok
  have i0 := ht.2.2.2.2.2.1 0 (by omega)
  simp only [Int.mul_zero, Int.zero_add] at i0
  have i1 := i0.2.mpr ha
  exact rf_a (r := 9) (rk := fun _ => 0) (ec := fun _ => 0) (ce := fun _ => 0) (hgs := fun _ => 0) hc (Or.inr (Or.inl ⟨by omega, ⟨rfl, rfl, rfl, rfl, rfl, rfl, rfl, rfl, rfl⟩, (Or.inr (Or.inr (Or.inr (Or.inr (Or.inr ((⟨by omega, ⟨rfl, rfl, rfl, rfl, rfl, rfl, rfl, rfl, rfl⟩, Or.inr (Or.inr (Or.inl ⟨rfl, by omega, by omega, rfl⟩))⟩)))))))⟩)) htok (by omega) (by decide)
/-- the reading's good end -/
def RFin (tx : Int → Int) (n : Int) (S0 : Nat → Int → Int) (hd sc rc : Int) (msn mac man mih mrn mcc mrs mef : Int → Int) : Prop := ∃ (ri tp ts be xst tc xop wc : Int) (sn ac ic an ih rn rs cc cs wt : Int → Int), (∀ p : Int, RES tx n S0 0 p (mkS 15 ri tp ts be sc rc xst tc xop wc sn ac ic an ih rn rs cc cs wt)) ∧ TRL hd sc rc sn ac ic an ih rn rs cc cs msn mac man mih mrn mcc mrs mef
theorem l10_end (h : RSt tx n S0 10 tok hd v1 v2 v3 sc rc msn mac man mih mrn mcc mrs mef) (hs : kMS tx n tok = 0) (hsc : 1 ≤ sc) (ha : ¬ ∃ a : Int, (0 ≤ a ∧ a < mac 0) ∧ mih a = 1) : RFin tx n S0 hd sc rc msn mac man mih mrn mcc mrs mef := by
  obtain ⟨ri, tp, ts, be, xst, tc, xop, wc, sn, ac, ic, an, ih, rn, rs, cc, cs, wt, hc, hbe, htok, ht, w1, w2, w3⟩ := h
  obtain ⟨t1, t3, t0, tw, tsg, tn, td⟩ := tk_all tx n tok
  have i0 := ht.2.2.2.2.2.1 0 (by omega)
  simp only [Int.mul_zero, Int.zero_add] at i0
  have i1 : ic 0 ≤ 0 := by
    rcases Int.lt_or_le 0 (ic 0) with z | z
    · exact absurd (i0.2.mp z) ha
    · exact z
  exact ⟨ri, tp, ts, kBA tx n tok, xst, tc, xop, wc, sn, ac, ic, an, ih, rn, rs, cc, cs, wt, fun p => hc _ _ _ (res_end (stp_a (rk := fun _ => 0) (ec := fun _ => 0) (ce := fun _ => 0) (hgs := fun _ => 0) (Or.inr (Or.inl ⟨by omega, ⟨rfl, rfl, rfl, rfl, rfl, rfl, rfl, rfl, rfl⟩, (Or.inr (Or.inr (Or.inr (Or.inr (Or.inr ((⟨by omega, ⟨rfl, rfl, rfl, rfl, rfl, rfl, rfl, rfl, rfl⟩, Or.inr (Or.inr (Or.inr ⟨rfl, by omega, i1, rfl⟩))⟩)))))))⟩)) htok (by decide)) rfl p), ht⟩
theorem l11_ok (h : RSt tx n S0 11 tok hd v1 v2 v3 sc rc msn mac man mih mrn mcc mrs mef) (hs : (kMS tx n tok = 4 ∧ kMT tx n tok = 46)) : RSt tx n S0 12 (nxT tx n tok) hd v1 v2 v3 sc rc msn mac man mih mrn mcc mrs mef := by
  obtain ⟨ri, tp, ts, be, xst, tc, xop, wc, sn, ac, ic, an, ih, rn, rs, cc, cs, wt, hc, hbe, htok, ht, w1, w2, w3⟩ := h
  obtain ⟨t1, t3, t0, tw, tsg, tn, td⟩ := tk_all tx n tok
  have k46 := tsg 46 (by decide)
  exact rs_a (st2 := 12) (rk := fun _ => 0) (ec := fun _ => 0) (ce := fun _ => 0) (hgs := fun _ => 0) hc (Or.inr (Or.inr (Or.inl ⟨by omega, ⟨rfl, rfl, rfl, rfl, rfl, rfl, rfl, rfl, rfl, rfl, rfl, rfl, rfl, rfl, rfl, rfl, rfl, rfl⟩, Or.inl ⟨rfl, by omega, rfl⟩⟩))) hbe htok (by omega) (by decide) ht (fun z => absurd z (by decide)) (fun _ => w2 (Or.inl rfl)) (fun z => absurd z (by decide))
theorem l11_bad (h : RSt tx n S0 11 tok hd v1 v2 v3 sc rc msn mac man mih mrn mcc mrs mef) (hs : ¬ (kMS tx n tok = 4 ∧ kMT tx n tok = 46)) : RF tx n S0 1 tok := by
  obtain ⟨ri, tp, ts, be, xst, tc, xop, wc, sn, ac, ic, an, ih, rn, rs, cc, cs, wt, hc, hbe, htok, ht, w1, w2, w3⟩ := h
  obtain ⟨t1, t3, t0, tw, tsg, tn, td⟩ := tk_all tx n tok
  have k46 := tsg 46 (by decide)
  exact rf_a (r := 1) (rk := fun _ => 0) (ec := fun _ => 0) (ce := fun _ => 0) (hgs := fun _ => 0) hc (Or.inr (Or.inr (Or.inl ⟨by omega, ⟨rfl, rfl, rfl, rfl, rfl, rfl, rfl, rfl, rfl, rfl, rfl, rfl, rfl, rfl, rfl, rfl, rfl, rfl⟩, Or.inr ⟨rfl, by omega, rfl⟩⟩))) htok (by omega) (by decide)
theorem l12_bad (h : RSt tx n S0 12 tok hd v1 v2 v3 sc rc msn mac man mih mrn mcc mrs mef) (hs : ¬ kMS tx n tok = 1) : RF tx n S0 1 tok := by
  obtain ⟨ri, tp, ts, be, xst, tc, xop, wc, sn, ac, ic, an, ih, rn, rs, cc, cs, wt, hc, hbe, htok, ht, w1, w2, w3⟩ := h
  obtain ⟨t1, t3, t0, tw, tsg, tn, td⟩ := tk_all tx n tok
  exact rf_a (r := 1) (rk := fun _ => 0) (ec := fun _ => 0) (ce := fun _ => 0) (hgs := fun _ => 0) hc (Or.inr (Or.inr (Or.inr ⟨by omega, ⟨rfl, rfl, rfl, rfl, rfl, rfl, rfl, rfl, rfl, rfl, rfl, rfl, rfl, rfl, rfl, rfl, rfl⟩, Or.inl ⟨Or.inl ⟨rfl, by omega⟩, rfl, rfl⟩⟩))) htok (by omega) (by decide)
theorem l12_bad3 (h : RSt tx n S0 12 tok hd v1 v2 v3 sc rc msn mac man mih mrn mcc mrs mef) (hs : kMS tx n tok = 1) (hrc : 1 ≤ rc) (hh : hd = rc) (hk : 0 ≤ v2 ∧ v2 ≤ mcc (rc - 1)) (hf2 : kLst (fun j => man (6 * (mrs (4 * (rc - 1) + v2)) + j)) (mac (mrs (4 * (rc - 1) + v2))) (kMT tx n tok) = -1) : RF tx n S0 3 tok := by
  obtain ⟨ri, tp, ts, be, xst, tc, xop, wc, sn, ac, ic, an, ih, rn, rs, cc, cs, wt, hc, hbe, htok, ht, w1, w2, w3⟩ := h
  obtain ⟨t1, t3, t0, tw, tsg, tn, td⟩ := tk_all tx n tok
  obtain ⟨⟨b1, b2⟩, q1, q2, q3, q4, q5, q6, q6d, q7, q8⟩ := ht
  obtain rfl := w2 (Or.inr rfl)
  have g := q7 (rc - 1) tp (by omega) hk (by omega)
  have a9 := q1 _ g.2
  have hf : kAttS ac an (rs (4 * (rc - 1) + tp)) (kCv tx n tok 0) = kLst (fun j => man (6 * (mrs (4 * (rc - 1) + tp)) + j)) (mac (mrs (4 * (rc - 1) + tp))) (kMT tx n tok) := by
    rw [g.1]
    unfold kAttS
    rw [a9.2.1]
    exact fnd_lst a9.2.2.1 (fun j hj => (q3 _ j g.2 hj).1) (fun j k hj hk e => q4 _ j k g.2 hj hk e) (tn hs)
  exact rf_a (r := 3) (rk := fun _ => 0) (ec := fun _ => 0) (ce := fun _ => 0) (hgs := fun _ => 0) hc (Or.inr (Or.inr (Or.inr ⟨by omega, ⟨rfl, rfl, rfl, rfl, rfl, rfl, rfl, rfl, rfl, rfl, rfl, rfl, rfl, rfl, rfl, rfl, rfl⟩, Or.inl ⟨Or.inr (Or.inl ⟨rfl, by omega, by omega⟩), rfl, rfl⟩⟩))) htok (by omega) (by decide)
theorem l12_bad6 (h : RSt tx n S0 12 tok hd v1 v2 v3 sc rc msn mac man mih mrn mcc mrs mef) (hs : kMS tx n tok = 1) (hrc : 1 ≤ rc) (hh : hd = rc) (hk : 0 ≤ v2 ∧ v2 ≤ mcc (rc - 1)) (hf2 : 0 ≤ kLst (fun j => man (6 * (mrs (4 * (rc - 1) + v2)) + j)) (mac (mrs (4 * (rc - 1) + v2))) (kMT tx n tok)) (hm : ¬ (mih (6 * (mrs (4 * (rc - 1) + v2)) + kLst (fun j => man (6 * (mrs (4 * (rc - 1) + v2)) + j)) (mac (mrs (4 * (rc - 1) + v2))) (kMT tx n tok)) = 1 ↔ 0 < v2)) : RF tx n S0 6 tok := by
  obtain ⟨ri, tp, ts, be, xst, tc, xop, wc, sn, ac, ic, an, ih, rn, rs, cc, cs, wt, hc, hbe, htok, ht, w1, w2, w3⟩ := h
  obtain ⟨t1, t3, t0, tw, tsg, tn, td⟩ := tk_all tx n tok
  obtain ⟨⟨b1, b2⟩, q1, q2, q3, q4, q5, q6, q6d, q7, q8⟩ := ht
  obtain rfl := w2 (Or.inr rfl)
  have g := q7 (rc - 1) tp (by omega) hk (by omega)
  have a9 := q1 _ g.2
  have hf : kAttS ac an (rs (4 * (rc - 1) + tp)) (kCv tx n tok 0) = kLst (fun j => man (6 * (mrs (4 * (rc - 1) + tp)) + j)) (mac (mrs (4 * (rc - 1) + tp))) (kMT tx n tok) := by
    rw [g.1]
    unfold kAttS
    rw [a9.2.1]
    exact fnd_lst a9.2.2.1 (fun j hj => (q3 _ j g.2 hj).1) (fun j k hj hk e => q4 _ j k g.2 hj hk e) (tn hs)
  have hlt : kLst (fun j => man (6 * (mrs (4 * (rc - 1) + tp)) + j)) (mac (mrs (4 * (rc - 1) + tp))) (kMT tx n tok) < mac (mrs (4 * (rc - 1) + tp)) := by
    rcases kLst_rng (fun j => man (6 * (mrs (4 * (rc - 1) + tp)) + j)) (kMT tx n tok) a9.2.2.1 with z | z <;> omega
  have hih := q3 _ _ g.2 ⟨hf2, hlt⟩
  exact rf_a (r := 6) (rk := fun _ => 0) (ec := fun _ => 0) (ce := fun _ => 0) (hgs := fun _ => 0) hc (Or.inr (Or.inr (Or.inr ⟨by omega, ⟨rfl, rfl, rfl, rfl, rfl, rfl, rfl, rfl, rfl, rfl, rfl, rfl, rfl, rfl, rfl, rfl, rfl⟩, Or.inl ⟨Or.inr (Or.inr ⟨rfl, by omega, by omega, (by rw [hf, g.1, hih.2.1]; exact hm)⟩), rfl, rfl⟩⟩))) htok (by omega) (by decide)
theorem l12_bad7 (h : RSt tx n S0 12 tok hd v1 v2 v3 sc rc msn mac man mih mrn mcc mrs mef) (hs : kMS tx n tok = 1) (hrc : 1 ≤ rc) (hh : hd = rc) (hk : 0 ≤ v2 ∧ v2 ≤ mcc (rc - 1)) (hf2 : 0 ≤ kLst (fun j => man (6 * (mrs (4 * (rc - 1) + v2)) + j)) (mac (mrs (4 * (rc - 1) + v2))) (kMT tx n tok)) (hm : (mih (6 * (mrs (4 * (rc - 1) + v2)) + kLst (fun j => man (6 * (mrs (4 * (rc - 1) + v2)) + j)) (mac (mrs (4 * (rc - 1) + v2))) (kMT tx n tok)) = 1 ↔ 0 < v2)) (he : 0 ≤ mef (24 * (rc - 1) + 6 * v2 + kLst (fun j => man (6 * (mrs (4 * (rc - 1) + v2)) + j)) (mac (mrs (4 * (rc - 1) + v2))) (kMT tx n tok))) : RF tx n S0 7 tok := by
  obtain ⟨ri, tp, ts, be, xst, tc, xop, wc, sn, ac, ic, an, ih, rn, rs, cc, cs, wt, hc, hbe, htok, ht, w1, w2, w3⟩ := h
  obtain ⟨t1, t3, t0, tw, tsg, tn, td⟩ := tk_all tx n tok
  obtain ⟨⟨b1, b2⟩, q1, q2, q3, q4, q5, q6, q6d, q7, q8⟩ := ht
  obtain rfl := w2 (Or.inr rfl)
  have g := q7 (rc - 1) tp (by omega) hk (by omega)
  have a9 := q1 _ g.2
  have hf : kAttS ac an (rs (4 * (rc - 1) + tp)) (kCv tx n tok 0) = kLst (fun j => man (6 * (mrs (4 * (rc - 1) + tp)) + j)) (mac (mrs (4 * (rc - 1) + tp))) (kMT tx n tok) := by
    rw [g.1]
    unfold kAttS
    rw [a9.2.1]
    exact fnd_lst a9.2.2.1 (fun j hj => (q3 _ j g.2 hj).1) (fun j k hj hk e => q4 _ j k g.2 hj hk e) (tn hs)
  have hlt : kLst (fun j => man (6 * (mrs (4 * (rc - 1) + tp)) + j)) (mac (mrs (4 * (rc - 1) + tp))) (kMT tx n tok) < mac (mrs (4 * (rc - 1) + tp)) := by
    rcases kLst_rng (fun j => man (6 * (mrs (4 * (rc - 1) + tp)) + j)) (kMT tx n tok) a9.2.2.1 with z | z <;> omega
  have hih := q3 _ _ g.2 ⟨hf2, hlt⟩
  have hc9 := q8 (rc - 1) (6 * tp + kLst (fun j => man (6 * (mrs (4 * (rc - 1) + tp)) + j)) (mac (mrs (4 * (rc - 1) + tp))) (kMT tx n tok)) (by omega) (by have z := q6 (rc - 1) (by omega); omega)
  rw [show 24 * (rc - 1) + (6 * tp + kLst (fun j => man (6 * (mrs (4 * (rc - 1) + tp)) + j)) (mac (mrs (4 * (rc - 1) + tp))) (kMT tx n tok)) = 24 * (rc - 1) + 6 * tp + kLst (fun j => man (6 * (mrs (4 * (rc - 1) + tp)) + j)) (mac (mrs (4 * (rc - 1) + tp))) (kMT tx n tok) by omega] at hc9
  exact rf_a (r := 7) (rk := fun _ => 0) (ec := fun _ => 0) (ce := fun _ => 0) (hgs := fun _ => 0) hc (Or.inr (Or.inr (Or.inr ⟨by omega, ⟨rfl, rfl, rfl, rfl, rfl, rfl, rfl, rfl, rfl, rfl, rfl, rfl, rfl, rfl, rfl, rfl, rfl⟩, Or.inr ⟨by omega, by omega, (by rw [hf, g.1, hih.2.1]; exact hm), rfl, Or.inl ⟨rfl, by rw [hf]; omega, rfl⟩⟩⟩))) htok (by omega) (by decide)
theorem l12_ok (h : RSt tx n S0 12 tok hd v1 v2 v3 sc rc msn mac man mih mrn mcc mrs mef) (hs : kMS tx n tok = 1) (hrc : 1 ≤ rc) (hh : hd = rc) (hk : 0 ≤ v2 ∧ v2 ≤ mcc (rc - 1)) (hf2 : 0 ≤ kLst (fun j => man (6 * (mrs (4 * (rc - 1) + v2)) + j)) (mac (mrs (4 * (rc - 1) + v2))) (kMT tx n tok)) (hm : (mih (6 * (mrs (4 * (rc - 1) + v2)) + kLst (fun j => man (6 * (mrs (4 * (rc - 1) + v2)) + j)) (mac (mrs (4 * (rc - 1) + v2))) (kMT tx n tok)) = 1 ↔ 0 < v2)) (he : mef (24 * (rc - 1) + 6 * v2 + kLst (fun j => man (6 * (mrs (4 * (rc - 1) + v2)) + j)) (mac (mrs (4 * (rc - 1) + v2))) (kMT tx n tok)) = -1) : RSt tx n S0 13 (nxT tx n tok) hd v1 v2 (24 * (rc - 1) + 6 * v2 + kLst (fun j => man (6 * (mrs (4 * (rc - 1) + v2)) + j)) (mac (mrs (4 * (rc - 1) + v2))) (kMT tx n tok)) sc rc msn mac man mih mrn mcc mrs mef := by
  obtain ⟨ri, tp, ts, be, xst, tc, xop, wc, sn, ac, ic, an, ih, rn, rs, cc, cs, wt, hc, hbe, htok, ht, w1, w2, w3⟩ := h
  obtain ⟨t1, t3, t0, tw, tsg, tn, td⟩ := tk_all tx n tok
  have ht0 := ht
  obtain ⟨⟨b1, b2⟩, q1, q2, q3, q4, q5, q6, q6d, q7, q8⟩ := ht
  obtain rfl := w2 (Or.inr rfl)
  have g := q7 (rc - 1) tp (by omega) hk (by omega)
  have a9 := q1 _ g.2
  have hf : kAttS ac an (rs (4 * (rc - 1) + tp)) (kCv tx n tok 0) = kLst (fun j => man (6 * (mrs (4 * (rc - 1) + tp)) + j)) (mac (mrs (4 * (rc - 1) + tp))) (kMT tx n tok) := by
    rw [g.1]
    unfold kAttS
    rw [a9.2.1]
    exact fnd_lst a9.2.2.1 (fun j hj => (q3 _ j g.2 hj).1) (fun j k hj hk e => q4 _ j k g.2 hj hk e) (tn hs)
  have hlt : kLst (fun j => man (6 * (mrs (4 * (rc - 1) + tp)) + j)) (mac (mrs (4 * (rc - 1) + tp))) (kMT tx n tok) < mac (mrs (4 * (rc - 1) + tp)) := by
    rcases kLst_rng (fun j => man (6 * (mrs (4 * (rc - 1) + tp)) + j)) (kMT tx n tok) a9.2.2.1 with z | z <;> omega
  have hih := q3 _ _ g.2 ⟨hf2, hlt⟩
  have hc9 := q8 (rc - 1) (6 * tp + kLst (fun j => man (6 * (mrs (4 * (rc - 1) + tp)) + j)) (mac (mrs (4 * (rc - 1) + tp))) (kMT tx n tok)) (by omega) (by have z := q6 (rc - 1) (by omega); omega)
  rw [show 24 * (rc - 1) + (6 * tp + kLst (fun j => man (6 * (mrs (4 * (rc - 1) + tp)) + j)) (mac (mrs (4 * (rc - 1) + tp))) (kMT tx n tok)) = 24 * (rc - 1) + 6 * tp + kLst (fun j => man (6 * (mrs (4 * (rc - 1) + tp)) + j)) (mac (mrs (4 * (rc - 1) + tp))) (kMT tx n tok) by omega] at hc9
  exact rs_a (st2 := 13) (rk := fun _ => 0) (ec := fun _ => 0) (ce := fun _ => 0) (hgs := fun _ => 0) hc (Or.inr (Or.inr (Or.inr ⟨by omega, ⟨rfl, rfl, rfl, rfl, rfl, rfl, rfl, rfl, rfl, rfl, rfl, rfl, rfl, rfl, rfl, rfl, rfl⟩, Or.inr ⟨by omega, by omega, (by rw [hf, g.1, hih.2.1]; exact hm), rfl, Or.inr ⟨rfl, by rw [hf]; omega, rfl⟩⟩⟩))) hbe htok (by omega) (by decide) ht0 (fun z => absurd z (by decide)) (fun z => absurd z (by decide)) (fun _ => by rw [hf])
end RL3
