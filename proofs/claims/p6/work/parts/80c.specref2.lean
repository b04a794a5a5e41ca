/-! the reference's reading, TOKEN by TOKEN -/
theorem tk_all (tx : Int → Int) (n a : Int) : (kMS tx n a = 1 ↔ kKA tx n a = 1) ∧ (kMS tx n a = 3 ↔ kKA tx n a = 2) ∧ (kMS tx n a = 0 ↔ kKA tx n a = 0) ∧ (∀ w : Int, 0 ≤ w ∧ w ≤ 8 → ((kMS tx n a = 2 ∧ kMT tx n a = w) ↔ kKA tx n a = w + 3)) ∧ (∀ c : Int, 12 ≤ c → ((kMS tx n a = 4 ∧ kMT tx n a = c) ↔ kKA tx n a = c)) ∧ (kMS tx n a = 1 → NMR (kCv tx n a 0) (kMT tx n a)) ∧ (kMS tx n a = 3 → kMT tx n a = kDv tx n a 0) := by
  rcases tkr tx n a with h | h | h | h | h | h
  · exact ⟨by omega, by omega, by omega, fun w hw => by omega, fun c hc => by omega, fun z => by omega, fun z => by omega⟩
  · exact ⟨by omega, by omega, by omega, fun w hw => by omega, fun c hc => by omega, fun _ => h.2.2.1, fun z => by omega⟩
  · exact ⟨by omega, by omega, by omega, fun w hw => by omega, fun c hc => by omega, fun z => by omega, fun z => by omega⟩
  · exact ⟨by omega, by omega, by omega, fun w hw => by omega, fun c hc => by omega, fun z => by omega, fun _ => h.2.2.1⟩
  · have g := isSg_t.mp h.2.2.1
    exact ⟨by omega, by omega, by omega, fun w hw => by omega, fun c hc => by omega, fun z => by omega, fun z => by omega⟩
  · exact ⟨by omega, by omega, by omega, fun w hw => by omega, fun c hc => by omega, fun z => by omega, fun z => by omega⟩
section RL2
variable {tx : Int → Int} {n : Int} {S0 : Nat → Int → Int} {tok hd v1 v2 v3 sc rc : Int} {msn mac man mih mrn mcc mrs mef : Int → Int}
variable {sn ac ic an ih rn rs cc cs : Int → Int}
theorem l0_sym (h : RSt tx n S0 0 tok hd v1 v2 v3 sc rc msn mac man mih mrn mcc mrs mef) (hs : (kMS tx n tok = 2 ∧ kMT tx n tok = 0)) : RSt tx n S0 1 (nxT tx n tok) hd v1 v2 v3 sc rc msn mac man mih mrn mcc mrs mef := by
  obtain ⟨ri, tp, ts, be, xst, tc, xop, wc, sn, ac, ic, an, ih, rn, rs, cc, cs, wt, hc, hbe, htok, ht, w1, w2, w3⟩ := h
  obtain ⟨t1, t3, t0, tw, tsg, tn, td⟩ := tk_all tx n tok
  have k0 := tw 0 (by decide)
  exact rs_a (st2 := 1) (rk := fun _ => 0) (ec := fun _ => 0) (ce := fun _ => 0) (hgs := fun _ => 0) hc (Or.inl ⟨by omega, ⟨rfl, rfl, rfl, rfl, rfl, rfl, rfl, rfl, rfl, rfl⟩, (Or.inr (Or.inr (Or.inr (Or.inr ((⟨by omega, ⟨rfl, rfl, rfl, rfl, rfl, rfl, rfl, rfl⟩, Or.inl ⟨rfl, by omega, rfl⟩⟩))))))⟩) hbe htok (by omega) (by decide) ht (fun z => absurd z (by decide)) (fun z => absurd z (by decide)) (fun z => absurd z (by decide))
theorem l0_bad (h : RSt tx n S0 0 tok hd v1 v2 v3 sc rc msn mac man mih mrn mcc mrs mef) (hs : ¬ (kMS tx n tok = 2 ∧ kMT tx n tok = 0)) : RF tx n S0 1 tok := by
  obtain ⟨ri, tp, ts, be, xst, tc, xop, wc, sn, ac, ic, an, ih, rn, rs, cc, cs, wt, hc, hbe, htok, ht, w1, w2, w3⟩ := h
  obtain ⟨t1, t3, t0, tw, tsg, tn, td⟩ := tk_all tx n tok
  have k0 := tw 0 (by decide)
  exact rf_a (r := 1) (rk := fun _ => 0) (ec := fun _ => 0) (ce := fun _ => 0) (hgs := fun _ => 0) hc (Or.inl ⟨by omega, ⟨rfl, rfl, rfl, rfl, rfl, rfl, rfl, rfl, rfl, rfl⟩, (Or.inr (Or.inr (Or.inr (Or.inr ((⟨by omega, ⟨rfl, rfl, rfl, rfl, rfl, rfl, rfl, rfl⟩, Or.inr ⟨rfl, by omega, rfl⟩⟩))))))⟩) htok (by omega) (by decide)
theorem l4_sym (h : RSt tx n S0 4 tok hd v1 v2 v3 sc rc msn mac man mih mrn mcc mrs mef) (hs : (kMS tx n tok = 2 ∧ kMT tx n tok = 0)) : RSt tx n S0 1 (nxT tx n tok) hd v1 v2 v3 sc rc msn mac man mih mrn mcc mrs mef := by
  obtain ⟨ri, tp, ts, be, xst, tc, xop, wc, sn, ac, ic, an, ih, rn, rs, cc, cs, wt, hc, hbe, htok, ht, w1, w2, w3⟩ := h
  obtain ⟨t1, t3, t0, tw, tsg, tn, td⟩ := tk_all tx n tok
  have k0 := tw 0 (by decide)
  have k3 := tw 3 (by decide)
  exact rs_a (st2 := 1) (rk := fun _ => 0) (ec := fun _ => 0) (ce := fun _ => 0) (hgs := fun _ => 0) hc (Or.inl ⟨by omega, ⟨rfl, rfl, rfl, rfl, rfl, rfl, rfl, rfl, rfl, rfl⟩, (Or.inr (Or.inr (Or.inr (Or.inl (⟨by omega, ⟨rfl, rfl, rfl, rfl, rfl, rfl, rfl, rfl⟩, Or.inr ⟨by omega, Or.inl ⟨rfl, by omega, rfl⟩⟩⟩)))))⟩) hbe htok (by omega) (by decide) ht (fun z => absurd z (by decide)) (fun z => absurd z (by decide)) (fun z => absurd z (by decide))
theorem l4_rule (h : RSt tx n S0 4 tok hd v1 v2 v3 sc rc msn mac man mih mrn mcc mrs mef) (hs : (kMS tx n tok = 2 ∧ kMT tx n tok = 3)) : RSt tx n S0 5 (nxT tx n tok) hd v1 v2 v3 sc rc msn mac man mih mrn mcc mrs mef := by
  obtain ⟨ri, tp, ts, be, xst, tc, xop, wc, sn, ac, ic, an, ih, rn, rs, cc, cs, wt, hc, hbe, htok, ht, w1, w2, w3⟩ := h
  obtain ⟨t1, t3, t0, tw, tsg, tn, td⟩ := tk_all tx n tok
  have k3 := tw 3 (by decide)
  exact rs_a (st2 := 5) (rk := fun _ => 0) (ec := fun _ => 0) (ce := fun _ => 0) (hgs := fun _ => 0) hc (Or.inl ⟨by omega, ⟨rfl, rfl, rfl, rfl, rfl, rfl, rfl, rfl, rfl, rfl⟩, (Or.inr (Or.inr (Or.inr (Or.inl (⟨by omega, ⟨rfl, rfl, rfl, rfl, rfl, rfl, rfl, rfl⟩, Or.inl ⟨by omega, rfl, rfl⟩⟩)))))⟩) hbe htok (by omega) (by decide) ht (fun z => absurd z (by decide)) (fun z => absurd z (by decide)) (fun z => absurd z (by decide))
theorem l4_bad (h : RSt tx n S0 4 tok hd v1 v2 v3 sc rc msn mac man mih mrn mcc mrs mef) (hs : ¬ (kMS tx n tok = 2 ∧ kMT tx n tok = 0)) (hs2 : ¬ (kMS tx n tok = 2 ∧ kMT tx n tok = 3)) : RF tx n S0 1 tok := by
  obtain ⟨ri, tp, ts, be, xst, tc, xop, wc, sn, ac, ic, an, ih, rn, rs, cc, cs, wt, hc, hbe, htok, ht, w1, w2, w3⟩ := h
  obtain ⟨t1, t3, t0, tw, tsg, tn, td⟩ := tk_all tx n tok
  have k0 := tw 0 (by decide)
  have k3 := tw 3 (by decide)
  exact rf_a (r := 1) (rk := fun _ => 0) (ec := fun _ => 0) (ce := fun _ => 0) (hgs := fun _ => 0) hc (Or.inl ⟨by omega, ⟨rfl, rfl, rfl, rfl, rfl, rfl, rfl, rfl, rfl, rfl⟩, (Or.inr (Or.inr (Or.inr (Or.inl (⟨by omega, ⟨rfl, rfl, rfl, rfl, rfl, rfl, rfl, rfl⟩, Or.inr ⟨by omega, Or.inr ⟨rfl, by omega, rfl⟩⟩⟩)))))⟩) htok (by omega) (by decide)
theorem l1_bad (h : RSt tx n S0 1 tok hd v1 v2 v3 sc rc msn mac man mih mrn mcc mrs mef) (hs : ¬ kMS tx n tok = 1) : RF tx n S0 1 tok := by
  obtain ⟨ri, tp, ts, be, xst, tc, xop, wc, sn, ac, ic, an, ih, rn, rs, cc, cs, wt, hc, hbe, htok, ht, w1, w2, w3⟩ := h
  obtain ⟨t1, t3, t0, tw, tsg, tn, td⟩ := tk_all tx n tok
  exact rf_a (r := 1) (rk := fun _ => 0) (ec := fun _ => 0) (ce := fun _ => 0) (hgs := fun _ => 0) hc (Or.inl ⟨by omega, ⟨rfl, rfl, rfl, rfl, rfl, rfl, rfl, rfl, rfl, rfl⟩, (Or.inl (⟨by omega, ⟨rfl, rfl, rfl, rfl⟩, Or.inl ⟨Or.inl ⟨rfl, by omega⟩, rfl, rfl, rfl, rfl, rfl⟩⟩))⟩) htok (by omega) (by decide)
theorem l1_bad2 (h : RSt tx n S0 1 tok hd v1 v2 v3 sc rc msn mac man mih mrn mcc mrs mef) (hs : kMS tx n tok = 1) (hf2 : 0 ≤ kLst msn sc (kMT tx n tok)) : RF tx n S0 2 tok := by
  obtain ⟨ri, tp, ts, be, xst, tc, xop, wc, sn, ac, ic, an, ih, rn, rs, cc, cs, wt, hc, hbe, htok, ht, w1, w2, w3⟩ := h
  obtain ⟨t1, t3, t0, tw, tsg, tn, td⟩ := tk_all tx n tok
  obtain ⟨⟨b1, b2⟩, q1, q2, q3, q4, q5, q6, q6d, q7, q8⟩ := ht
  have hf : kFnd sn sc (kCv tx n tok 0) 0 = kLst msn sc (kMT tx n tok) := fnd_lst b1.1 (fun j hj => (q1 j hj).1) q2 (tn hs)
  exact rf_a (r := 2) (rk := fun _ => 0) (ec := fun _ => 0) (ce := fun _ => 0) (hgs := fun _ => 0) hc (Or.inl ⟨by omega, ⟨rfl, rfl, rfl, rfl, rfl, rfl, rfl, rfl, rfl, rfl⟩, (Or.inl (⟨by omega, ⟨rfl, rfl, rfl, rfl⟩, Or.inl ⟨Or.inr (Or.inl ⟨rfl, by omega, by omega⟩), rfl, rfl, rfl, rfl, rfl⟩⟩))⟩) htok (by omega) (by decide)
theorem l1_bad4 (h : RSt tx n S0 1 tok hd v1 v2 v3 sc rc msn mac man mih mrn mcc mrs mef) (hs : kMS tx n tok = 1) (hf2 : kLst msn sc (kMT tx n tok) = -1) (h12 : sc = 12) : RF tx n S0 4 tok := by
  obtain ⟨ri, tp, ts, be, xst, tc, xop, wc, sn, ac, ic, an, ih, rn, rs, cc, cs, wt, hc, hbe, htok, ht, w1, w2, w3⟩ := h
  obtain ⟨t1, t3, t0, tw, tsg, tn, td⟩ := tk_all tx n tok
  obtain ⟨⟨b1, b2⟩, q1, q2, q3, q4, q5, q6, q6d, q7, q8⟩ := ht
  have hf : kFnd sn sc (kCv tx n tok 0) 0 = kLst msn sc (kMT tx n tok) := fnd_lst b1.1 (fun j hj => (q1 j hj).1) q2 (tn hs)
  exact rf_a (r := 4) (rk := fun _ => 0) (ec := fun _ => 0) (ce := fun _ => 0) (hgs := fun _ => 0) hc (Or.inl ⟨by omega, ⟨rfl, rfl, rfl, rfl, rfl, rfl, rfl, rfl, rfl, rfl⟩, (Or.inl (⟨by omega, ⟨rfl, rfl, rfl, rfl⟩, Or.inl ⟨Or.inr (Or.inr ⟨rfl, by omega, by omega, by omega⟩), rfl, rfl, rfl, rfl, rfl⟩⟩))⟩) htok (by omega) (by decide)
theorem trl_symN {nm to : Int} (ht : TRL hd sc rc sn ac ic an ih rn rs cc cs msn mac man mih mrn mcc mrs mef) (hn : NMR nm to) (hf : ∀ j : Int, 0 ≤ j → j < sc → ¬ msn j = to) (h12 : sc < 12) : TRL hd (sc + 1) rc (zU sn sc nm) (zU ac sc 0) (zU ic sc 0) an ih rn rs cc cs (zU msn sc to) (zU mac sc 0) man mih mrn mcc mrs mef := by
  obtain ⟨⟨b1, b2⟩, q1, q2, q3, q4, q5, q6, q6d, q7, q8⟩ := ht
  refine ⟨⟨by omega, b2⟩, ?_, ?_, ?_, ?_, ?_, q6, q6d, ?_, q8⟩
  · intro j hj
    by_cases z : j = sc
    · rw [z, zU_s, zU_s, zU_s, zU_s]
      exact ⟨hn, rfl, by omega, by omega⟩
    · rw [zU_n z, zU_n z, zU_n z, zU_n z]
      exact q1 j (by omega)
  · intro j k hj hk e
    by_cases z : j = sc
    · by_cases y : k = sc
      · omega
      · rw [z, zU_s, zU_n y] at e
        exact absurd e.symm (hf k hk.1 (by omega))
    · by_cases y : k = sc
      · rw [y, zU_s, zU_n z] at e
        exact absurd e (hf j hj.1 (by omega))
      · rw [zU_n z, zU_n y] at e
        exact q2 j k (by omega) (by omega) e
  · intro j a hj ha
    by_cases z : j = sc
    · rw [z, zU_s] at ha
      omega
    · rw [zU_n z] at ha
      exact q3 j a (by omega) ha
  · intro j a b hj ha hb e
    by_cases z : j = sc
    · rw [z, zU_s] at ha
      omega
    · rw [zU_n z] at ha hb
      exact q4 j a b (by omega) ha hb e
  · intro j hj
    by_cases z : j = sc
    · rw [z, zU_s, zU_s]
      exact ⟨by omega, ⟨fun y => by omega, fun ⟨a, y, _⟩ => by omega⟩⟩
    · rw [zU_n z, zU_n z]
      exact q5 j (by omega)
  · intro r k hr hk hh
    have y := q7 r k hr hk hh
    exact ⟨y.1, by omega, by omega⟩
theorem l1_ok (h : RSt tx n S0 1 tok hd v1 v2 v3 sc rc msn mac man mih mrn mcc mrs mef) (hs : kMS tx n tok = 1) (hf2 : kLst msn sc (kMT tx n tok) = -1) (h12 : sc < 12) : RSt tx n S0 2 (nxT tx n tok) hd v1 v2 v3 (sc + 1) rc (zU msn sc (kMT tx n tok)) (zU mac sc 0) man mih mrn mcc mrs mef := by
  obtain ⟨ri, tp, ts, be, xst, tc, xop, wc, sn, ac, ic, an, ih, rn, rs, cc, cs, wt, hc, hbe, htok, ht, w1, w2, w3⟩ := h
  obtain ⟨t1, t3, t0, tw, tsg, tn, td⟩ := tk_all tx n tok
  have ht0 := ht
  obtain ⟨⟨b1, b2⟩, q1, q2, q3, q4, q5, q6, q6d, q7, q8⟩ := ht
  have hf : kFnd sn sc (kCv tx n tok 0) 0 = kLst msn sc (kMT tx n tok) := fnd_lst b1.1 (fun j hj => (q1 j hj).1) q2 (tn hs)
  have hno : ∀ j : Int, 0 ≤ j → j < sc → ¬ msn j = kMT tx n tok := fun j y1 y2 => by
    rcases kLst_rng msn (kMT tx n tok) b1.1 with z | z
    · exact z.2 j y1 y2
    · omega
  exact rs_a (st2 := 2) (rk := fun _ => 0) (ec := fun _ => 0) (ce := fun _ => 0) (hgs := fun _ => 0) hc (Or.inl ⟨by omega, ⟨rfl, rfl, rfl, rfl, rfl, rfl, rfl, rfl, rfl, rfl⟩, (Or.inl (⟨by omega, ⟨rfl, rfl, rfl, rfl⟩, Or.inr ⟨rfl, by omega, by omega, by omega, rfl, rfl, rfl, rfl, rfl⟩⟩))⟩) hbe htok (by omega) (by decide) (trl_symN ht0 (tn hs) hno h12) (fun z => absurd z (by decide)) (fun z => absurd z (by decide)) (fun z => absurd z (by decide))
theorem l2_semi (h : RSt tx n S0 2 tok hd v1 v2 v3 sc rc msn mac man mih mrn mcc mrs mef) (hs : (kMS tx n tok = 4 ∧ kMT tx n tok = 59)) : RSt tx n S0 4 (nxT tx n tok) hd v1 v2 v3 sc rc msn mac man mih mrn mcc mrs mef := by
  obtain ⟨ri, tp, ts, be, xst, tc, xop, wc, sn, ac, ic, an, ih, rn, rs, cc, cs, wt, hc, hbe, htok, ht, w1, w2, w3⟩ := h
  obtain ⟨t1, t3, t0, tw, tsg, tn, td⟩ := tk_all tx n tok
  have k59 := tsg 59 (by decide)
  exact rs_a (st2 := 4) (rk := fun _ => 0) (ec := fun _ => 0) (ce := fun _ => 0) (hgs := fun _ => 0) hc (Or.inl ⟨by omega, ⟨rfl, rfl, rfl, rfl, rfl, rfl, rfl, rfl, rfl, rfl⟩, (Or.inr (Or.inl (⟨by omega, ⟨rfl, rfl, rfl, rfl, rfl, rfl, rfl⟩, Or.inl ⟨rfl, by omega, rfl, rfl⟩⟩)))⟩) hbe htok (by omega) (by decide) ht (fun z => absurd z (by decide)) (fun z => absurd z (by decide)) (fun z => absurd z (by decide))
theorem l2_inh (h : RSt tx n S0 2 tok hd v1 v2 v3 sc rc msn mac man mih mrn mcc mrs mef) (hs : (kMS tx n tok = 2 ∧ kMT tx n tok = 1)) : RSt tx n S0 3 (nxT tx n tok) hd 1 v2 v3 sc rc msn mac man mih mrn mcc mrs mef := by
  obtain ⟨ri, tp, ts, be, xst, tc, xop, wc, sn, ac, ic, an, ih, rn, rs, cc, cs, wt, hc, hbe, htok, ht, w1, w2, w3⟩ := h
  obtain ⟨t1, t3, t0, tw, tsg, tn, td⟩ := tk_all tx n tok
  have k1 := tw 1 (by decide)
  exact rs_a (st2 := 3) (rk := fun _ => 0) (ec := fun _ => 0) (ce := fun _ => 0) (hgs := fun _ => 0) hc (Or.inl ⟨by omega, ⟨rfl, rfl, rfl, rfl, rfl, rfl, rfl, rfl, rfl, rfl⟩, (Or.inr (Or.inl (⟨by omega, ⟨rfl, rfl, rfl, rfl, rfl, rfl, rfl⟩, Or.inr (Or.inr (Or.inl ⟨rfl, by omega, rfl, rfl⟩))⟩)))⟩) hbe htok (by omega) (by decide) ht (fun _ => rfl) (fun z => absurd z (by decide)) (fun z => absurd z (by decide))
theorem l2_syn (h : RSt tx n S0 2 tok hd v1 v2 v3 sc rc msn mac man mih mrn mcc mrs mef) (hs : (kMS tx n tok = 2 ∧ kMT tx n tok = 2)) : RSt tx n S0 3 (nxT tx n tok) hd 0 v2 v3 sc rc msn mac man mih mrn mcc mrs mef := by
  obtain ⟨ri, tp, ts, be, xst, tc, xop, wc, sn, ac, ic, an, ih, rn, rs, cc, cs, wt, hc, hbe, htok, ht, w1, w2, w3⟩ := h
  obtain ⟨t1, t3, t0, tw, tsg, tn, td⟩ := tk_all tx n tok
  have k2 := tw 2 (by decide)
  exact rs_a (st2 := 3) (rk := fun _ => 0) (ec := fun _ => 0) (ce := fun _ => 0) (hgs := fun _ => 0) hc (Or.inl ⟨by omega, ⟨rfl, rfl, rfl, rfl, rfl, rfl, rfl, rfl, rfl, rfl⟩, (Or.inr (Or.inl (⟨by omega, ⟨rfl, rfl, rfl, rfl, rfl, rfl, rfl⟩, Or.inr (Or.inr (Or.inr ⟨rfl, by omega, rfl, rfl⟩))⟩)))⟩) hbe htok (by omega) (by decide) ht (fun _ => rfl) (fun z => absurd z (by decide)) (fun z => absurd z (by decide))
theorem l2_bad (h : RSt tx n S0 2 tok hd v1 v2 v3 sc rc msn mac man mih mrn mcc mrs mef) (hs : ¬ (kMS tx n tok = 4 ∧ kMT tx n tok = 59)) (hs2 : ¬ (kMS tx n tok = 2 ∧ kMT tx n tok = 1)) (hs3 : ¬ (kMS tx n tok = 2 ∧ kMT tx n tok = 2)) : RF tx n S0 1 tok := by
  obtain ⟨ri, tp, ts, be, xst, tc, xop, wc, sn, ac, ic, an, ih, rn, rs, cc, cs, wt, hc, hbe, htok, ht, w1, w2, w3⟩ := h
  obtain ⟨t1, t3, t0, tw, tsg, tn, td⟩ := tk_all tx n tok
  have k59 := tsg 59 (by decide)
  have k1 := tw 1 (by decide)
  have k2 := tw 2 (by decide)
  exact rf_a (r := 1) (rk := fun _ => 0) (ec := fun _ => 0) (ce := fun _ => 0) (hgs := fun _ => 0) hc (Or.inl ⟨by omega, ⟨rfl, rfl, rfl, rfl, rfl, rfl, rfl, rfl, rfl, rfl⟩, (Or.inr (Or.inl (⟨by omega, ⟨rfl, rfl, rfl, rfl, rfl, rfl, rfl⟩, Or.inr (Or.inl ⟨rfl, by omega, rfl, rfl⟩)⟩)))⟩) htok (by omega) (by decide)
theorem l3_bad (h : RSt tx n S0 3 tok hd v1 v2 v3 sc rc msn mac man mih mrn mcc mrs mef) (hs : ¬ kMS tx n tok = 1) : RF tx n S0 1 tok := by
  obtain ⟨ri, tp, ts, be, xst, tc, xop, wc, sn, ac, ic, an, ih, rn, rs, cc, cs, wt, hc, hbe, htok, ht, w1, w2, w3⟩ := h
  obtain ⟨t1, t3, t0, tw, tsg, tn, td⟩ := tk_all tx n tok
  exact rf_a (r := 1) (rk := fun _ => 0) (ec := fun _ => 0) (ce := fun _ => 0) (hgs := fun _ => 0) hc (Or.inl ⟨by omega, ⟨rfl, rfl, rfl, rfl, rfl, rfl, rfl, rfl, rfl, rfl⟩, (Or.inr (Or.inr (Or.inl (⟨by omega, ⟨rfl, rfl, rfl⟩, Or.inl ⟨Or.inl ⟨rfl, by omega⟩, rfl, rfl, rfl, rfl, rfl, rfl⟩⟩))))⟩) htok (by omega) (by decide)
theorem l3_bad2 (h : RSt tx n S0 3 tok hd v1 v2 v3 sc rc msn mac man mih mrn mcc mrs mef) (hs : kMS tx n tok = 1) (hsc : 1 ≤ sc) (hf2 : 0 ≤ kLst (fun j => man (6 * (sc - 1) + j)) (mac (sc - 1)) (kMT tx n tok)) : RF tx n S0 2 tok := by
  obtain ⟨ri, tp, ts, be, xst, tc, xop, wc, sn, ac, ic, an, ih, rn, rs, cc, cs, wt, hc, hbe, htok, ht, w1, w2, w3⟩ := h
  obtain ⟨t1, t3, t0, tw, tsg, tn, td⟩ := tk_all tx n tok
  obtain ⟨⟨b1, b2⟩, q1, q2, q3, q4, q5, q6, q6d, q7, q8⟩ := ht
  have a9 := q1 (sc - 1) (by omega)
  have hf : kAttS ac an (sc - 1) (kCv tx n tok 0) = kLst (fun j => man (6 * (sc - 1) + j)) (mac (sc - 1)) (kMT tx n tok) := by
    unfold kAttS
    rw [a9.2.1]
    exact fnd_lst a9.2.2.1 (fun j hj => (q3 (sc - 1) j (by omega) hj).1) (fun j k hj hk e => q4 (sc - 1) j k (by omega) hj hk e) (tn hs)
  exact rf_a (r := 2) (rk := fun _ => 0) (ec := fun _ => 0) (ce := fun _ => 0) (hgs := fun _ => 0) hc (Or.inl ⟨by omega, ⟨rfl, rfl, rfl, rfl, rfl, rfl, rfl, rfl, rfl, rfl⟩, (Or.inr (Or.inr (Or.inl (⟨by omega, ⟨rfl, rfl, rfl⟩, Or.inl ⟨Or.inr (Or.inl ⟨rfl, by omega, by omega, by omega⟩), rfl, rfl, rfl, rfl, rfl, rfl⟩⟩))))⟩) htok (by omega) (by decide)
theorem l3_bad4 (h : RSt tx n S0 3 tok hd v1 v2 v3 sc rc msn mac man mih mrn mcc mrs mef) (hs : kMS tx n tok = 1) (hsc : 1 ≤ sc) (hf2 : kLst (fun j => man (6 * (sc - 1) + j)) (mac (sc - 1)) (kMT tx n tok) = -1) (h6 : mac (sc - 1) = 6) : RF tx n S0 4 tok := by
  obtain ⟨ri, tp, ts, be, xst, tc, xop, wc, sn, ac, ic, an, ih, rn, rs, cc, cs, wt, hc, hbe, htok, ht, w1, w2, w3⟩ := h
  obtain ⟨t1, t3, t0, tw, tsg, tn, td⟩ := tk_all tx n tok
  obtain ⟨⟨b1, b2⟩, q1, q2, q3, q4, q5, q6, q6d, q7, q8⟩ := ht
  have a9 := q1 (sc - 1) (by omega)
  have hf : kAttS ac an (sc - 1) (kCv tx n tok 0) = kLst (fun j => man (6 * (sc - 1) + j)) (mac (sc - 1)) (kMT tx n tok) := by
    unfold kAttS
    rw [a9.2.1]
    exact fnd_lst a9.2.2.1 (fun j hj => (q3 (sc - 1) j (by omega) hj).1) (fun j k hj hk e => q4 (sc - 1) j k (by omega) hj hk e) (tn hs)
  exact rf_a (r := 4) (rk := fun _ => 0) (ec := fun _ => 0) (ce := fun _ => 0) (hgs := fun _ => 0) hc (Or.inl ⟨by omega, ⟨rfl, rfl, rfl, rfl, rfl, rfl, rfl, rfl, rfl, rfl⟩, (Or.inr (Or.inr (Or.inl (⟨by omega, ⟨rfl, rfl, rfl⟩, Or.inl ⟨Or.inr (Or.inr ⟨rfl, by omega, by omega, by omega, by omega⟩), rfl, rfl, rfl, rfl, rfl, rfl⟩⟩))))⟩) htok (by omega) (by decide)
theorem trl_attN {nm to ri : Int} (ht : TRL hd sc rc sn ac ic an ih rn rs cc cs msn mac man mih mrn mcc mrs mef) (hn : NMR nm to) (hsc : 1 ≤ sc) (hf : ∀ j : Int, 0 ≤ j → j < mac (sc - 1) → ¬ man (6 * (sc - 1) + j) = to) (h6 : mac (sc - 1) < 6) (hri : ri = 0 ∨ ri = 1) : TRL hd sc rc sn (zU ac (sc - 1) (ac (sc - 1) + 1)) (zU ic (sc - 1) (ic (sc - 1) + ri)) (zU an (6 * (sc - 1) + ac (sc - 1)) nm) (zU ih (6 * (sc - 1) + ac (sc - 1)) ri) rn rs cc cs msn (zU mac (sc - 1) (mac (sc - 1) + 1)) (zU man (6 * (sc - 1) + mac (sc - 1)) to) (zU mih (6 * (sc - 1) + mac (sc - 1)) ri) mrn mcc mrs mef := by
  obtain ⟨⟨b1, b2⟩, q1, q2, q3, q4, q5, q6, q6d, q7, q8⟩ := ht
  have a9 := q1 (sc - 1) (by omega)
  rw [a9.2.1]
  refine ⟨⟨b1, b2⟩, ?_, q2, ?_, ?_, ?_, q6, q6d, q7, q8⟩
  · intro j hj
    have y := q1 j hj
    by_cases z : j = sc - 1
    · rw [z, zU_s, zU_s]
      exact ⟨a9.1, rfl, by omega, by omega⟩
    · rw [zU_n z, zU_n z]
      exact y
  · intro j a hj ha
    have y := q1 j hj
    by_cases z : j = sc - 1
    · subst z
      rw [zU_s] at ha
      by_cases x : a = mac (sc - 1)
      · subst x
        rw [zU_s, zU_s, zU_s, zU_s]
        exact ⟨hn, rfl, hri⟩
      · rw [zU_n (by omega), zU_n (by omega), zU_n (by omega), zU_n (by omega)]
        exact q3 (sc - 1) a hj (by omega)
    · rw [zU_n z] at ha
      rw [zU_n (by omega), zU_n (by omega), zU_n (by omega), zU_n (by omega)]
      exact q3 j a hj ha
  · intro j a b hj ha hb e
    have y := q1 j hj
    by_cases z : j = sc - 1
    · subst z
      rw [zU_s] at ha hb
      by_cases x : a = mac (sc - 1)
      · by_cases x2 : b = mac (sc - 1)
        · omega
        · subst x
          rw [zU_s, zU_n (by omega)] at e
          exact absurd e.symm (hf b hb.1 (by omega))
      · by_cases x2 : b = mac (sc - 1)
        · subst x2
          rw [zU_s, zU_n (by omega)] at e
          exact absurd e (hf a ha.1 (by omega))
        · rw [zU_n (by omega), zU_n (by omega)] at e
          exact q4 (sc - 1) a b hj (by omega) (by omega) e
    · rw [zU_n z] at ha hb
      rw [zU_n (by omega), zU_n (by omega)] at e
      exact q4 j a b hj ha hb e
  · intro j hj
    have y := q5 j hj
    have y2 := q1 j hj
    by_cases z : j = sc - 1
    · subst z
      rw [zU_s, zU_s]
      refine ⟨by omega, ⟨fun g => ?_, fun ⟨a, g1, g2⟩ => ?_⟩⟩
      · rcases hri with rfl | rfl
        · obtain ⟨a, g1, g2⟩ := y.2.mp (by omega)
          exact ⟨a, by omega, by rw [zU_n (by omega)]; exact g2⟩
        · exact ⟨mac (sc - 1), by omega, by rw [zU_s]⟩
      · by_cases x : a = mac (sc - 1)
        · subst x
          rw [zU_s] at g2
          omega
        · rw [zU_n (by omega)] at g2
          have g3 := y.2.mpr ⟨a, by omega, g2⟩
          omega
    · rw [zU_n z, zU_n z]
      refine ⟨y.1, ⟨fun g => ?_, fun ⟨a, g1, g2⟩ => ?_⟩⟩
      · obtain ⟨a, g1, g2⟩ := y.2.mp g
        exact ⟨a, g1, by rw [zU_n (by omega)]; exact g2⟩
      · rw [zU_n (by omega)] at g2
        exact y.2.mpr ⟨a, g1, g2⟩
theorem l3_ok (h : RSt tx n S0 3 tok hd v1 v2 v3 sc rc msn mac man mih mrn mcc mrs mef) (hs : kMS tx n tok = 1) (hsc : 1 ≤ sc) (hf2 : kLst (fun j => man (6 * (sc - 1) + j)) (mac (sc - 1)) (kMT tx n tok) = -1) (h6 : mac (sc - 1) < 6) (hv : v1 = 0 ∨ v1 = 1) : RSt tx n S0 2 (nxT tx n tok) hd v1 v2 v3 sc rc msn (zU mac (sc - 1) (mac (sc - 1) + 1)) (zU man (6 * (sc - 1) + mac (sc - 1)) (kMT tx n tok)) (zU mih (6 * (sc - 1) + mac (sc - 1)) v1) mrn mcc mrs mef := by
  obtain ⟨ri, tp, ts, be, xst, tc, xop, wc, sn, ac, ic, an, ih, rn, rs, cc, cs, wt, hc, hbe, htok, ht, w1, w2, w3⟩ := h
  obtain rfl := w1 rfl
  obtain ⟨t1, t3, t0, tw, tsg, tn, td⟩ := tk_all tx n tok
  have ht0 := ht
  obtain ⟨⟨b1, b2⟩, q1, q2, q3, q4, q5, q6, q6d, q7, q8⟩ := ht
  have a9 := q1 (sc - 1) (by omega)
  have hf : kAttS ac an (sc - 1) (kCv tx n tok 0) = kLst (fun j => man (6 * (sc - 1) + j)) (mac (sc - 1)) (kMT tx n tok) := by
    unfold kAttS
    rw [a9.2.1]
    exact fnd_lst a9.2.2.1 (fun j hj => (q3 (sc - 1) j (by omega) hj).1) (fun j k hj hk e => q4 (sc - 1) j k (by omega) hj hk e) (tn hs)
  have hno : ∀ j : Int, 0 ≤ j → j < mac (sc - 1) → ¬ man (6 * (sc - 1) + j) = kMT tx n tok := fun j y1 y2 => by
    rcases kLst_rng (fun j => man (6 * (sc - 1) + j)) (kMT tx n tok) a9.2.2.1 with z | z
    · exact z.2 j y1 y2
    · omega
  exact rs_a (st2 := 2) (rk := fun _ => 0) (ec := fun _ => 0) (ce := fun _ => 0) (hgs := fun _ => 0) hc (Or.inl ⟨by omega, ⟨rfl, rfl, rfl, rfl, rfl, rfl, rfl, rfl, rfl, rfl⟩, (Or.inr (Or.inr (Or.inl (⟨by omega, ⟨rfl, rfl, rfl⟩, Or.inr ⟨rfl, by omega, by omega, by omega, by omega, rfl, rfl, rfl, rfl, rfl, rfl⟩⟩))))⟩) hbe htok (by omega) (by decide) (trl_attN ht0 (tn hs) hsc hno h6 hv) (fun z => absurd z (by decide)) (fun z => absurd z (by decide)) (fun z => absurd z (by decide))
end RL2
