/-! the equations of the rules that are read -/
def OCB (mop moa mcc mac mrs : Int → Int) (r lo hi : Int) : Prop := ∀ j : Int, lo ≤ j ∧ j < hi → (0 ≤ mop j ∧ mop j ≤ 3 ∧ mop j ≤ mcc r) ∧ (0 ≤ moa j ∧ moa j < mac (mrs (4 * r + mop j)))
def EQI (rc orders occs : Int) (mef meo mem mor moo mop moa mac mcc mrs : Int → Int) : Prop :=
  ∀ r q : Int, (0 ≤ r ∧ r < rc) → (0 ≤ q ∧ q < 24) → 0 ≤ mef (24 * r + q) → (∃ done : Int, done < orders ∧ WFE mor moo (meo (24 * r + q)) (meo (24 * r + q) + mem (24 * r + q)) (mef (24 * r + q)) done) ∧ (0 ≤ meo (24 * r + q) ∧ 0 ≤ mem (24 * r + q) ∧ meo (24 * r + q) + mem (24 * r + q) ≤ occs) ∧ OCB mop moa mcc mac mrs r (meo (24 * r + q)) (meo (24 * r + q) + mem (24 * r + q))
def NLK (k : Int) (mrs mac mih mef mcc : Int → Int) : Prop := ∀ r p a : Int, (0 ≤ r ∧ r < k) → (0 ≤ p ∧ p ≤ 3 ∧ p ≤ mcc r) → (0 ≤ a ∧ a < 6 ∧ a < mac (mrs (4 * r + p))) → (mih (6 * mrs (4 * r + p) + a) = 1 ↔ 0 < p) → 0 ≤ mef (24 * r + 6 * p + a)
def EQB (k rc orders occs : Int) (mef meo mem mor moo mop moa mac mih mcc mrs : Int → Int) : Prop := EQI rc orders occs mef meo mem mor moo mop moa mac mcc mrs ∧ NLK k mrs mac mih mef mcc
/-- rule r has no equation yet -/
def NEQ (r : Int) (mef : Int → Int) : Prop := ∀ q : Int, 0 ≤ q ∧ q < 24 → mef (24 * r + q) = -1
section EQL
variable {k rc orders occs orders2 occs2 : Int} {mef meo mem mor moo mop moa mac mih mcc mrs or2 oo2 op2 oa2 : Int → Int}
theorem eqi_same (h : EQI rc orders occs mef meo mem mor moo mop moa mac mcc mrs) (ho : orders ≤ orders2) (hc : occs ≤ occs2) (h1 : ∀ p : Int, p < orders → or2 p = mor p ∧ oo2 p = moo p) (h2 : ∀ j : Int, j < occs → op2 j = mop j ∧ oa2 j = moa j) : EQI rc orders2 occs2 mef meo mem or2 oo2 op2 oa2 mac mcc mrs := by
  intro r q hr hq he
  obtain ⟨⟨done, hd, w⟩, b, c⟩ := h r q hr hq he
  refine ⟨⟨done, by omega, wfe_same w (fun p hp => h1 p (by omega)) (Int.le_refl _)⟩, by omega, fun j hj => ?_⟩
  rw [(h2 j (by omega)).1, (h2 j (by omega)).2]
  exact c j hj
theorem eqb_same (h : EQB k rc orders occs mef meo mem mor moo mop moa mac mih mcc mrs) (ho : orders ≤ orders2) (hc : occs ≤ occs2) (h1 : ∀ p : Int, p < orders → or2 p = mor p ∧ oo2 p = moo p) (h2 : ∀ j : Int, j < occs → op2 j = mop j ∧ oa2 j = moa j) : EQB k rc orders2 occs2 mef meo mem or2 oo2 op2 oa2 mac mih mcc mrs := ⟨eqi_same h.1 ho hc h1 h2, h.2⟩
theorem eqb_0 : EQB 0 0 0 0 mef meo mem mor moo mop moa mac mih mcc mrs := ⟨fun r q hr => absurd hr (by omega), fun r p a hr => absurd hr (by omega)⟩
/-- a rule begins -/
theorem eqb_rule {b : Int} (h : EQB rc rc orders occs mef meo mem mor moo mop moa mac mih mcc mrs) (hb : b = 24 * rc + 24) : EQB rc (rc + 1) orders occs (zFill mef (24 * rc) b (-1)) meo (zFill mem (24 * rc) b 0) mor moo mop moa mac mih (zU mcc rc 0) mrs := by
  subst hb
  refine ⟨fun r q hr hq he => ?_, fun r p a hr hp ha ht => ?_⟩
  · by_cases z : r = rc
    · subst z
      rw [zFill_in (by omega)] at he
      omega
    · rw [zFill_out (by omega)] at he
      rw [zFill_out (by omega), zFill_out (by omega)]
      have y := h.1 r q (by omega) hq he
      refine ⟨y.1, y.2.1, ?_⟩
      unfold OCB
      rw [zU_n z]
      exact y.2.2
  · rw [zU_n (by omega)] at hp
    rw [zFill_out (by omega)]
    exact h.2 r p a hr hp ha ht
theorem neq_rule {b : Int} (hb : b = 24 * rc + 24) : NEQ rc (zFill mef (24 * rc) b (-1)) := fun q hq => zFill_in (by omega)
/-- a place of the rule at hand, which has no equation yet -/
theorem eqb_place {j v : Int} (h : EQB rc (rc + 1) orders occs mef meo mem mor moo mop moa mac mih mcc mrs) (hn : NEQ rc mef) (hj : 4 * rc ≤ j) : EQB rc (rc + 1) orders occs mef meo mem mor moo mop moa mac mih mcc (zU mrs j v) := by
  refine ⟨fun r q hr hq he => ?_, fun r p a hr hp ha ht => ?_⟩
  · by_cases z : r = rc
    · subst z
      rw [hn q hq] at he
      omega
    · have y := h.1 r q hr hq he
      refine ⟨y.1, y.2.1, fun j hj => ?_⟩
      have y2 := y.2.2 j hj
      rw [zU_n (by omega)]
      exact y2
  · rw [zU_n (by omega)] at ha ht
    exact h.2 r p a hr hp ha ht
theorem eqb_child {v : Int} (h : EQB rc (rc + 1) orders occs mef meo mem mor moo mop moa mac mih mcc mrs) (hn : NEQ rc mef) : EQB rc (rc + 1) orders occs mef meo mem mor moo mop moa mac mih (zU mcc rc v) mrs := by
  refine ⟨fun r q hr hq he => ?_, fun r p a hr hp ha ht => ?_⟩
  · by_cases z : r = rc
    · subst z
      rw [hn q hq] at he
      omega
    · have y := h.1 r q hr hq he
      refine ⟨y.1, y.2.1, fun j hj => ?_⟩
      have y2 := y.2.2 j hj
      rw [zU_n z]
      exact y2
  · rw [zU_n (by omega)] at hp
    exact h.2 r p a hr hp ha ht
/-- an equation more, of the rule at hand -/
theorem eqb_add {r9 v3 q9 many done : Int} (h : EQB r9 rc orders occs mef meo mem mor moo mop moa mac mih mcc mrs) (er : r9 = rc - 1) (e3 : v3 = 24 * r9 + q9) (hq9 : 0 ≤ q9 ∧ q9 < 24) (ho : orders ≤ orders2) (hd : done < orders2) (hw : WFE or2 oo2 occs occs2 orders done) (h0 : 0 ≤ occs ∧ occs ≤ occs2) (hm : many = occs2 - occs) (hc3 : mcc r9 ≤ 3)
  (hv : EXV mor moo mop moa orders occs occs2 r9 mac mcc mrs or2 oo2 op2 oa2) : EQB r9 rc orders2 occs2 (zU mef v3 orders) (zU meo v3 occs) (zU mem v3 many) or2 oo2 op2 oa2 mac mih mcc mrs := by
  subst e3
  have g := eqi_same (orders2 := orders2) (occs2 := occs2) h.1 ho h0.2 hv.1 hv.2.1
  refine ⟨fun r q hr hq he => ?_, fun r p a hr hp ha ht => ?_⟩
  · by_cases z : 24 * r + q = 24 * r9 + q9
    · have z1 : r = r9 := by omega
      have z2 : q = q9 := by omega
      subst z1
      subst z2
      rw [zU_s, zU_s, zU_s]
      have e : occs + many = occs2 := by omega
      rw [e]
      exact ⟨⟨done, hd, hw⟩, by omega, fun j hj => ⟨by have y := (hv.2.2 j hj).1; omega, (hv.2.2 j hj).2⟩⟩
    · rw [zU_n z] at he
      rw [zU_n z, zU_n z, zU_n z]
      exact g r q hr hq he
  · rw [zU_n (by omega)]
    exact h.2 r p a hr hp ha ht
/-- a rule ends -/
theorem eqb_end (h : EQB rc (rc + 1) orders occs mef meo mem mor moo mop moa mac mih mcc mrs) (hl : ¬ kLack mrs mac mih mef mcc rc) (hb : ∀ j : Int, 0 ≤ j ∧ j < 720 → -1 ≤ mef j ∧ mef j < 4000) (hr0 : 0 ≤ rc ∧ rc < 30) : EQB (rc + 1) (rc + 1) orders occs mef meo mem mor moo mop moa mac mih mcc mrs := by
  refine ⟨h.1, fun r p a hr hp ha ht => ?_⟩
  by_cases z : r = rc
  · subst z
    have y := hb (24 * r + 6 * p + a) (by omega)
    by_cases z2 : mef (24 * r + 6 * p + a) = -1
    · exact absurd ⟨p, a, hp.1, hp.2.2, ha.1, ha.2.2, ht, z2⟩ hl
    · omega
  · exact h.2 r p a (by omega) hp ha ht
end EQL
section L12
variable {tx : Int → Int} {n : Int} {S0 : Nat → Int → Int} {tok hd v1 v2 v3 sc rc r9 a9 : Int} {msn mac man mih mrn mcc mrs mef : Int → Int}
theorem l12_bad3_a (er : r9 = rc - 1) (h : RSt tx n S0 12 tok hd v1 v2 v3 sc rc msn mac man mih mrn mcc mrs mef) (hs : kMS tx n tok = 1) (hrc : 1 ≤ rc) (hh : hd = rc) (hk : 0 ≤ v2 ∧ v2 ≤ mcc r9) (ha : a9 = kLst (fun j => man (6 * (mrs (4 * r9 + v2)) + j)) (mac (mrs (4 * r9 + v2))) (kMT tx n tok)) (hf2 : a9 = -1) : RF tx n S0 3 tok := l12_bad3_s er h hs hrc hh hk (ha.symm.trans hf2)
theorem l12_bad6_a (er : r9 = rc - 1) (h : RSt tx n S0 12 tok hd v1 v2 v3 sc rc msn mac man mih mrn mcc mrs mef) (hs : kMS tx n tok = 1) (hrc : 1 ≤ rc) (hh : hd = rc) (hk : 0 ≤ v2 ∧ v2 ≤ mcc r9) (ha : a9 = kLst (fun j => man (6 * (mrs (4 * r9 + v2)) + j)) (mac (mrs (4 * r9 + v2))) (kMT tx n tok)) (hf2 : 0 ≤ a9) (hm : ¬ (mih (6 * (mrs (4 * r9 + v2)) + a9) = 1 ↔ 0 < v2)) : RF tx n S0 6 tok := by
  subst ha
  exact l12_bad6_s er h hs hrc hh hk hf2 hm
theorem l12_bad7_a (er : r9 = rc - 1) (h : RSt tx n S0 12 tok hd v1 v2 v3 sc rc msn mac man mih mrn mcc mrs mef) (hs : kMS tx n tok = 1) (hrc : 1 ≤ rc) (hh : hd = rc) (hk : 0 ≤ v2 ∧ v2 ≤ mcc r9) (ha : a9 = kLst (fun j => man (6 * (mrs (4 * r9 + v2)) + j)) (mac (mrs (4 * r9 + v2))) (kMT tx n tok)) (hf2 : 0 ≤ a9) (hm : (mih (6 * (mrs (4 * r9 + v2)) + a9) = 1 ↔ 0 < v2)) (he : 0 ≤ mef (24 * r9 + 6 * v2 + a9)) : RF tx n S0 7 tok := by
  subst ha
  exact l12_bad7_s er h hs hrc hh hk hf2 hm he
theorem l12_ok_a (er : r9 = rc - 1) (h : RSt tx n S0 12 tok hd v1 v2 v3 sc rc msn mac man mih mrn mcc mrs mef) (hs : kMS tx n tok = 1) (hrc : 1 ≤ rc) (hh : hd = rc) (hk : 0 ≤ v2 ∧ v2 ≤ mcc r9) (ha : a9 = kLst (fun j => man (6 * (mrs (4 * r9 + v2)) + j)) (mac (mrs (4 * r9 + v2))) (kMT tx n tok)) (hf2 : 0 ≤ a9) (hm : (mih (6 * (mrs (4 * r9 + v2)) + a9) = 1 ↔ 0 < v2)) (he : mef (24 * r9 + 6 * v2 + a9) = -1) : RSt tx n S0 13 (nxT tx n tok) hd v1 v2 (24 * r9 + 6 * v2 + a9) sc rc msn mac man mih mrn mcc mrs mef := by
  subst ha
  exact l12_ok_s er h hs hrc hh hk hf2 hm he
end L12
