/-! the reading's start and its end; what two readings of one text have in common -/
theorem zF_cut (f g : Int → Int) : zF f = zF (fun j => if j < 0 then g j else f j) := by
  funext i
  show zI (f (i : Int)) = zI (if (i : Int) < 0 then g (i : Int) else f (i : Int))
  rw [if_neg (by omega)]
theorem br_cut {f : Int → Int} (g : Int → Int) {n a b : Int} (h : BR f n a b) : BR (fun j => if j < 0 then g j else f j) n a b := by
  intro j hj
  have z : (if j < 0 then g j else f j) = f j := if_neg (by omega)
  show a ≤ (if j < 0 then g j else f j) ∧ (if j < 0 then g j else f j) < b
  rw [z]
  exact h j hj
/-- the reader's start -/
def INI (S : Nat → Int → Int) : Prop := ∃ (ri tp ts xst tc xop wc : Int) (sn ac ic an ih rn rs cc cs wt : Int → Int), S = mkS 0 ri tp ts 0 0 0 xst tc xop wc sn ac ic an ih rn rs cc cs wt
theorem ini_mk (ri tp ts xst tc xop wc : Int) (sn ac ic an ih rn rs cc cs wt : Int → Int) : INI (mkS 0 ri tp ts 0 0 0 xst tc xop wc sn ac ic an ih rn rs cc cs wt) := by
  unfold INI
  exact ⟨ri, tp, ts, xst, tc, xop, wc, sn, ac, ic, an, ih, rn, rs, cc, cs, wt, rfl⟩
theorem trl_0 {sn ac ic an ih rn rs cc cs msn mac man mih mrn mcc mrs mef : Int → Int} : TRL 0 0 0 sn ac ic an ih rn rs cc cs msn mac man mih mrn mcc mrs mef :=
  ⟨⟨by omega, by omega⟩, fun _ h => absurd h (by omega), fun _ _ h => absurd h (by omega), fun _ _ h => absurd h (by omega), fun _ _ _ h => absurd h (by omega), fun _ h => absurd h (by omega), fun _ h => absurd h (by omega), fun _ _ h => absurd h (by omega), fun _ _ h => absurd h (by omega), fun _ _ h => absurd h (by omega)⟩
theorem rst_ini {tx : Int → Int} {n : Int} {S0 : Nat → Int → Int} {msn mac man mih mrn mcc mrs mef : Int → Int} (h : INI S0) (hn : 0 ≤ n) : RSt tx n S0 0 (kRun isBl tx n 0) 0 0 0 0 0 0 msn mac man mih mrn mcc mrs mef := by
  obtain ⟨ri, tp, ts, xst, tc, xop, wc, sn, ac, ic, an, ih, rn, rs, cc, cs, wt, rfl⟩ := h
  exact ⟨ri, tp, ts, 0, xst, tc, xop, wc, sn, ac, ic, an, ih, rn, rs, cc, cs, wt, chn_rf _ _ _, ⟨by omega, hn⟩, rfl, trl_0, fun z => absurd z (by decide), fun z => absurd z (by decide), fun z => absurd z (by decide)⟩
section FIN
variable {tx tx2 : Int → Int} {n : Int} {S0 : Nat → Int → Int} {hd sc rc hd2 sc2 rc2 : Int} {msn mac man mih mrn mcc mrs mef msn2 mac2 man2 mih2 mrn2 mcc2 mrs2 mef2 : Int → Int}
theorem rfin_cg (h : ∀ j : Int, j < n → tx j = tx2 j) (z : RFin tx n S0 hd sc rc msn mac man mih mrn mcc mrs mef) : RFin tx2 n S0 hd sc rc msn mac man mih mrn mcc mrs mef := by
  obtain ⟨ri, tp, ts, be, xst, tc, xop, wc, sn, ac, ic, an, ih, rn, rs, cc, cs, wt, y, t⟩ := z
  exact ⟨ri, tp, ts, be, xst, tc, xop, wc, sn, ac, ic, an, ih, rn, rs, cc, cs, wt, fun p => res_cg h (y p), t⟩
theorem rf_cg {f p : Int} (h : ∀ j : Int, j < n → tx j = tx2 j) (z : RF tx n S0 f p) : RF tx2 n S0 f p := fun e => res_cg h (z e)
/-- what is accepted is not refused -/
theorem rfin_rf {f p : Int} (z : RFin tx n S0 hd sc rc msn mac man mih mrn mcc mrs mef) (h0 : ¬ f = 0) (y : RF tx n S0 f p) : False := by
  obtain ⟨ri, tp, ts, be, xst, tc, xop, wc, sn, ac, ic, an, ih, rn, rs, cc, cs, wt, x, _⟩ := z
  exact h0 (res_det (y (fun _ _ => 0)) (x 0)).1
theorem rfin_hcc (z : RFin tx n S0 hd sc rc msn mac man mih mrn mcc mrs mef) : ∀ j : Int, 0 ≤ j ∧ j < rc → 0 ≤ mcc j ∧ mcc j ≤ 3 := by
  obtain ⟨ri, tp, ts, be, xst, tc, xop, wc, sn, ac, ic, an, ih, rn, rs, cc, cs, wt, x, _, _, _, _, _, _, q, _⟩ := z
  exact fun j hj => (q j hj).2.2
theorem rfin_hrs (z : RFin tx n S0 rc sc rc msn mac man mih mrn mcc mrs mef) : ∀ r k : Int, 0 ≤ r ∧ r < rc → 0 ≤ k ∧ k ≤ mcc r → 0 ≤ mrs (4 * r + k) ∧ mrs (4 * r + k) < sc := by
  obtain ⟨ri, tp, ts, be, xst, tc, xop, wc, sn, ac, ic, an, ih, rn, rs, cc, cs, wt, x, _, _, _, _, _, _, q, _, q2, _⟩ := z
  exact fun r k hr hk => (q2 r k hr hk (fun _ => hr.2)).2
/-- the shape of a grammar: what a tree hangs on -/
def SHP (sc rc : Int) (mac mih mcc mrs mac2 mih2 mcc2 mrs2 : Int → Int) : Prop := (∀ j : Int, 0 ≤ j ∧ j < sc → mac j = mac2 j ∧ ∀ a : Int, 0 ≤ a ∧ a < mac j → mih (6 * j + a) = mih2 (6 * j + a)) ∧ (∀ r : Int, 0 ≤ r ∧ r < rc → mcc r = mcc2 r ∧ ∀ k : Int, 0 ≤ k ∧ k ≤ mcc r → mrs (4 * r + k) = mrs2 (4 * r + k))
theorem rfin_same (z : RFin tx n S0 rc sc rc msn mac man mih mrn mcc mrs mef) (y : RFin tx n S0 rc2 sc2 rc2 msn2 mac2 man2 mih2 mrn2 mcc2 mrs2 mef2) : sc = sc2 ∧ rc = rc2 ∧ SHP sc rc mac mih mcc mrs mac2 mih2 mcc2 mrs2 := by
  obtain ⟨ri, tp, ts, be, xst, tc, xop, wc, sn, ac, ic, an, ih, rn, rs, cc, cs, wt, x, _, q1, _, q4, _, _, q7, _, q9, _⟩ := z
  obtain ⟨ri', tp', ts', be', xst', tc', xop', wc', sn', ac', ic', an', ih', rn', rs', cc', cs', wt', x', _, p1, _, p4, _, _, p7, _, p9, _⟩ := y
  have e := (res_det (x 0) (x' 0)).2.2 rfl
  have e5 : sc = sc2 := congrFun (congrFun e 5) 0
  have e6 : rc = rc2 := congrFun (congrFun e 6) 0
  have e12 : ac = ac' := congrFun e 12
  have e15 : ih = ih' := congrFun e 15
  have e17 : rs = rs' := congrFun e 17
  have e18 : cc = cc' := congrFun e 18
  subst e5 e6 e12 e15 e17 e18
  refine ⟨rfl, rfl, fun j hj => ⟨(q1 j hj).2.1.symm.trans (p1 j hj).2.1, fun a ha => ?_⟩, fun r hr => ⟨(q7 r hr).2.1.symm.trans (p7 r hr).2.1, fun k hk => ?_⟩⟩
  · have w : mac j = mac2 j := (q1 j hj).2.1.symm.trans (p1 j hj).2.1
    exact (q4 j a hj ha).2.1.symm.trans (p4 j a hj (by omega)).2.1
  · have w : mcc r = mcc2 r := (q7 r hr).2.1.symm.trans (p7 r hr).2.1
    exact (q9 r k hr hk (fun _ => hr.2)).1.symm.trans (p9 r k hr (by omega) (fun _ => hr.2)).1
/-- the class's reading and the reference's of one text -/
theorem rfin_cls {f p : Int} {e : Nat → Int → Int} (z : RFin tx n S0 rc sc rc msn mac man mih mrn mcc mrs mef) (h : RES tx n S0 f p e) : f = 0 ∧ e 6 0 = rc := by
  obtain ⟨ri, tp, ts, be, xst, tc, xop, wc, sn, ac, ic, an, ih, rn, rs, cc, cs, wt, x, _⟩ := z
  have g := res_det h (x 0)
  have e1 := g.2.2 g.1
  subst e1
  exact ⟨g.1, rfl⟩
end FIN
