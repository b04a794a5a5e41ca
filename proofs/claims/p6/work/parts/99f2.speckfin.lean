/-! the grammar that is known, in the class's tables and in the reference's -/
def KFin (tx : Int → Int) (n : Int) (S0 : Nat → Int → Int) (sy ru : Int) (sn ac ic an ih rn rs cc cs msn mac man mih mrn mcc mrs mef : Int → Int) : Prop := ∃ (ri tp ts be xst tc xop wc : Int) (wt : Int → Int), (∀ p : Int, RES tx n S0 0 p (mkS 15 ri tp ts be sy ru xst tc xop wc sn ac ic an ih rn rs cc cs wt)) ∧ TRL ru sy ru sn ac ic an ih rn rs cc cs msn mac man mih mrn mcc mrs mef
section KFIN
variable {tx tx2 : Int → Int} {n : Int} {S0 : Nat → Int → Int} {sy ru sy2 ru2 : Int} {sn ac ic an ih rn rs cc cs msn mac man mih mrn mcc mrs mef msn2 mac2 man2 mih2 mrn2 mcc2 mrs2 mef2 : Int → Int}
theorem kfin_rf (z : KFin tx n S0 sy ru sn ac ic an ih rn rs cc cs msn mac man mih mrn mcc mrs mef) : RFin tx n S0 ru sy ru msn mac man mih mrn mcc mrs mef := by
  obtain ⟨ri, tp, ts, be, xst, tc, xop, wc, wt, y, t⟩ := z
  exact ⟨ri, tp, ts, be, xst, tc, xop, wc, sn, ac, ic, an, ih, rn, rs, cc, cs, wt, y, t⟩
theorem kfin_grl (z : KFin tx n S0 sy ru sn ac ic an ih rn rs cc cs msn mac man mih mrn mcc mrs mef) : GRL ru rn rs cc mrn mrs mcc := by
  obtain ⟨ri, tp, ts, be, xst, tc, xop, wc, wt, y, t⟩ := z
  exact grl_trl t
theorem kfin_cg (h : ∀ j : Int, j < n → tx j = tx2 j) (z : KFin tx n S0 sy ru sn ac ic an ih rn rs cc cs msn mac man mih mrn mcc mrs mef) : KFin tx2 n S0 sy ru sn ac ic an ih rn rs cc cs msn mac man mih mrn mcc mrs mef := by
  obtain ⟨ri, tp, ts, be, xst, tc, xop, wc, wt, y, t⟩ := z
  exact ⟨ri, tp, ts, be, xst, tc, xop, wc, wt, fun p => res_cg h (y p), t⟩
theorem kfin_mk {p st ri tp ts be sc rc xst tc xop wc : Int} {wt : Int → Int} (z : RFin tx n S0 ru sy ru msn mac man mih mrn mcc mrs mef) (h : RES tx n S0 0 p (mkS st ri tp ts be sc rc xst tc xop wc sn ac ic an ih rn rs cc cs wt)) : sc = sy ∧ rc = ru ∧ KFin tx n S0 sy ru sn ac ic an ih rn rs cc cs msn mac man mih mrn mcc mrs mef := by
  obtain ⟨ri', tp', ts', be', xst', tc', xop', wc', sn', ac', ic', an', ih', rn', rs', cc', cs', wt', y, t⟩ := z
  have e := (res_det h (y 0)).2.2 rfl
  have e5 : sc = sy := congrFun (congrFun e 5) 0
  have e6 : rc = ru := congrFun (congrFun e 6) 0
  have e11 : sn = sn' := congrFun e 11
  have e12 : ac = ac' := congrFun e 12
  have e13 : ic = ic' := congrFun e 13
  have e14 : an = an' := congrFun e 14
  have e15 : ih = ih' := congrFun e 15
  have e16 : rn = rn' := congrFun e 16
  have e17 : rs = rs' := congrFun e 17
  have e18 : cc = cc' := congrFun e 18
  have e19 : cs = cs' := congrFun e 19
  subst e5 e6 e11 e12 e13 e14 e15 e16 e17 e18 e19
  exact ⟨rfl, rfl, ri', tp', ts', be', xst', tc', xop', wc', wt', y, t⟩
theorem kfin_re (e : tx2 = tx) (z : KFin tx n S0 sy ru sn ac ic an ih rn rs cc cs msn mac man mih mrn mcc mrs mef) (w : RFin tx2 n S0 ru2 sy2 ru2 msn2 mac2 man2 mih2 mrn2 mcc2 mrs2 mef2) : sy = sy2 ∧ ru = ru2 ∧ KFin tx2 n S0 sy2 ru2 sn ac ic an ih rn rs cc cs msn2 mac2 man2 mih2 mrn2 mcc2 mrs2 mef2 := by
  subst e
  obtain ⟨ri, tp, ts, be, xst, tc, xop, wc, wt, y, t⟩ := z
  exact kfin_mk w (y 0)
theorem teq_mk {N : Int} {tr ta tp to tc tf zr za zp zo zm zc nr na np no nc : Int → Int} (h : TCOR N tr ta tp to tc tf zr za zp zo zm zc) (hc : CPY N nr na np nc zr za zp zc) (ho : ∀ j : Int, 0 ≤ j ∧ j < N → no j = zo j) : ∀ k : Int, 0 ≤ k ∧ k < N → tr k = nr k ∧ ta k = na k ∧ tp k = np k ∧ to k = no k := by
  intro k hk
  have a := (h k hk).1
  have b := (hc k hk).1
  have c := ho k hk
  exact ⟨a.1.trans b.1.symm, a.2.1.trans b.2.1.symm, a.2.2.1.trans b.2.2.symm, a.2.2.2.1.trans c.symm⟩
theorem teq_own {N n v : Int} {a b c d a2 b2 c2 d2 f : Int → Int} (h : ∀ k : Int, 0 ≤ k ∧ k < N → a k = a2 k ∧ b k = b2 k ∧ c k = c2 k ∧ d k = d2 k) (hf : ∀ j : Int, f j = zU d n v j) : ∀ k : Int, 0 ≤ k ∧ k < N → a k = a2 k ∧ b k = b2 k ∧ c k = c2 k ∧ f k = zU d2 n v k := by
  intro k hk
  have z := h k hk
  refine ⟨z.1, z.2.1, z.2.2.1, ?_⟩
  rw [hf k]
  by_cases q : k = n
  · rw [q, zU_s, zU_s]
  · rw [zU_n q, zU_n q]
    exact z.2.2.2
end KFIN
