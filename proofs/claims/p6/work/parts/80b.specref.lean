/-! the reference's tables beside the class's -/
theorem kFnd_none {f : Int → Int} {n x : Int} : ∀ (k : Nat) (a : Int), (n - a).toNat = k → kFnd f n x a = -1 → 0 ≤ a → ∀ j : Int, a ≤ j → j < n → ¬ f j = x := by
  intro k
  induction k with
  | zero => intro a hk _ _ j h1 h2; omega
  | succ k ih =>
    intro a hk h h0 j h1 h2
    by_cases q : f a = x
    · rw [kFnd_yes (by omega) q] at h
      omega
    · rw [kFnd_no (by omega) q] at h
      by_cases z : j = a
      · rw [z]
        exact q
      · exact ih (a + 1) (by omega) h (by omega) j (by omega) h2
theorem kLstF_rng (f : Int → Int) (x : Int) : ∀ k : Nat, (kLstF f x k = -1 ∧ ∀ j : Int, 0 ≤ j → j < k → ¬ f j = x) ∨ (0 ≤ kLstF f x k ∧ kLstF f x k < k ∧ f (kLstF f x k) = x) := by
  intro k
  induction k with
  | zero => exact Or.inl ⟨rfl, fun j h1 h2 => by omega⟩
  | succ k ih =>
    by_cases q : f k = x
    · have e : kLstF f x (k + 1) = (k : Int) := if_pos q
      rw [e]
      exact Or.inr ⟨by omega, by omega, q⟩
    · have e : kLstF f x (k + 1) = kLstF f x k := if_neg q
      rw [e]
      rcases ih with ⟨h1, h2⟩ | h
      · refine Or.inl ⟨h1, fun j a b => ?_⟩
        by_cases z : j = k
        · rw [z]
          exact q
        · exact h2 j a (by omega)
      · exact Or.inr ⟨h.1, by omega, h.2.2⟩
theorem kLst_rng (f : Int → Int) (x : Int) {n : Int} (hn : 0 ≤ n) : (kLst f n x = -1 ∧ ∀ j : Int, 0 ≤ j → j < n → ¬ f j = x) ∨ (0 ≤ kLst f n x ∧ kLst f n x < n ∧ f (kLst f n x) = x) := by
  have z := kLstF_rng f x n.toNat
  rw [Int.toNat_of_nonneg hn] at z
  rw [kLst_eq]
  exact z
/-- the first of the one is the last of the other, where names are different -/
theorem fnd_lst {f g : Int → Int} {n x y : Int} (hn : 0 ≤ n) (h : ∀ j : Int, 0 ≤ j ∧ j < n → NMR (f j) (g j)) (hd : ∀ j k : Int, 0 ≤ j ∧ j < n → 0 ≤ k ∧ k < n → g j = g k → j = k) (hx : NMR x y) : kFnd f n x 0 = kLst g n y := by
  rcases kFnd_rng f n x 0 with a | a
  · rcases kLst_rng g y hn with b | b
    · rw [a, b.1]
    · have z := (nmr_inj (h _ ⟨b.1, b.2.1⟩) hx).mpr b.2.2
      exact absurd z (kFnd_none _ 0 rfl a (by omega) _ b.1 b.2.1)
  · have z := (nmr_inj (h _ ⟨a.1, a.2.1⟩) hx).mp a.2.2
    rcases kLst_rng g y hn with b | b
    · exact absurd z (b.2 _ a.1 a.2.1)
    · exact hd _ _ ⟨a.1, a.2.1⟩ ⟨b.1, b.2.1⟩ (z.trans b.2.2.symm)
def TRL (hd sc rc : Int) (sn ac ic an ih rn rs cc cs msn mac man mih mrn mcc mrs mef : Int → Int) : Prop :=
  ((0 ≤ sc ∧ sc ≤ 12) ∧ (0 ≤ rc ∧ rc ≤ 30))
  ∧ (∀ j : Int, 0 ≤ j ∧ j < sc → NMR (sn j) (msn j) ∧ ac j = mac j ∧ (0 ≤ mac j ∧ mac j ≤ 6))
  ∧ (∀ j k : Int, 0 ≤ j ∧ j < sc → 0 ≤ k ∧ k < sc → msn j = msn k → j = k)
  ∧ (∀ j a : Int, 0 ≤ j ∧ j < sc → 0 ≤ a ∧ a < mac j → NMR (an (6 * j + a)) (man (6 * j + a)) ∧ ih (6 * j + a) = mih (6 * j + a) ∧ (mih (6 * j + a) = 0 ∨ mih (6 * j + a) = 1))
  ∧ (∀ j a b : Int, 0 ≤ j ∧ j < sc → 0 ≤ a ∧ a < mac j → 0 ≤ b ∧ b < mac j → man (6 * j + a) = man (6 * j + b) → a = b)
  ∧ (∀ j : Int, 0 ≤ j ∧ j < sc → 0 ≤ ic j ∧ (0 < ic j ↔ ∃ a : Int, (0 ≤ a ∧ a < mac j) ∧ mih (6 * j + a) = 1))
  ∧ (∀ r : Int, 0 ≤ r ∧ r < rc → NMR (rn r) (mrn r) ∧ cc r = mcc r ∧ (0 ≤ mcc r ∧ mcc r ≤ 3))
  ∧ (∀ j k : Int, 0 ≤ j ∧ j < rc → 0 ≤ k ∧ k < rc → mrn j = mrn k → j = k)
  ∧ (∀ r k : Int, 0 ≤ r ∧ r < rc → 0 ≤ k ∧ k ≤ mcc r → (k = 0 → r < hd) → rs (4 * r + k) = mrs (4 * r + k) ∧ (0 ≤ mrs (4 * r + k) ∧ mrs (4 * r + k) < sc))
  ∧ (∀ r p : Int, 0 ≤ r ∧ r < rc → 0 ≤ p ∧ p < 24 → (cs (24 * r + p) = -1 ↔ mef (24 * r + p) = -1) ∧ -1 ≤ mef (24 * r + p))
/-- the place of the next TOKEN -/
noncomputable def nxT (tx : Int → Int) (n a : Int) : Int := kRun isBl tx n (kBA tx n a)
def RF (tx : Int → Int) (n : Int) (S0 : Nat → Int → Int) (f p : Int) : Prop := ∀ e : Nat → Int → Int, RES tx n S0 f p e
/-- how far the reading is: what stands next, at which TOKEN, the reference's tables -/
def RSt (tx : Int → Int) (n : Int) (S0 : Nat → Int → Int) (st tok hd v1 v2 v3 sc rc : Int) (msn mac man mih mrn mcc mrs mef : Int → Int) : Prop :=
  ∃ (ri tp ts be xst tc xop wc : Int) (sn ac ic an ih rn rs cc cs wt : Int → Int), CHN tx n S0 (mkS st ri tp ts be sc rc xst tc xop wc sn ac ic an ih rn rs cc cs wt) ∧ (0 ≤ be ∧ be ≤ n) ∧ tok = kRun isBl tx n be ∧ TRL hd sc rc sn ac ic an ih rn rs cc cs msn mac man mih mrn mcc mrs mef ∧ (st = 3 → ri = v1) ∧ (st = 11 ∨ st = 12 → tp = v2) ∧ (st = 13 → ts = v3)
section RL
variable {tx : Int → Int} {n : Int} {S0 : Nat → Int → Int} {tok hd v1 v2 v3 sc rc : Int} {msn mac man mih mrn mcc mrs mef : Int → Int}
variable {st ri tp ts be xst tc xop wc : Int} {sn ac ic an ih rn rs cc cs wt : Int → Int} {r st2 ri2 tp2 ts2 sc2 rc2 : Int} {sn2 ac2 ic2 an2 ih2 rn2 rs2 cc2 cs2 : Int → Int}
theorem stp_a {rk ec ce hgs rk2 ec2 ce2 hgs2 : Int → Int} (h : oStepA (kKA tx n tok) (kCv tx n tok 0) (kDv tx n tok 0) st sc sn ac ic an ih rk ri tp rc rn cc ec cs ce hgs rs ts r st2 sc2 sn2 ac2 ic2 an2 ih2 rk2 ri2 tp2 rc2 rn2 cc2 ec2 cs2 ce2 hgs2 rs2 ts2) (htok : tok = kRun isBl tx n be) (h13 : st < 13) : STEP tx n (mkS st ri tp ts be sc rc xst tc xop wc sn ac ic an ih rn rs cc cs wt) r (mkS st2 ri2 tp2 ts2 (kBA tx n tok) sc2 rc2 xst tc xop wc sn2 ac2 ic2 an2 ih2 rn2 rs2 cc2 cs2 wt) := by
  subst htok
  exact ⟨rfl, Or.inr (Or.inl ⟨h13, ⟨rfl, rfl, rfl, rfl, rfl⟩, rk, ec, ce, hgs, rk2, ec2, ce2, hgs2, h⟩)⟩
theorem rf_a {rk ec ce hgs rk2 ec2 ce2 hgs2 : Int → Int} (hc : CHN tx n S0 (mkS st ri tp ts be sc rc xst tc xop wc sn ac ic an ih rn rs cc cs wt)) (h : oStepA (kKA tx n tok) (kCv tx n tok 0) (kDv tx n tok 0) st sc sn ac ic an ih rk ri tp rc rn cc ec cs ce hgs rs ts r st2 sc2 sn2 ac2 ic2 an2 ih2 rk2 ri2 tp2 rc2 rn2 cc2 ec2 cs2 ce2 hgs2 rs2 ts2) (htok : tok = kRun isBl tx n be) (h13 : st < 13) (hr : ¬ r = 0) : RF tx n S0 r tok := by
  intro e
  have z := hc _ _ _ (res_bad (stp_a (xst := xst) (tc := tc) (xop := xop) (wc := wc) (wt := wt) h htok h13) hr e)
  rw [htok]
  exact z
theorem rs_a {rk ec ce hgs rk2 ec2 ce2 hgs2 : Int → Int} {hd2 u1 u2 u3 : Int} {msn2 mac2 man2 mih2 mrn2 mcc2 mrs2 mef2 : Int → Int} (hc : CHN tx n S0 (mkS st ri tp ts be sc rc xst tc xop wc sn ac ic an ih rn rs cc cs wt)) (h : oStepA (kKA tx n tok) (kCv tx n tok 0) (kDv tx n tok 0) st sc sn ac ic an ih rk ri tp rc rn cc ec cs ce hgs rs ts 0 st2 sc2 sn2 ac2 ic2 an2 ih2 rk2 ri2 tp2 rc2 rn2 cc2 ec2 cs2 ce2 hgs2 rs2 ts2) (hbe : 0 ≤ be ∧ be ≤ n) (htok : tok = kRun isBl tx n be) (h13 : st < 13) (h15 : ¬ st2 = 15) (ht : TRL hd2 sc2 rc2 sn2 ac2 ic2 an2 ih2 rn2 rs2 cc2 cs2 msn2 mac2 man2 mih2 mrn2 mcc2 mrs2 mef2) (w1 : st2 = 3 → ri2 = u1) (w2 : st2 = 11 ∨ st2 = 12 → tp2 = u2) (w3 : st2 = 13 → ts2 = u3) : RSt tx n S0 st2 (nxT tx n tok) hd2 u1 u2 u3 sc2 rc2 msn2 mac2 man2 mih2 mrn2 mcc2 mrs2 mef2 := by
  have g := kRun_in (pq := isBl) (tx := tx) (n := n) (a := be) hbe.2
  have g2 := kBA_rng (tx := tx) (n := n) (a := tok) (by omega)
  exact ⟨ri2, tp2, ts2, kBA tx n tok, xst, tc, xop, wc, sn2, ac2, ic2, an2, ih2, rn2, rs2, cc2, cs2, wt, chn_tr hc (chn_st (stp_a h htok h13) h15), ⟨by omega, g2.2.1⟩, rfl, ht, w1, w2, w3⟩
end RL
