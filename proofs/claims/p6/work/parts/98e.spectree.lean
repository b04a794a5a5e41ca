/-! the class's reader of TREES, a step for each TOKEN -/
def tOpen (sz de he : Int) (ta tp to tc tf : Int → Int) (r st2 he2 de2 sz2 : Int) (ta2 tp2 to2 tc2 tf2 : Int → Int) : Prop :=
  (r = 4 ∧ (200 ≤ sz ∨ 40 ≤ de)) ∨ (r = 0 ∧ sz < 200 ∧ de < 40 ∧ st2 = 1 ∧ he2 = sz ∧ de2 = de + 1 ∧ sz2 = sz + 1 ∧ ta2 = zU ta sz he ∧ to2 = zU to sz 0 ∧ ((he = -1 ∧ tp2 = zU tp sz 0 ∧ tf2 = zU tf sz 0 ∧ tc2 = tc) ∨ (¬ he = -1 ∧ tp2 = zU (zU tp sz 0) sz (zU tf sz 0 he + 1) ∧ tf2 = zU (zU tf sz 0) he (zU tf sz 0 he + 1) ∧ tc2 = zU tc (3 * he + zU tf sz 0 he) sz)))
def kDue (rs tr ta tp : Int → Int) (he : Int) : Int := if ta he = -1 then 0 else rs (4 * tr (ta he) + tp he)
def tName (kd nm rc : Int) (rn rs : Int → Int) (due he : Int) (tr : Int → Int) (r st2 : Int) (tr2 : Int → Int) : Prop :=
  (r = 1 ∧ ¬ kd = 1) ∨ (r = 3 ∧ kd = 1 ∧ kFnd rn rc nm 0 = -1) ∨ (r = 3 ∧ kd = 1 ∧ ¬ kFnd rn rc nm 0 = -1 ∧ ¬ rs (4 * kFnd rn rc nm 0 + 0) = due) ∨ (r = 0 ∧ kd = 1 ∧ ¬ kFnd rn rc nm 0 = -1 ∧ rs (4 * kFnd rn rc nm 0 + 0) = due ∧ st2 = 2 ∧ tr2 = zU tr he (kFnd rn rc nm 0))
def tOwn (nu he : Int) (to : Int → Int) (r st2 : Int) (to2 : Int → Int) : Prop :=
  (r = 5 ∧ 2147483647 < nu) ∨ (r = 0 ∧ ¬ 2147483647 < nu ∧ st2 = 3 ∧ to2 = zU to he nu)
def tChild (kd cf fl abv de he sz : Int) (ta tp to tc tf : Int → Int) (r st2 he2 de2 sz2 : Int) (ta2 tp2 to2 tc2 tf2 : Int → Int) : Prop :=
  (r = 1 ∧ kd = 40 ∧ cf ≤ fl) ∨ (kd = 40 ∧ ¬ cf ≤ fl ∧ tOpen sz de he ta tp to tc tf r st2 he2 de2 sz2 ta2 tp2 to2 tc2 tf2) ∨ (r = 1 ∧ ¬ kd = 40 ∧ (¬ kd = 41 ∨ ¬ cf ≤ fl)) ∨ (r = 0 ∧ kd = 41 ∧ cf ≤ fl ∧ he2 = abv ∧ de2 = de - 1 ∧ sz2 = sz ∧ ta2 = ta ∧ tp2 = tp ∧ to2 = to ∧ tc2 = tc ∧ tf2 = tf ∧ ((abv = -1 ∧ st2 = 4) ∨ (¬ abv = -1 ∧ st2 = 3)))
def tStep (kd nm nu rc : Int) (rn rs cc : Int → Int) (st he de sz : Int) (tr ta tp to tc tf : Int → Int) (r st2 he2 de2 sz2 : Int) (tr2 ta2 tp2 to2 tc2 tf2 : Int → Int) : Prop :=
  (st = 0 ∧ (tr2 = tr) ∧ ((r = 1 ∧ ¬ kd = 40) ∨ (kd = 40 ∧ tOpen sz de he ta tp to tc tf r st2 he2 de2 sz2 ta2 tp2 to2 tc2 tf2)))
  ∨ (st = 1 ∧ (he2 = he ∧ de2 = de ∧ sz2 = sz ∧ ta2 = ta ∧ tp2 = tp ∧ to2 = to ∧ tc2 = tc ∧ tf2 = tf) ∧ tName kd nm rc rn rs (kDue rs tr ta tp he) he tr r st2 tr2)
  ∨ (st = 2 ∧ kd = 2 ∧ (he2 = he ∧ de2 = de ∧ sz2 = sz ∧ tr2 = tr ∧ ta2 = ta ∧ tp2 = tp ∧ tc2 = tc ∧ tf2 = tf) ∧ tOwn nu he to r st2 to2)
  ∨ ((st = 3 ∨ (st = 2 ∧ ¬ kd = 2)) ∧ (tr2 = tr) ∧ tChild kd (cc (tr he)) (tf he) (ta he) de he sz ta tp to tc tf r st2 he2 de2 sz2 ta2 tp2 to2 tc2 tf2)
  ∨ (¬ (0 ≤ st ∧ st ≤ 3) ∧ (he2 = he ∧ de2 = de ∧ sz2 = sz ∧ tr2 = tr ∧ ta2 = ta ∧ tp2 = tp ∧ to2 = to ∧ tc2 = tc ∧ tf2 = tf) ∧ oGoIf kd 0 5 st r st2)
theorem det_tOpen {sz : Int} {de : Int} {he : Int} {ta : Int → Int} {tp : Int → Int} {to : Int → Int} {tc : Int → Int} {tf : Int → Int} {r : Int} {st2 : Int} {he2 : Int} {de2 : Int} {sz2 : Int} {ta2 : Int → Int} {tp2 : Int → Int} {to2 : Int → Int} {tc2 : Int → Int} {tf2 : Int → Int} {rz : Int} {st2z : Int} {he2z : Int} {de2z : Int} {sz2z : Int} {ta2z : Int → Int} {tp2z : Int → Int} {to2z : Int → Int} {tc2z : Int → Int} {tf2z : Int → Int} (h : tOpen sz de he ta tp to tc tf r st2 he2 de2 sz2 ta2 tp2 to2 tc2 tf2) (h2 : tOpen sz de he ta tp to tc tf rz st2z he2z de2z sz2z ta2z tp2z to2z tc2z tf2z) : r = rz ∧ (r = 0 → st2 = st2z ∧ he2 = he2z ∧ de2 = de2z ∧ sz2 = sz2z ∧ ta2 = ta2z ∧ tp2 = tp2z ∧ to2 = to2z ∧ tc2 = tc2z ∧ tf2 = tf2z) := by
  unfold tOpen at h h2
  rcases h with ⟨a1, (a2 | a3)⟩ | ⟨a4, a5, a6, rfl, rfl, rfl, rfl, rfl, rfl, (⟨a7, rfl, rfl, rfl⟩ | ⟨a8, rfl, rfl, rfl⟩)⟩
  all_goals (rcases h2 with ⟨a1z, (a2z | a3z)⟩ | ⟨a4z, a5z, a6z, rfl, rfl, rfl, rfl, rfl, rfl, (⟨a7z, rfl, rfl, rfl⟩ | ⟨a8z, rfl, rfl, rfl⟩)⟩)
  all_goals first
    | (exfalso; omega)
    | (exfalso; contradiction)
    | exact ⟨by omega, fun z => absurd z (by omega)⟩
    | exact ⟨by omega, fun _ => ⟨rfl, rfl, rfl, rfl, rfl, rfl, rfl, rfl, rfl⟩⟩

theorem det_tName {kd : Int} {nm : Int} {rc : Int} {rn : Int → Int} {rs : Int → Int} {due : Int} {he : Int} {tr : Int → Int} {r : Int} {st2 : Int} {tr2 : Int → Int} {rz : Int} {st2z : Int} {tr2z : Int → Int} (h : tName kd nm rc rn rs due he tr r st2 tr2) (h2 : tName kd nm rc rn rs due he tr rz st2z tr2z) : r = rz ∧ (r = 0 → st2 = st2z ∧ tr2 = tr2z) := by
  unfold tName at h h2
  rcases h with ⟨a1, a2⟩ | ⟨a3, a4, a5⟩ | ⟨a6, a7, a8, a9⟩ | ⟨a10, a11, a12, a13, rfl, rfl⟩
  all_goals (rcases h2 with ⟨a1z, a2z⟩ | ⟨a3z, a4z, a5z⟩ | ⟨a6z, a7z, a8z, a9z⟩ | ⟨a10z, a11z, a12z, a13z, rfl, rfl⟩)
  all_goals first
    | (exfalso; omega)
    | (exfalso; contradiction)
    | exact ⟨by omega, fun z => absurd z (by omega)⟩
    | exact ⟨by omega, fun _ => ⟨rfl, rfl⟩⟩

theorem det_tOwn {nu : Int} {he : Int} {to : Int → Int} {r : Int} {st2 : Int} {to2 : Int → Int} {rz : Int} {st2z : Int} {to2z : Int → Int} (h : tOwn nu he to r st2 to2) (h2 : tOwn nu he to rz st2z to2z) : r = rz ∧ (r = 0 → st2 = st2z ∧ to2 = to2z) := by
  unfold tOwn at h h2
  rcases h with ⟨a1, a2⟩ | ⟨a3, a4, rfl, rfl⟩
  all_goals (rcases h2 with ⟨a1z, a2z⟩ | ⟨a3z, a4z, rfl, rfl⟩)
  all_goals first
    | (exfalso; omega)
    | (exfalso; contradiction)
    | exact ⟨by omega, fun z => absurd z (by omega)⟩
    | exact ⟨by omega, fun _ => ⟨rfl, rfl⟩⟩

theorem det_tChild {kd : Int} {cf : Int} {fl : Int} {abv : Int} {de : Int} {he : Int} {sz : Int} {ta : Int → Int} {tp : Int → Int} {to : Int → Int} {tc : Int → Int} {tf : Int → Int} {r : Int} {st2 : Int} {he2 : Int} {de2 : Int} {sz2 : Int} {ta2 : Int → Int} {tp2 : Int → Int} {to2 : Int → Int} {tc2 : Int → Int} {tf2 : Int → Int} {rz : Int} {st2z : Int} {he2z : Int} {de2z : Int} {sz2z : Int} {ta2z : Int → Int} {tp2z : Int → Int} {to2z : Int → Int} {tc2z : Int → Int} {tf2z : Int → Int} (h : tChild kd cf fl abv de he sz ta tp to tc tf r st2 he2 de2 sz2 ta2 tp2 to2 tc2 tf2) (h2 : tChild kd cf fl abv de he sz ta tp to tc tf rz st2z he2z de2z sz2z ta2z tp2z to2z tc2z tf2z) : r = rz ∧ (r = 0 → st2 = st2z ∧ he2 = he2z ∧ de2 = de2z ∧ sz2 = sz2z ∧ ta2 = ta2z ∧ tp2 = tp2z ∧ to2 = to2z ∧ tc2 = tc2z ∧ tf2 = tf2z) := by
  unfold tChild at h h2
  rcases h with ⟨a1, a2, a3⟩ | ⟨a4, a5, a6⟩ | ⟨a7, a8, (a9 | a10)⟩ | ⟨a11, a12, a13, rfl, rfl, rfl, rfl, rfl, rfl, rfl, rfl, (⟨a14, rfl⟩ | ⟨a15, rfl⟩)⟩
  all_goals (rcases h2 with ⟨a1z, a2z, a3z⟩ | ⟨a4z, a5z, a6z⟩ | ⟨a7z, a8z, (a9z | a10z)⟩ | ⟨a11z, a12z, a13z, rfl, rfl, rfl, rfl, rfl, rfl, rfl, rfl, (⟨a14z, rfl⟩ | ⟨a15z, rfl⟩)⟩)
  all_goals first
    | (exfalso; omega)
    | (exfalso; contradiction)
    | exact ⟨by omega, fun z => absurd z (by omega)⟩
    | exact ⟨by omega, fun _ => ⟨rfl, rfl, rfl, rfl, rfl, rfl, rfl, rfl, rfl⟩⟩
    | exact ⟨(det_tOpen a6 a6z).1, fun z => by obtain ⟨rfl, rfl, rfl, rfl, rfl, rfl, rfl, rfl, rfl⟩ := (det_tOpen a6 a6z).2 z; exact ⟨rfl, rfl, rfl, rfl, rfl, rfl, rfl, rfl, rfl⟩⟩

theorem det_tStep {kd : Int} {nm : Int} {nu : Int} {rc : Int} {rn : Int → Int} {rs : Int → Int} {cc : Int → Int} {st : Int} {he : Int} {de : Int} {sz : Int} {tr : Int → Int} {ta : Int → Int} {tp : Int → Int} {to : Int → Int} {tc : Int → Int} {tf : Int → Int} {r : Int} {st2 : Int} {he2 : Int} {de2 : Int} {sz2 : Int} {tr2 : Int → Int} {ta2 : Int → Int} {tp2 : Int → Int} {to2 : Int → Int} {tc2 : Int → Int} {tf2 : Int → Int} {rz : Int} {st2z : Int} {he2z : Int} {de2z : Int} {sz2z : Int} {tr2z : Int → Int} {ta2z : Int → Int} {tp2z : Int → Int} {to2z : Int → Int} {tc2z : Int → Int} {tf2z : Int → Int} (h : tStep kd nm nu rc rn rs cc st he de sz tr ta tp to tc tf r st2 he2 de2 sz2 tr2 ta2 tp2 to2 tc2 tf2) (h2 : tStep kd nm nu rc rn rs cc st he de sz tr ta tp to tc tf rz st2z he2z de2z sz2z tr2z ta2z tp2z to2z tc2z tf2z) : r = rz ∧ (r = 0 → st2 = st2z ∧ he2 = he2z ∧ de2 = de2z ∧ sz2 = sz2z ∧ tr2 = tr2z ∧ ta2 = ta2z ∧ tp2 = tp2z ∧ to2 = to2z ∧ tc2 = tc2z ∧ tf2 = tf2z) := by
  unfold tStep at h h2
  rcases h with ⟨a1, rfl, (⟨a2, a3⟩ | ⟨a4, a5⟩)⟩ | ⟨a6, ⟨rfl, rfl, rfl, rfl, rfl, rfl, rfl, rfl⟩, a7⟩ | ⟨a8, a9, ⟨rfl, rfl, rfl, rfl, rfl, rfl, rfl, rfl⟩, a10⟩ | ⟨(a11 | ⟨a12, a13⟩), rfl, a14⟩ | ⟨a15, ⟨rfl, rfl, rfl, rfl, rfl, rfl, rfl, rfl, rfl⟩, a16⟩
  all_goals (rcases h2 with ⟨a1z, rfl, (⟨a2z, a3z⟩ | ⟨a4z, a5z⟩)⟩ | ⟨a6z, ⟨rfl, rfl, rfl, rfl, rfl, rfl, rfl, rfl⟩, a7z⟩ | ⟨a8z, a9z, ⟨rfl, rfl, rfl, rfl, rfl, rfl, rfl, rfl⟩, a10z⟩ | ⟨(a11z | ⟨a12z, a13z⟩), rfl, a14z⟩ | ⟨a15z, ⟨rfl, rfl, rfl, rfl, rfl, rfl, rfl, rfl, rfl⟩, a16z⟩)
  all_goals first
    | (exfalso; omega)
    | (exfalso; contradiction)
    | exact ⟨by omega, fun z => absurd z (by omega)⟩
    | exact ⟨by omega, fun _ => ⟨rfl, rfl, rfl, rfl, rfl, rfl, rfl, rfl, rfl, rfl⟩⟩
    | exact ⟨(det_tOpen a5 a5z).1, fun z => by obtain ⟨rfl, rfl, rfl, rfl, rfl, rfl, rfl, rfl, rfl⟩ := (det_tOpen a5 a5z).2 z; exact ⟨rfl, rfl, rfl, rfl, rfl, rfl, rfl, rfl, rfl, rfl⟩⟩
    | exact ⟨(det_tName a7 a7z).1, fun z => by obtain ⟨rfl, rfl⟩ := (det_tName a7 a7z).2 z; exact ⟨rfl, rfl, rfl, rfl, rfl, rfl, rfl, rfl, rfl, rfl⟩⟩
    | exact ⟨(det_tOwn a10 a10z).1, fun z => by obtain ⟨rfl, rfl⟩ := (det_tOwn a10 a10z).2 z; exact ⟨rfl, rfl, rfl, rfl, rfl, rfl, rfl, rfl, rfl, rfl⟩⟩
    | exact ⟨(det_tChild a14 a14z).1, fun z => by obtain ⟨rfl, rfl, rfl, rfl, rfl, rfl, rfl, rfl, rfl⟩ := (det_tChild a14 a14z).2 z; exact ⟨rfl, rfl, rfl, rfl, rfl, rfl, rfl, rfl, rfl, rfl⟩⟩
    | exact ⟨(det_oGoIf a16 a16z).1, fun z => by obtain rfl := (det_oGoIf a16 a16z).2 z; exact ⟨rfl, rfl, rfl, rfl, rfl, rfl, rfl, rfl, rfl, rfl⟩⟩

theorem tName_nm {kd nm nm2 rc : Int} {rn rs : Int → Int} {due he : Int} {tr : Int → Int} {r st2 : Int} {tr2 : Int → Int} (h : tName kd nm rc rn rs due he tr r st2 tr2) (e : kd = 1 → nm = nm2) : tName kd nm2 rc rn rs due he tr r st2 tr2 := by
  by_cases q : kd = 1
  · rw [← e q]
    exact h
  · rcases h with h | h | h | h
    · exact Or.inl h
    · exact absurd h.2.1 q
    · exact absurd h.2.1 q
    · exact absurd h.2.1 q
theorem tStep_nm {kd nm nu nm2 nu2 rc : Int} {rn rs cc : Int → Int} {st he de sz : Int} {tr ta tp to tc tf : Int → Int} {r st2 he2 de2 sz2 : Int} {tr2 ta2 tp2 to2 tc2 tf2 : Int → Int} (h : tStep kd nm nu rc rn rs cc st he de sz tr ta tp to tc tf r st2 he2 de2 sz2 tr2 ta2 tp2 to2 tc2 tf2) (e : kd = 1 → nm = nm2) (e2 : kd = 2 → nu = nu2) : tStep kd nm2 nu2 rc rn rs cc st he de sz tr ta tp to tc tf r st2 he2 de2 sz2 tr2 ta2 tp2 to2 tc2 tf2 := by
  rcases h with h | ⟨a, b, c⟩ | ⟨a, b, c, d⟩ | h | h
  · exact Or.inl h
  · exact Or.inr (Or.inl ⟨a, b, tName_nm c e⟩)
  · rw [e2 b] at d
    exact Or.inr (Or.inr (Or.inl ⟨a, b, c, d⟩))
  · exact Or.inr (Or.inr (Or.inr (Or.inl h)))
  · exact Or.inr (Or.inr (Or.inr (Or.inr h)))
/-- the end of a text ends the reading or is a FAULT -/
theorem tStep_end {nm nu rc : Int} {rn rs cc : Int → Int} {st he de sz : Int} {tr ta tp to tc tf : Int → Int} {st2 he2 de2 sz2 : Int} {tr2 ta2 tp2 to2 tc2 tf2 : Int → Int} (h : tStep 0 nm nu rc rn rs cc st he de sz tr ta tp to tc tf 0 st2 he2 de2 sz2 tr2 ta2 tp2 to2 tc2 tf2) : st2 = 5 := by
  rcases h with ⟨a, b, c⟩ | ⟨a, b, c⟩ | ⟨a, b, c, d⟩ | ⟨a, b, c⟩ | ⟨a, b, c⟩
  · rcases c with c | c
    · omega
    · omega
  · rcases c with c | c | c | c
    · omega
    · omega
    · omega
    · have z := c.2.1
      omega
  · omega
  · rcases c with c | c | c | c
    · omega
    · omega
    · omega
    · have z := c.2.1
      omega
  · rcases c with c | c
    · exact c.2.2
    · omega
/-! its runs -/
abbrev TS := Int × Int × Int × Int × Int × (Int → Int) × (Int → Int) × (Int → Int) × (Int → Int) × (Int → Int) × (Int → Int)
def TSTEPf (tx : Int → Int) (n rc : Int) (rn rs cc : Int → Int) (st he de sz be : Int) (tr ta tp to tc tf : Int → Int) (r : Int) (st2 he2 de2 sz2 be2 : Int) (tr2 ta2 tp2 to2 tc2 tf2 : Int → Int) : Prop := be2 = kBA tx n (kRun isBl tx n be) ∧ tStep (kKA tx n (kRun isBl tx n be)) (kCv tx n (kRun isBl tx n be) 0) (kDv tx n (kRun isBl tx n be) 0) rc rn rs cc st he de sz tr ta tp to tc tf r st2 he2 de2 sz2 tr2 ta2 tp2 to2 tc2 tf2
def TSTEP (tx : Int → Int) (n rc : Int) (rn rs cc : Int → Int) (S : TS) (r : Int) (S2 : TS) : Prop := TSTEPf tx n rc rn rs cc S.1 S.2.1 S.2.2.1 S.2.2.2.1 S.2.2.2.2.1 S.2.2.2.2.2.1 S.2.2.2.2.2.2.1 S.2.2.2.2.2.2.2.1 S.2.2.2.2.2.2.2.2.1 S.2.2.2.2.2.2.2.2.2.1 S.2.2.2.2.2.2.2.2.2.2 r S2.1 S2.2.1 S2.2.2.1 S2.2.2.2.1 S2.2.2.2.2.1 S2.2.2.2.2.2.1 S2.2.2.2.2.2.2.1 S2.2.2.2.2.2.2.2.1 S2.2.2.2.2.2.2.2.2.1 S2.2.2.2.2.2.2.2.2.2.1 S2.2.2.2.2.2.2.2.2.2.2
def TRUN (tx : Int → Int) (n rc : Int) (rn rs cc : Int → Int) : Nat → TS → Int → Int → TS → Prop
  | 0, _, _, _, _ => False
  | k + 1, S, f, p, e => ∃ (r : Int) (S2 : TS), TSTEP tx n rc rn rs cc S r S2 ∧ ((¬ r = 0 ∧ f = r ∧ p = kRun isBl tx n S.2.2.2.2.1) ∨ (r = 0 ∧ S2.1 = 5 ∧ f = 0 ∧ e = S2) ∨ (r = 0 ∧ ¬ S2.1 = 5 ∧ TRUN tx n rc rn rs cc k S2 f p e))
def TRES (tx : Int → Int) (n rc : Int) (rn rs cc : Int → Int) (S : TS) (f p : Int) (e : TS) : Prop := ∃ k : Nat, TRUN tx n rc rn rs cc k S f p e
def TCHN (tx : Int → Int) (n rc : Int) (rn rs cc : Int → Int) (S S2 : TS) : Prop := ∀ (f p : Int) (e : TS), TRES tx n rc rn rs cc S2 f p e → TRES tx n rc rn rs cc S f p e
def TRF (tx : Int → Int) (n rc : Int) (rn rs cc : Int → Int) (S : TS) (f p : Int) : Prop := ∀ e : TS, TRES tx n rc rn rs cc S f p e
section TRE
variable {tx : Int → Int} {n rc : Int} {rn rs cc : Int → Int} {S0 S S2 S3 : TS}
theorem tchn_rf (S : TS) : TCHN tx n rc rn rs cc S S := fun _ _ _ h => h
theorem tchn_tr (h : TCHN tx n rc rn rs cc S S2) (h2 : TCHN tx n rc rn rs cc S2 S3) : TCHN tx n rc rn rs cc S S3 := fun f p e q => h f p e (h2 f p e q)
theorem tchn_st (h : TSTEP tx n rc rn rs cc S 0 S2) (h2 : ¬ S2.1 = 5) : TCHN tx n rc rn rs cc S S2 := fun f p e ⟨k, q⟩ => ⟨k + 1, 0, S2, h, Or.inr (Or.inr ⟨rfl, h2, q⟩)⟩
theorem tres_end (h : TSTEP tx n rc rn rs cc S 0 S2) (h2 : S2.1 = 5) (p : Int) : TRES tx n rc rn rs cc S 0 p S2 := ⟨1, 0, S2, h, Or.inr (Or.inl ⟨rfl, h2, rfl, rfl⟩)⟩
theorem tres_bad {r : Int} (h : TSTEP tx n rc rn rs cc S r S2) (h2 : ¬ r = 0) (e : TS) : TRES tx n rc rn rs cc S r (kRun isBl tx n S.2.2.2.2.1) e := ⟨1, r, S2, h, Or.inl ⟨h2, rfl, rfl⟩⟩
theorem tst_det {r r2 : Int} (h : TSTEP tx n rc rn rs cc S r S2) (h2 : TSTEP tx n rc rn rs cc S r2 S3) : r = r2 ∧ (r = 0 → S2 = S3) := by
  obtain ⟨st2, he2, de2, sz2, be2, tr2, ta2, tp2, to2, tc2, tf2⟩ := S2
  obtain ⟨st2z, he2z, de2z, sz2z, be2z, tr2z, ta2z, tp2z, to2z, tc2z, tf2z⟩ := S3
  have q : r = r2 ∧ (r = 0 → st2 = st2z ∧ he2 = he2z ∧ de2 = de2z ∧ sz2 = sz2z ∧ tr2 = tr2z ∧ ta2 = ta2z ∧ tp2 = tp2z ∧ to2 = to2z ∧ tc2 = tc2z ∧ tf2 = tf2z) := det_tStep h.2 h2.2
  refine ⟨q.1, fun z => ?_⟩
  obtain ⟨rfl, rfl, rfl, rfl, rfl, rfl, rfl, rfl, rfl, rfl⟩ := q.2 z
  have e : be2 = be2z := h.1.trans h2.1.symm
  subst e
  rfl
theorem trun_det : ∀ (k k2 : Nat) (S : TS) (f p : Int) (e : TS) (f2 p2 : Int) (e2 : TS), TRUN tx n rc rn rs cc k S f p e → TRUN tx n rc rn rs cc k2 S f2 p2 e2 → f = f2 ∧ (¬ f = 0 → p = p2) ∧ (f = 0 → e = e2) := by
  intro k
  induction k with
  | zero => intro k2 S f p e f2 p2 e2 h _; exact h.elim
  | succ k ih =>
    intro k2 S f p e f2 p2 e2 h h2
    cases k2 with
    | zero => exact h2.elim
    | succ k2 =>
      obtain ⟨r, X, z1, z2⟩ := h
      obtain ⟨r2, X2, y1, y2⟩ := h2
      have q := tst_det z1 y1
      have q1 := q.1
      rcases z2 with ⟨a, b, c⟩ | ⟨a, b, c, d⟩ | ⟨a, b, c⟩
      · rcases y2 with ⟨a2, b2, c2⟩ | ⟨a2, b2, c2, d2⟩ | ⟨a2, b2, c2⟩
        · exact ⟨by omega, fun _ => c.trans c2.symm, fun z => absurd z (by omega)⟩
        · exfalso; omega
        · exfalso; omega
      · have e9 := q.2 a
        rcases y2 with ⟨a2, b2, c2⟩ | ⟨a2, b2, c2, d2⟩ | ⟨a2, b2, c2⟩
        · exfalso; omega
        · exact ⟨by omega, fun z => absurd c z, fun _ => d.trans (e9.trans d2.symm)⟩
        · exact absurd (by rw [← e9]; exact b) b2
      · have e9 := q.2 a
        rcases y2 with ⟨a2, b2, c2⟩ | ⟨a2, b2, c2, d2⟩ | ⟨a2, b2, c2⟩
        · exfalso; omega
        · exact absurd (by rw [e9]; exact b2) b
        · subst e9
          exact ih k2 X f p e f2 p2 e2 c c2
theorem tres_det {f p f2 p2 : Int} {e e2 : TS} (h : TRES tx n rc rn rs cc S f p e) (h2 : TRES tx n rc rn rs cc S f2 p2 e2) : f = f2 ∧ (¬ f = 0 → p = p2) ∧ (f = 0 → e = e2) := by
  obtain ⟨k, h⟩ := h
  obtain ⟨k2, h2⟩ := h2
  exact trun_det k k2 S f p e f2 p2 e2 h h2
theorem tst_cg {tx2 : Int → Int} (h : ∀ j : Int, j < n → tx j = tx2 j) (S : TS) (r : Int) (S2 : TS) : TSTEP tx n rc rn rs cc S r S2 = TSTEP tx2 n rc rn rs cc S r S2 := by
  have e1 : kRun isBl tx n = kRun isBl tx2 n := funext fun a => kRun_cg h _ a rfl
  have e2 : kBA tx n = kBA tx2 n := funext fun a => kBA_cg h
  have e3 : kKA tx n = kKA tx2 n := funext fun a => kKA_cg h
  have e4 : kCv tx n = kCv tx2 n := funext fun a => funext fun v => kCv_cg h _ a v rfl
  have e5 : kDv tx n = kDv tx2 n := funext fun a => funext fun v => kDv_cg h _ a v rfl
  unfold TSTEP TSTEPf
  rw [e1, e2, e3, e4, e5]
theorem trun_cg {tx2 : Int → Int} (h : ∀ j : Int, j < n → tx j = tx2 j) : ∀ (k : Nat) (S : TS) (f p : Int) (e : TS), TRUN tx n rc rn rs cc k S f p e → TRUN tx2 n rc rn rs cc k S f p e := by
  have e1 : kRun isBl tx n = kRun isBl tx2 n := funext fun a => kRun_cg h _ a rfl
  intro k
  induction k with
  | zero => intro S f p e z; exact z
  | succ k ih =>
    intro S f p e z
    obtain ⟨r, X, z1, z2⟩ := z
    refine ⟨r, X, by rw [← tst_cg h]; exact z1, ?_⟩
    rcases z2 with z2 | z2 | z2
    · exact Or.inl ⟨z2.1, z2.2.1, by rw [← e1]; exact z2.2.2⟩
    · exact Or.inr (Or.inl z2)
    · exact Or.inr (Or.inr ⟨z2.1, z2.2.1, ih X f p e z2.2.2⟩)
theorem tres_cg {tx2 : Int → Int} (h : ∀ j : Int, j < n → tx j = tx2 j) {f p : Int} {e : TS} (z : TRES tx n rc rn rs cc S f p e) : TRES tx2 n rc rn rs cc S f p e := by
  obtain ⟨k, z⟩ := z
  exact ⟨k, trun_cg h k S f p e z⟩
/-! the class's loop -/
def TDI (tx : Int → Int) (n rc : Int) (rn rs cc : Int → Int) (S0 : TS) (f i at_ st he de sz be : Int) (tr ta tp to tc tf : Int → Int) : Prop := (f = 0 ∧ ¬ st = 5 ∧ i ≤ be ∧ TCHN tx n rc rn rs cc S0 (st, he, de, sz, be, tr, ta, tp, to, tc, tf)) ∨ (f = 0 ∧ st = 5 ∧ ∀ p : Int, TRES tx n rc rn rs cc S0 0 p (st, he, de, sz, be, tr, ta, tp, to, tc, tf)) ∨ (¬ f = 0 ∧ TRF tx n rc rn rs cc S0 f at_)
theorem tdi_0 {he a : Int} {tr ta tp to tc tf : Int → Int} : TDI tx n rc rn rs cc (0, he, 0, 0, 0, tr, ta, tp, to, tc, tf) 0 0 a 0 he 0 0 0 tr ta tp to tc tf := Or.inl ⟨rfl, by decide, Int.le_refl 0, tchn_rf _⟩
theorem tdi_s {i a st he de sz be kd nm nu r st2 he2 de2 sz2 tok : Int} {tr ta tp to tc tf tr2 ta2 tp2 to2 tc2 tf2 : Int → Int} (h : TDI tx n rc rn rs cc S0 0 i a st he de sz be tr ta tp to tc tf) (h5 : ¬ st = 5) (htok : tok = kRun isBl tx n be) (hz : tStep kd nm nu rc rn rs cc st he de sz tr ta tp to tc tf r st2 he2 de2 sz2 tr2 ta2 tp2 to2 tc2 tf2) (hk : kd = kKA tx n tok) (hnm : kKA tx n tok = 1 → nm = kCv tx n tok 0) (hnu : kKA tx n tok = 2 → nu = kDv tx n tok 0) (hbe : 0 ≤ be ∧ be ≤ n) : TDI tx n rc rn rs cc S0 r (i + 1) tok st2 he2 de2 sz2 (kBA tx n tok) tr2 ta2 tp2 to2 tc2 tf2 := by
  subst htok hk
  rcases h with ⟨_, _, hi, hc⟩ | ⟨_, q, _⟩ | ⟨q, _⟩
  · have hz2 := tStep_nm hz hnm hnu
    have hT : TSTEP tx n rc rn rs cc (st, he, de, sz, be, tr, ta, tp, to, tc, tf) r (st2, he2, de2, sz2, kBA tx n (kRun isBl tx n be), tr2, ta2, tp2, to2, tc2, tf2) := ⟨rfl, hz2⟩
    by_cases q : r = 0
    · subst q
      by_cases q5 : st2 = 5
      · exact Or.inr (Or.inl ⟨rfl, q5, fun p => hc _ _ _ (tres_end hT q5 p)⟩)
      · refine Or.inl ⟨rfl, q5, ?_, tchn_tr hc (tchn_st hT q5)⟩
        have g := kRun_in (pq := isBl) (tx := tx) (n := n) (a := be) hbe.2
        have g2 := kBA_rng (tx := tx) (n := n) (a := (kRun isBl tx n be)) g.2
        have g3 : (kRun isBl tx n be) < n := by
          rcases Int.lt_or_le (kRun isBl tx n be) n with y | y
          · exact y
          · have y2 := (kA_end (tx := tx) y).1
            rw [y2] at hz2
            exact absurd (tStep_end hz2) q5
        omega
    · exact Or.inr (Or.inr ⟨q, fun e => hc _ _ _ (tres_bad hT q e)⟩)
  · exact absurd q h5
  · exact absurd rfl q
theorem tdi_out {f i a st he de sz be : Int} {tr ta tp to tc tf : Int → Int} (h : TDI tx n rc rn rs cc S0 f i a st he de sz be tr ta tp to tc tf) (hb : be ≤ n) (hx : ¬ f = 0 ∨ st = 5 ∨ n < i) : ∃ e : TS, TRES tx n rc rn rs cc S0 f a e ∧ (f = 0 → e = (st, he, de, sz, be, tr, ta, tp, to, tc, tf)) := by
  rcases h with ⟨h0, h5, hi, _⟩ | ⟨h0, h5, h⟩ | ⟨h0, h⟩
  · exfalso
    omega
  · exact ⟨_, by rw [h0]; exact h a, fun _ => rfl⟩
  · exact ⟨(st, he, de, sz, be, tr, ta, tp, to, tc, tf), h _, fun z => absurd z h0⟩
/-! the reference's reading of a TREE, TOKEN by TOKEN -/
def GRL (rc : Int) (rn rs cc mrn mrs mcc : Int → Int) : Prop := (0 ≤ rc ∧ rc ≤ 30) ∧ (∀ r : Int, 0 ≤ r ∧ r < rc → NMR (rn r) (mrn r) ∧ cc r = mcc r ∧ (0 ≤ mcc r ∧ mcc r ≤ 3)) ∧ (∀ j k : Int, 0 ≤ j ∧ j < rc → 0 ≤ k ∧ k < rc → mrn j = mrn k → j = k) ∧ ∀ r k : Int, 0 ≤ r ∧ r < rc → 0 ≤ k ∧ k ≤ mcc r → rs (4 * r + k) = mrs (4 * r + k)
theorem grl_trl {sc : Int} {sn ac ic an ih cs msn mac man mih mrn mcc mrs mef : Int → Int} (h : TRL rc sc rc sn ac ic an ih rn rs cc cs msn mac man mih mrn mcc mrs mef) : GRL rc rn rs cc mrn mrs mcc := by
  obtain ⟨⟨_, b⟩, _, _, _, _, _, q6, q7, q8, _⟩ := h
  exact ⟨b, q6, q7, fun r k hr hk => (q8 r k hr hk (fun _ => hr.2)).1⟩
def TCOR (N : Int) (tr ta tp to tc tf zr za zp zo zm zc : Int → Int) : Prop := ∀ k : Int, 0 ≤ k ∧ k < N → (tr k = zr k ∧ ta k = za k ∧ tp k = zp k ∧ to k = zo k ∧ tf k = zm k) ∧ (0 ≤ zm k ∧ zm k ≤ 3) ∧ ∀ c : Int, 1 ≤ c ∧ c ≤ zm k → tc (3 * k + c - 1) = zc (4 * k + c)
/-- where a node can begin -/
def TBg (tx : Int → Int) (n rc : Int) (rn rs cc : Int → Int) (S0 : TS) (tok a dp N : Int) (zr za zp zo zm zc : Int → Int) : Prop := ∃ (st be : Int) (tr ta tp to tc tf : Int → Int), ((st = 0 ∧ a = -1) ∨ ((st = 2 ∧ ¬ kKA tx n tok = 2 ∨ st = 3) ∧ (0 ≤ a ∧ a < N) ∧ ¬ cc (tr a) ≤ tf a)) ∧ TCHN tx n rc rn rs cc S0 (st, a, dp, N, be, tr, ta, tp, to, tc, tf) ∧ (0 ≤ be ∧ be ≤ n) ∧ tok = kRun isBl tx n be ∧ TCOR N tr ta tp to tc tf zr za zp zo zm zc
/-- behind its ( -/
def TOp (tx : Int → Int) (n rc : Int) (rn rs cc : Int → Int) (S0 : TS) (tok a dp N : Int) (zr za zp zo zm zc : Int → Int) : Prop := ∃ (be : Int) (tr ta tp to tc tf ta2 tp2 to2 tc2 tf2 : Int → Int), (a = -1 ∨ (0 ≤ a ∧ a < N)) ∧ tOpen N dp a ta tp to tc tf 0 1 N (dp + 1) (N + 1) ta2 tp2 to2 tc2 tf2 ∧ TCHN tx n rc rn rs cc S0 (1, N, dp + 1, N + 1, be, tr, ta2, tp2, to2, tc2, tf2) ∧ (0 ≤ be ∧ be ≤ n) ∧ tok = kRun isBl tx n be ∧ TCOR N tr ta tp to tc tf zr za zp zo zm zc
/-- behind its name -/
def TNm (tx : Int → Int) (n rc : Int) (rn rs cc : Int → Int) (S0 : TS) (tok nd dp N : Int) (zr za zp zo zm zc : Int → Int) : Prop := ∃ (be : Int) (tr ta tp to tc tf : Int → Int), TCHN tx n rc rn rs cc S0 (2, nd, dp, N, be, tr, ta, tp, to, tc, tf) ∧ (0 ≤ be ∧ be ≤ n) ∧ tok = kRun isBl tx n be ∧ TCOR N tr ta tp to tc tf zr za zp zo zm zc
/-- between nodes -/
def THd (tx : Int → Int) (n rc : Int) (rn rs cc : Int → Int) (S0 : TS) (tok nd dp N : Int) (zr za zp zo zm zc : Int → Int) : Prop := ∃ (st be : Int) (tr ta tp to tc tf : Int → Int), ((0 ≤ nd ∧ (st = 2 ∧ ¬ kKA tx n tok = 2 ∨ st = 3)) ∨ (nd = -1 ∧ st = 4)) ∧ TCHN tx n rc rn rs cc S0 (st, nd, dp, N, be, tr, ta, tp, to, tc, tf) ∧ (0 ≤ be ∧ be ≤ n) ∧ tok = kRun isBl tx n be ∧ TCOR N tr ta tp to tc tf zr za zp zo zm zc
def TFin (tx : Int → Int) (n rc : Int) (rn rs cc : Int → Int) (S0 : TS) (N : Int) (zr za zp zo zm zc : Int → Int) : Prop := ∃ (he de be : Int) (tr ta tp to tc tf : Int → Int), (∀ p : Int, TRES tx n rc rn rs cc S0 0 p (5, he, de, N, be, tr, ta, tp, to, tc, tf)) ∧ TCOR N tr ta tp to tc tf zr za zp zo zm zc
def TINI (S : TS) : Prop := ∃ (tr ta tp to tc tf : Int → Int), S = (0, -1, 0, 0, 0, tr, ta, tp, to, tc, tf)
theorem tini_mk {tr ta tp to tc tf : Int → Int} : TINI (0, -1, 0, 0, 0, tr, ta, tp, to, tc, tf) := ⟨tr, ta, tp, to, tc, tf, rfl⟩
theorem tst_bad {r st he de sz be st2 he2 de2 sz2 tok : Int} {tr ta tp to tc tf tr2 ta2 tp2 to2 tc2 tf2 : Int → Int} (hc : TCHN tx n rc rn rs cc S0 (st, he, de, sz, be, tr, ta, tp, to, tc, tf)) (htok : tok = kRun isBl tx n be) (hz : tStep (kKA tx n tok) (kCv tx n tok 0) (kDv tx n tok 0) rc rn rs cc st he de sz tr ta tp to tc tf r st2 he2 de2 sz2 tr2 ta2 tp2 to2 tc2 tf2) (hr : ¬ r = 0) : TRF tx n rc rn rs cc S0 r tok := by
  subst htok
  intro e
  have hT : TSTEP tx n rc rn rs cc (st, he, de, sz, be, tr, ta, tp, to, tc, tf) r (st2, he2, de2, sz2, kBA tx n (kRun isBl tx n be), tr2, ta2, tp2, to2, tc2, tf2) := ⟨rfl, hz⟩
  exact hc _ _ _ (tres_bad hT hr e)
theorem tst_ok {st he de sz be st2 he2 de2 sz2 tok : Int} {tr ta tp to tc tf tr2 ta2 tp2 to2 tc2 tf2 : Int → Int} (hc : TCHN tx n rc rn rs cc S0 (st, he, de, sz, be, tr, ta, tp, to, tc, tf)) (htok : tok = kRun isBl tx n be) (hbe : 0 ≤ be ∧ be ≤ n) (hz : tStep (kKA tx n tok) (kCv tx n tok 0) (kDv tx n tok 0) rc rn rs cc st he de sz tr ta tp to tc tf 0 st2 he2 de2 sz2 tr2 ta2 tp2 to2 tc2 tf2) (h5 : ¬ st2 = 5) : TCHN tx n rc rn rs cc S0 (st2, he2, de2, sz2, kBA tx n tok, tr2, ta2, tp2, to2, tc2, tf2) ∧ (0 ≤ kBA tx n tok ∧ kBA tx n tok ≤ n) := by
  subst htok
  have hT : TSTEP tx n rc rn rs cc (st, he, de, sz, be, tr, ta, tp, to, tc, tf) 0 (st2, he2, de2, sz2, kBA tx n (kRun isBl tx n be), tr2, ta2, tp2, to2, tc2, tf2) := ⟨rfl, hz⟩
  have g := kRun_in (pq := isBl) (tx := tx) (n := n) (a := be) hbe.2
  have g2 := kBA_rng (tx := tx) (n := n) (a := (kRun isBl tx n be)) g.2
  exact ⟨tchn_tr hc (tchn_st hT h5), by omega, g2.2.1⟩
variable {tok a dp N rl s : Int} {zr za zp zo zm zc mrn mrs mcc : Int → Int}
theorem tbg_0 (h : TINI S0) (hn : 0 ≤ n) : TBg tx n rc rn rs cc S0 (kRun isBl tx n 0) (-1) 0 0 zr za zp zo zm zc := by
  obtain ⟨tr, ta, tp, to, tc, tf, rfl⟩ := h
  exact ⟨0, 0, tr, ta, tp, to, tc, tf, Or.inl ⟨rfl, rfl⟩, tchn_rf _, ⟨by omega, hn⟩, rfl, by intro k hk; exact absurd hk (by omega)⟩
/-- the step that opens a node -/
theorem tbg_step (h : TBg tx n rc rn rs cc S0 tok a dp N zr za zp zo zm zc) : ∃ (st be : Int) (tr ta tp to tc tf : Int → Int), (a = -1 ∨ (0 ≤ a ∧ a < N)) ∧ TCHN tx n rc rn rs cc S0 (st, a, dp, N, be, tr, ta, tp, to, tc, tf) ∧ (0 ≤ be ∧ be ≤ n) ∧ tok = kRun isBl tx n be ∧ TCOR N tr ta tp to tc tf zr za zp zo zm zc ∧ (∀ (r st2 he2 de2 sz2 : Int) (ta2 tp2 to2 tc2 tf2 : Int → Int), kKA tx n tok = 40 → tOpen N dp a ta tp to tc tf r st2 he2 de2 sz2 ta2 tp2 to2 tc2 tf2 → tStep (kKA tx n tok) (kCv tx n tok 0) (kDv tx n tok 0) rc rn rs cc st a dp N tr ta tp to tc tf r st2 he2 de2 sz2 tr ta2 tp2 to2 tc2 tf2) ∧ (¬ kKA tx n tok = 40 → tStep (kKA tx n tok) (kCv tx n tok 0) (kDv tx n tok 0) rc rn rs cc st a dp N tr ta tp to tc tf 1 st a dp N tr ta tp to tc tf) := by
  obtain ⟨st, be, tr, ta, tp, to, tc, tf, hq, hc, hb, ht, hC⟩ := h
  rcases hq with ⟨h1, h2⟩ | ⟨h1, h2, h3⟩
  · exact ⟨st, be, tr, ta, tp, to, tc, tf, Or.inl h2, hc, hb, ht, hC, fun r st2 he2 de2 sz2 ta2 tp2 to2 tc2 tf2 hk ho => Or.inl ⟨h1, rfl, Or.inr ⟨hk, ho⟩⟩, fun hk => Or.inl ⟨h1, rfl, Or.inl ⟨rfl, hk⟩⟩⟩
  · have h4 : st = 3 ∨ (st = 2 ∧ ¬ kKA tx n tok = 2) := by omega
    exact ⟨st, be, tr, ta, tp, to, tc, tf, Or.inr h2, hc, hb, ht, hC, fun r st2 he2 de2 sz2 ta2 tp2 to2 tc2 tf2 hk ho => Or.inr (Or.inr (Or.inr (Or.inl ⟨h4, rfl, Or.inr (Or.inl ⟨hk, h3, ho⟩)⟩))), fun hk => Or.inr (Or.inr (Or.inr (Or.inl ⟨h4, rfl, Or.inr (Or.inr (Or.inl ⟨rfl, hk, Or.inr h3⟩))⟩)))⟩
theorem tbg_stray (h : TBg tx n rc rn rs cc S0 tok a dp N zr za zp zo zm zc) (hs : ¬ (kMS tx n tok = 4 ∧ kMT tx n tok = 40)) : TRF tx n rc rn rs cc S0 1 tok := by
  obtain ⟨t1, t3, t0, tw, tsg, tn, td⟩ := tk_all tx n tok
  have k := tsg 40 (by decide)
  obtain ⟨st, be, tr, ta, tp, to, tc, tf, ha, hc, hb, ht, hC, h1, h2⟩ := tbg_step h
  exact tst_bad hc ht (h2 (fun z => hs (k.mpr z))) (by decide)
theorem tbg_bad (h : TBg tx n rc rn rs cc S0 tok a dp N zr za zp zo zm zc) (hs : kMS tx n tok = 4 ∧ kMT tx n tok = 40) (hf : 200 ≤ N ∨ 40 ≤ dp) : TRF tx n rc rn rs cc S0 4 tok := by
  obtain ⟨t1, t3, t0, tw, tsg, tn, td⟩ := tk_all tx n tok
  have k := (tsg 40 (by decide)).mp hs
  obtain ⟨st, be, tr, ta, tp, to, tc, tf, ha, hc, hb, ht, hC, h1, h2⟩ := tbg_step h
  exact tst_bad hc ht (h1 4 0 0 0 0 ta tp to tc tf k (Or.inl ⟨rfl, hf⟩)) (by decide)
theorem tbg_open (h : TBg tx n rc rn rs cc S0 tok a dp N zr za zp zo zm zc) (hs : kMS tx n tok = 4 ∧ kMT tx n tok = 40) (hN : N < 200) (hd : dp < 40) : TOp tx n rc rn rs cc S0 (nxT tx n tok) a dp N zr za zp zo zm zc := by
  obtain ⟨t1, t3, t0, tw, tsg, tn, td⟩ := tk_all tx n tok
  have k := (tsg 40 (by decide)).mp hs
  obtain ⟨st, be, tr, ta, tp, to, tc, tf, ha, hc, hb, ht, hC, h1, h2⟩ := tbg_step h
  obtain ⟨ta2, tp2, to2, tc2, tf2, ho⟩ : ∃ ta2 tp2 to2 tc2 tf2 : Int → Int, tOpen N dp a ta tp to tc tf 0 1 N (dp + 1) (N + 1) ta2 tp2 to2 tc2 tf2 := by
    by_cases q : a = -1
    · exact ⟨_, _, _, _, _, Or.inr ⟨rfl, hN, hd, rfl, rfl, rfl, rfl, rfl, rfl, Or.inl ⟨q, rfl, rfl, rfl⟩⟩⟩
    · exact ⟨_, _, _, _, _, Or.inr ⟨rfl, hN, hd, rfl, rfl, rfl, rfl, rfl, rfl, Or.inr ⟨q, rfl, rfl, rfl⟩⟩⟩
  have g := tst_ok hc ht hb (h1 0 1 N (dp + 1) (N + 1) ta2 tp2 to2 tc2 tf2 k ho) (by decide)
  exact ⟨kBA tx n tok, tr, ta, tp, to, tc, tf, ta2, tp2, to2, tc2, tf2, ha, ho, g.1, g.2, rfl, hC⟩
theorem top_bad (h : TOp tx n rc rn rs cc S0 tok a dp N zr za zp zo zm zc) (hs : ¬ kMS tx n tok = 1) : TRF tx n rc rn rs cc S0 1 tok := by
  obtain ⟨t1, t3, t0, tw, tsg, tn, td⟩ := tk_all tx n tok
  obtain ⟨be, tr, ta, tp, to, tc, tf, ta2, tp2, to2, tc2, tf2, ha, ho, hc, hb, ht, hC⟩ := h
  exact tst_bad (st2 := 0) (tr2 := tr) hc ht (Or.inr (Or.inl ⟨rfl, ⟨rfl, rfl, rfl, rfl, rfl, rfl, rfl, rfl⟩, Or.inl ⟨rfl, by omega⟩⟩)) (by decide)
/-- the symbol that is due -/
theorem top_due {tr ta tp to tc tf ta2 tp2 to2 tc2 tf2 : Int → Int} (hN : 0 ≤ N) (ho : tOpen N dp a ta tp to tc tf 0 1 N (dp + 1) (N + 1) ta2 tp2 to2 tc2 tf2) (ha : a = -1 ∨ (0 ≤ a ∧ a < N)) : kDue rs tr ta2 tp2 N = if a = -1 then 0 else rs (4 * tr a + (tf a + 1)) := by
  rcases ho with ⟨x, _⟩ | ⟨_, _, _, _, _, _, _, rfl, _, ⟨h1, rfl, _⟩ | ⟨h1, rfl, _⟩⟩
  · exact absurd x (by decide)
  · unfold kDue
    rw [if_pos (show zU ta N a N = -1 by rw [zU_s]; exact h1), if_pos h1]
  · unfold kDue
    rw [if_neg (show ¬ zU ta N a N = -1 by rw [zU_s]; exact h1), if_neg h1, zU_s, zU_s, zU_n (show ¬ a = N by omega)]
theorem top_find (hG : GRL rc rn rs cc mrn mrs mcc) (hs : kMS tx n tok = 1) : kFnd rn rc (kCv tx n tok 0) 0 = kLst mrn rc (kMT tx n tok) := by
  obtain ⟨t1, t3, t0, tw, tsg, tn, td⟩ := tk_all tx n tok
  exact fnd_lst hG.1.1 (fun j hj => (hG.2.1 j hj).1) hG.2.2.1 (tn hs)
theorem grl_0 (hG : GRL rc rn rs cc mrn mrs mcc) (hr : 0 ≤ rl ∧ rl < rc) : rs (4 * rl + 0) = mrs (4 * rl) := by
  have z := hG.2.2.2 rl 0 hr (by have y := (hG.2.1 rl hr).2.2; omega)
  rw [z, show 4 * rl + 0 = 4 * rl by omega]
/-- what is due, in the reference's tables -/
def kDu (mrs zr zm : Int → Int) (a : Int) : Int := if a = -1 then 0 else mrs (4 * zr a + zm a + 1)
theorem top_du {tr ta tp to tc tf ta2 tp2 to2 tc2 tf2 : Int → Int} (hG : GRL rc rn rs cc mrn mrs mcc) (hN : 0 ≤ N) (ho : tOpen N dp a ta tp to tc tf 0 1 N (dp + 1) (N + 1) ta2 tp2 to2 tc2 tf2) (ha : a = -1 ∨ (0 ≤ a ∧ a < N)) (hC : TCOR N tr ta tp to tc tf zr za zp zo zm zc) (hz : 0 ≤ a → (0 ≤ zr a ∧ zr a < rc) ∧ zm a < mcc (zr a)) : kDue rs tr ta2 tp2 N = kDu mrs zr zm a := by
  rw [top_due hN ho ha]
  unfold kDu
  by_cases q : a = -1
  · rw [if_pos q, if_pos q]
  · rw [if_neg q, if_neg q]
    have c := hC a (by omega)
    have c2 := c.2.1
    have z := hz (by omega)
    rw [c.1.1, c.1.2.2.2.2, hG.2.2.2 (zr a) (zm a + 1) z.1 (by omega), show 4 * zr a + (zm a + 1) = 4 * zr a + zm a + 1 by omega]
theorem top_bad3 (h : TOp tx n rc rn rs cc S0 tok a dp N zr za zp zo zm zc) (hG : GRL rc rn rs cc mrn mrs mcc) (hN : 0 ≤ N) (hs : kMS tx n tok = 1) (hrl : rl = kLst mrn rc (kMT tx n tok)) (hz : 0 ≤ a → (0 ≤ zr a ∧ zr a < rc) ∧ zm a < mcc (zr a)) (hb : rl < 0 ∨ ¬ mrs (4 * rl) = kDu mrs zr zm a) : TRF tx n rc rn rs cc S0 3 tok := by
  have hf := top_find (cc := cc) (rs := rs) hG hs
  obtain ⟨t1, t3, t0, tw, tsg, tn, td⟩ := tk_all tx n tok
  have k := t1.mp hs
  obtain ⟨be, tr, ta, tp, to, tc, tf, ta2, tp2, to2, tc2, tf2, ha, ho, hc, hbe, ht, hC⟩ := h
  have hd := top_du hG hN ho ha hC hz
  rw [← hrl] at hf
  have hr := kFnd_rng rn rc (kCv tx n tok 0) 0
  rw [hf] at hr
  by_cases q : rl = -1
  · exact tst_bad (tr2 := tr) (st2 := 0) hc ht (Or.inr (Or.inl ⟨rfl, ⟨rfl, rfl, rfl, rfl, rfl, rfl, rfl, rfl⟩, Or.inr (Or.inl ⟨rfl, k, by omega⟩)⟩)) (by decide)
  · have g := grl_0 hG (rl := rl) (by omega)
    refine tst_bad (tr2 := tr) (st2 := 0) hc ht (Or.inr (Or.inl ⟨rfl, ⟨rfl, rfl, rfl, rfl, rfl, rfl, rfl, rfl⟩, Or.inr (Or.inr (Or.inl ⟨rfl, k, by omega, ?_⟩))⟩)) (by decide)
    rw [hf, hd, g]
    omega
theorem top_okR (h : TOp tx n rc rn rs cc S0 tok (-1) dp N zr za zp zo zm zc) (hG : GRL rc rn rs cc mrn mrs mcc) (hN : 0 ≤ N) (hs : kMS tx n tok = 1) (hrl : rl = kLst mrn rc (kMT tx n tok)) (h0 : 0 ≤ rl) (hb : mrs (4 * rl) = 0) : TNm tx n rc rn rs cc S0 (nxT tx n tok) N (dp + 1) (N + 1) (zU zr N rl) (zU za N (-1)) (zU zp N 0) (zU zo N 0) (zU zm N 0) zc := by
  have hf := top_find (cc := cc) (rs := rs) hG hs
  obtain ⟨t1, t3, t0, tw, tsg, tn, td⟩ := tk_all tx n tok
  have k := t1.mp hs
  obtain ⟨be, tr, ta, tp, to, tc, tf, ta2, tp2, to2, tc2, tf2, ha, ho, hc, hbe, ht, hC⟩ := h
  have hd := top_du hG hN ho ha hC (fun z => absurd z (by decide))
  unfold kDu at hd
  rw [if_pos rfl] at hd
  rw [← hrl] at hf
  have hr := kFnd_rng rn rc (kCv tx n tok 0) 0
  rw [hf] at hr
  have g := grl_0 hG (rl := rl) (by omega)
  have g2 := tst_ok hc ht hbe (st2 := 2) (tr2 := zU tr N rl) (Or.inr (Or.inl ⟨rfl, ⟨rfl, rfl, rfl, rfl, rfl, rfl, rfl, rfl⟩, Or.inr (Or.inr (Or.inr ⟨rfl, k, by omega, by rw [hf, hd, g]; exact hb, rfl, by rw [hf]⟩))⟩)) (by decide)
  refine ⟨kBA tx n tok, _, _, _, _, _, _, g2.1, g2.2, rfl, ?_⟩
  rcases ho with ⟨x, _⟩ | ⟨_, _, _, _, _, _, _, rfl, rfl, ⟨h1, rfl, rfl, rfl⟩ | ⟨h1, _⟩⟩
  · exact absurd x (by decide)
  · intro j hj
    by_cases q : j = N
    · subst q
      rw [zU_s, zU_s, zU_s, zU_s, zU_s, zU_s, zU_s, zU_s, zU_s, zU_s]
      exact ⟨⟨rfl, rfl, rfl, rfl, rfl⟩, by omega, fun c hc => absurd hc (by omega)⟩
    · rw [zU_n q, zU_n q, zU_n q, zU_n q, zU_n q, zU_n q, zU_n q, zU_n q, zU_n q, zU_n q]
      exact hC j (by omega)
  · exact absurd rfl h1
theorem top_okC (h : TOp tx n rc rn rs cc S0 tok a dp N zr za zp zo zm zc) (hG : GRL rc rn rs cc mrn mrs mcc) (hN : 0 ≤ a ∧ a < N) (hs : kMS tx n tok = 1) (hrl : rl = kLst mrn rc (kMT tx n tok)) (hz : (0 ≤ zr a ∧ zr a < rc) ∧ zm a < mcc (zr a)) (h0 : 0 ≤ rl) (hb : mrs (4 * rl) = mrs (4 * zr a + zm a + 1)) : TNm tx n rc rn rs cc S0 (nxT tx n tok) N (dp + 1) (N + 1) (zU zr N rl) (zU za N a) (zU zp N (zm a + 1)) (zU zo N 0) (zU (zU zm N 0) a (zm a + 1)) (zU zc (4 * a + (zm a + 1)) N) := by
  have hf := top_find (cc := cc) (rs := rs) hG hs
  obtain ⟨t1, t3, t0, tw, tsg, tn, td⟩ := tk_all tx n tok
  have k := t1.mp hs
  obtain ⟨be, tr, ta, tp, to, tc, tf, ta2, tp2, to2, tc2, tf2, ha, ho, hc, hbe, ht, hC⟩ := h
  have hd := top_du hG (by omega) ho ha hC (fun _ => hz)
  unfold kDu at hd
  rw [if_neg (by omega)] at hd
  rw [← hrl] at hf
  have hr := kFnd_rng rn rc (kCv tx n tok 0) 0
  rw [hf] at hr
  have g := grl_0 hG (rl := rl) (by omega)
  have g2 := tst_ok hc ht hbe (st2 := 2) (tr2 := zU tr N rl) (Or.inr (Or.inl ⟨rfl, ⟨rfl, rfl, rfl, rfl, rfl, rfl, rfl, rfl⟩, Or.inr (Or.inr (Or.inr ⟨rfl, k, by omega, by rw [hf, hd, g]; exact hb, rfl, by rw [hf]⟩))⟩)) (by decide)
  refine ⟨kBA tx n tok, _, _, _, _, _, _, g2.1, g2.2, rfl, ?_⟩
  have ca := hC a hN
  have ca2 := ca.2.1
  have hm := (hG.2.1 (zr a) hz.1).2.2
  rcases ho with ⟨x, _⟩ | ⟨_, _, _, _, _, _, _, rfl, rfl, ⟨h1, _⟩ | ⟨h1, rfl, rfl, rfl⟩⟩
  · exact absurd x (by decide)
  · exfalso
    omega
  · have ea : zU tf N 0 a = zm a := (zU_n (show ¬ a = N by omega)).trans ca.1.2.2.2.2
    rw [ea]
    have mN : zU (zU zm N 0) a (zm a + 1) N = 0 := by rw [zU_n (by omega), zU_s]
    have ma : zU (zU zm N 0) a (zm a + 1) a = zm a + 1 := zU_s _ _ _
    have mk : ∀ k : Int, ¬ k = N → ¬ k = a → zU (zU zm N 0) a (zm a + 1) k = zm k := fun k h1 h2 => by rw [zU_n h2, zU_n h1]
    have fN : zU (zU tf N 0) a (zm a + 1) N = 0 := by rw [zU_n (by omega), zU_s]
    have fa : zU (zU tf N 0) a (zm a + 1) a = zm a + 1 := zU_s _ _ _
    have fk : ∀ k : Int, ¬ k = N → ¬ k = a → zU (zU tf N 0) a (zm a + 1) k = tf k := fun k h1 h2 => by rw [zU_n h2, zU_n h1]
    generalize zU (zU zm N 0) a (zm a + 1) = zm2 at mN ma mk ⊢
    generalize zU (zU tf N 0) a (zm a + 1) = tf2 at fN fa fk ⊢
    intro j hj
    by_cases q : j = N
    · subst q
      rw [mN, fN, zU_s, zU_s, zU_s, zU_s, zU_s, zU_s, zU_s, zU_s]
      exact ⟨⟨rfl, rfl, rfl, rfl, rfl⟩, by omega, fun c hc => absurd hc (by omega)⟩
    · have cj := hC j (by omega)
      have cj2 := cj.2.1
      rw [zU_n (f := tr) q, zU_n (f := zr) q, zU_n (f := ta) q, zU_n (f := za) q, zU_n (f := zU tp N 0) q, zU_n (f := tp) q, zU_n (f := zp) q, zU_n (f := to) q, zU_n (f := zo) q]
      by_cases q2 : j = a
      · subst q2
        rw [ma, fa]
        refine ⟨⟨cj.1.1, cj.1.2.1, cj.1.2.2.1, cj.1.2.2.2.1, rfl⟩, by omega, fun c hc => ?_⟩
        by_cases q3 : c = zm j + 1
        · subst q3
          rw [show 3 * j + (zm j + 1) - 1 = 3 * j + zm j by omega, zU_s, zU_s]
        · rw [zU_n (by omega), zU_n (by omega)]
          exact cj.2.2 c (by omega)
      · rw [mk j q q2, fk j q q2]
        refine ⟨cj.1, cj.2.1, fun c hc => ?_⟩
        rw [zU_n (by omega), zU_n (by omega)]
        exact cj.2.2 c hc
theorem tnm_bad {nd : Int} (h : TNm tx n rc rn rs cc S0 tok nd dp N zr za zp zo zm zc) (hs : kMS tx n tok = 3) (hb : 2147483647 < kMT tx n tok) : TRF tx n rc rn rs cc S0 5 tok := by
  obtain ⟨t1, t3, t0, tw, tsg, tn, td⟩ := tk_all tx n tok
  have k := t3.mp hs
  have v := td hs
  obtain ⟨be, tr, ta, tp, to, tc, tf, hc, hbe, ht, hC⟩ := h
  exact tst_bad (to2 := to) (st2 := 0) hc ht (Or.inr (Or.inr (Or.inl ⟨rfl, k, ⟨rfl, rfl, rfl, rfl, rfl, rfl, rfl, rfl⟩, Or.inl ⟨rfl, by omega⟩⟩))) (by decide)
theorem tnm_ok {nd : Int} (h : TNm tx n rc rn rs cc S0 tok nd dp N zr za zp zo zm zc) (hs : kMS tx n tok = 3) (hb : ¬ 2147483647 < kMT tx n tok) (hn : 0 ≤ nd ∧ nd < N) : THd tx n rc rn rs cc S0 (nxT tx n tok) nd dp N zr za zp (zU zo nd (kMT tx n tok)) zm zc := by
  obtain ⟨t1, t3, t0, tw, tsg, tn, td⟩ := tk_all tx n tok
  have k := t3.mp hs
  have v := td hs
  obtain ⟨be, tr, ta, tp, to, tc, tf, hc, hbe, ht, hC⟩ := h
  have g2 := tst_ok hc ht hbe (st2 := 3) (to2 := zU to nd (kMT tx n tok)) (Or.inr (Or.inr (Or.inl ⟨rfl, k, ⟨rfl, rfl, rfl, rfl, rfl, rfl, rfl, rfl⟩, Or.inr ⟨rfl, by omega, rfl, by rw [v]⟩⟩))) (by decide)
  refine ⟨3, kBA tx n tok, _, _, _, _, _, _, Or.inl ⟨hn.1, Or.inr rfl⟩, g2.1, g2.2, rfl, ?_⟩
  intro j hj
  have cj := hC j hj
  by_cases q : j = nd
  · subst q
    rw [zU_s, zU_s]
    exact ⟨⟨cj.1.1, cj.1.2.1, cj.1.2.2.1, rfl, cj.1.2.2.2.2⟩, cj.2⟩
  · rw [zU_n q, zU_n q]
    exact cj
theorem tnm_hd {nd : Int} (h : TNm tx n rc rn rs cc S0 tok nd dp N zr za zp zo zm zc) (hs : ¬ kMS tx n tok = 3) (hn : 0 ≤ nd) : THd tx n rc rn rs cc S0 tok nd dp N zr za zp zo zm zc := by
  obtain ⟨t1, t3, t0, tw, tsg, tn, td⟩ := tk_all tx n tok
  obtain ⟨be, tr, ta, tp, to, tc, tf, hc, hbe, ht, hC⟩ := h
  exact ⟨2, be, tr, ta, tp, to, tc, tf, Or.inl ⟨hn, Or.inl ⟨rfl, by omega⟩⟩, hc, hbe, ht, hC⟩
theorem thd_begin {nd : Int} (h : THd tx n rc rn rs cc S0 tok nd dp N zr za zp zo zm zc) (hG : GRL rc rn rs cc mrn mrs mcc) (hn : 0 ≤ nd ∧ nd < N) (hz : 0 ≤ zr nd ∧ zr nd < rc) (hl : zm nd < mcc (zr nd)) : TBg tx n rc rn rs cc S0 tok nd dp N zr za zp zo zm zc := by
  obtain ⟨st, be, tr, ta, tp, to, tc, tf, hst, hc, hbe, ht, hC⟩ := h
  have cn := hC nd hn
  have e := (hG.2.1 (zr nd) hz).2.1
  refine ⟨st, be, tr, ta, tp, to, tc, tf, Or.inr ⟨by omega, hn, ?_⟩, hc, hbe, ht, hC⟩
  rw [cn.1.1, cn.1.2.2.2.2, e]
  omega
/-- the step behind a node that is full -/
theorem thd_up {nd : Int} (h : THd tx n rc rn rs cc S0 tok nd dp N zr za zp zo zm zc) (hG : GRL rc rn rs cc mrn mrs mcc) (hn : 0 ≤ nd ∧ nd < N) (hz : 0 ≤ zr nd ∧ zr nd < rc) (hl : ¬ zm nd < mcc (zr nd)) (hs : kMS tx n tok = 4 ∧ kMT tx n tok = 41) (ha : -1 ≤ za nd) : THd tx n rc rn rs cc S0 (nxT tx n tok) (za nd) (dp - 1) N zr za zp zo zm zc := by
  obtain ⟨t1, t3, t0, tw, tsg, tn, td⟩ := tk_all tx n tok
  have k := (tsg 41 (by decide)).mp hs
  obtain ⟨st, be, tr, ta, tp, to, tc, tf, hst, hc, hbe, ht, hC⟩ := h
  have cn := hC nd hn
  have e := (hG.2.1 (zr nd) hz).2.1
  have e2 : cc (tr nd) ≤ tf nd := by
    rw [cn.1.1, cn.1.2.2.2.2, e]
    omega
  have e3 := cn.1.2.1
  have h4 : st = 3 ∨ (st = 2 ∧ ¬ kKA tx n tok = 2) := by omega
  by_cases q : za nd = -1
  · have g2 := tst_ok hc ht hbe (st2 := 4) (he2 := za nd) (de2 := dp - 1) (Or.inr (Or.inr (Or.inr (Or.inl ⟨h4, rfl, Or.inr (Or.inr (Or.inr ⟨rfl, k, e2, e3.symm, rfl, rfl, rfl, rfl, rfl, rfl, rfl, Or.inl ⟨by omega, rfl⟩⟩))⟩)))) (by decide)
    exact ⟨4, kBA tx n tok, _, _, _, _, _, _, Or.inr ⟨q, rfl⟩, g2.1, g2.2, rfl, hC⟩
  · have g2 := tst_ok hc ht hbe (st2 := 3) (he2 := za nd) (de2 := dp - 1) (Or.inr (Or.inr (Or.inr (Or.inl ⟨h4, rfl, Or.inr (Or.inr (Or.inr ⟨rfl, k, e2, e3.symm, rfl, rfl, rfl, rfl, rfl, rfl, rfl, Or.inr ⟨by omega, rfl⟩⟩))⟩)))) (by decide)
    exact ⟨3, kBA tx n tok, _, _, _, _, _, _, Or.inl ⟨by omega, Or.inr rfl⟩, g2.1, g2.2, rfl, hC⟩
theorem thd_upbad {nd : Int} (h : THd tx n rc rn rs cc S0 tok nd dp N zr za zp zo zm zc) (hG : GRL rc rn rs cc mrn mrs mcc) (hn : 0 ≤ nd ∧ nd < N) (hz : 0 ≤ zr nd ∧ zr nd < rc) (hl : ¬ zm nd < mcc (zr nd)) (hs : ¬ (kMS tx n tok = 4 ∧ kMT tx n tok = 41)) : TRF tx n rc rn rs cc S0 1 tok := by
  obtain ⟨t1, t3, t0, tw, tsg, tn, td⟩ := tk_all tx n tok
  have k : ¬ kKA tx n tok = 41 := fun z => hs ((tsg 41 (by decide)).mpr z)
  obtain ⟨st, be, tr, ta, tp, to, tc, tf, hst, hc, hbe, ht, hC⟩ := h
  have cn := hC nd hn
  have e := (hG.2.1 (zr nd) hz).2.1
  have e2 : cc (tr nd) ≤ tf nd := by
    rw [cn.1.1, cn.1.2.2.2.2, e]
    omega
  have h4 : st = 3 ∨ (st = 2 ∧ ¬ kKA tx n tok = 2) := by omega
  by_cases q : kKA tx n tok = 40
  · exact tst_bad (st2 := 0) (he2 := 0) (de2 := 0) (sz2 := 0) (ta2 := ta) (tp2 := tp) (to2 := to) (tc2 := tc) (tf2 := tf) hc ht (Or.inr (Or.inr (Or.inr (Or.inl ⟨h4, rfl, Or.inl ⟨rfl, q, e2⟩⟩)))) (by decide)
  · exact tst_bad (st2 := 0) (he2 := 0) (de2 := 0) (sz2 := 0) (ta2 := ta) (tp2 := tp) (to2 := to) (tc2 := tc) (tf2 := tf) hc ht (Or.inr (Or.inr (Or.inr (Or.inl ⟨h4, rfl, Or.inr (Or.inr (Or.inl ⟨rfl, q, Or.inl k⟩))⟩)))) (by decide)
theorem thd_end {nd : Int} (h : THd tx n rc rn rs cc S0 tok nd dp N zr za zp zo zm zc) (hn : nd < 0) (hs : kMS tx n tok = 0) : TFin tx n rc rn rs cc S0 N zr za zp zo zm zc := by
  obtain ⟨t1, t3, t0, tw, tsg, tn, td⟩ := tk_all tx n tok
  have k := t0.mp hs
  obtain ⟨st, be, tr, ta, tp, to, tc, tf, hst, hc, hbe, ht, hC⟩ := h
  have hz : tStep (kKA tx n tok) (kCv tx n tok 0) (kDv tx n tok 0) rc rn rs cc st nd dp N tr ta tp to tc tf 0 5 nd dp N tr ta tp to tc tf := Or.inr (Or.inr (Or.inr (Or.inr ⟨by omega, ⟨rfl, rfl, rfl, rfl, rfl, rfl, rfl, rfl, rfl⟩, Or.inl ⟨rfl, k, rfl⟩⟩)))
  subst ht
  have hT : TSTEP tx n rc rn rs cc (st, nd, dp, N, be, tr, ta, tp, to, tc, tf) 0 (5, nd, dp, N, kBA tx n (kRun isBl tx n be), tr, ta, tp, to, tc, tf) := ⟨rfl, hz⟩
  exact ⟨nd, dp, _, tr, ta, tp, to, tc, tf, fun p => hc _ _ _ (tres_end hT rfl p), hC⟩
theorem thd_endbad {nd : Int} (h : THd tx n rc rn rs cc S0 tok nd dp N zr za zp zo zm zc) (hn : nd < 0) (hs : ¬ kMS tx n tok = 0) : TRF tx n rc rn rs cc S0 1 tok := by
  obtain ⟨t1, t3, t0, tw, tsg, tn, td⟩ := tk_all tx n tok
  obtain ⟨st, be, tr, ta, tp, to, tc, tf, hst, hc, hbe, ht, hC⟩ := h
  exact tst_bad (st2 := st) hc ht (Or.inr (Or.inr (Or.inr (Or.inr ⟨by omega, ⟨rfl, rfl, rfl, rfl, rfl, rfl, rfl, rfl, rfl⟩, Or.inr ⟨rfl, by omega, rfl⟩⟩)))) (by decide)
theorem tfin_cg {tx2 : Int → Int} (h : ∀ j : Int, j < n → tx j = tx2 j) (z : TFin tx n rc rn rs cc S0 N zr za zp zo zm zc) : TFin tx2 n rc rn rs cc S0 N zr za zp zo zm zc := by
  obtain ⟨he, de, be, tr, ta, tp, to, tc, tf, y, hC⟩ := z
  exact ⟨he, de, be, tr, ta, tp, to, tc, tf, fun p => tres_cg h (y p), hC⟩
theorem trf_cg {tx2 : Int → Int} {f p : Int} (h : ∀ j : Int, j < n → tx j = tx2 j) (z : TRF tx n rc rn rs cc S0 f p) : TRF tx2 n rc rn rs cc S0 f p := fun e => tres_cg h (z e)
/-- the class's reading and the reference's of one text -/
theorem tfin_cls {f p : Int} {e : TS} (z : TFin tx n rc rn rs cc S0 N zr za zp zo zm zc) (h : TRES tx n rc rn rs cc S0 f p e) : f = 0 ∧ e.2.2.2.1 = N ∧ TCOR N e.2.2.2.2.2.1 e.2.2.2.2.2.2.1 e.2.2.2.2.2.2.2.1 e.2.2.2.2.2.2.2.2.1 e.2.2.2.2.2.2.2.2.2.1 e.2.2.2.2.2.2.2.2.2.2 zr za zp zo zm zc := by
  obtain ⟨he, de, be, tr, ta, tp, to, tc, tf, y, hC⟩ := z
  have g := tres_det h (y 0)
  have e1 := g.2.2 g.1
  subst e1
  exact ⟨g.1, rfl, hC⟩
theorem trf_cls {f p f2 p2 : Int} {e : TS} (z : TRF tx n rc rn rs cc S0 f2 p2) (h : TRES tx n rc rn rs cc S0 f p e) : f = f2 ∧ (¬ f = 0 → p = p2) := by
  have g := tres_det h (z (0, 0, 0, 0, 0, fun _ => 0, fun _ => 0, fun _ => 0, fun _ => 0, fun _ => 0, fun _ => 0))
  exact ⟨g.1, g.2.1⟩
end TRE
