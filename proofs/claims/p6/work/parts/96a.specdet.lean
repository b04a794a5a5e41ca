/-! the reading tells one thing alone -/
theorem det_oGoIf {kd : Int} {k : Int} {nx : Int} {st : Int} {r : Int} {st2 : Int} {rz : Int} {st2z : Int} (h : oGoIf kd k nx st r st2) (h2 : oGoIf kd k nx st rz st2z) : r = rz ∧ (r = 0 → st2 = st2z) := by
  unfold oGoIf at h h2
  rcases h with ⟨a1, a2, rfl⟩ | ⟨a3, a4, rfl⟩
  all_goals (rcases h2 with ⟨a1z, a2z, rfl⟩ | ⟨a3z, a4z, rfl⟩)
  all_goals first
    | (exfalso; omega)
    | (exfalso; contradiction)
    | exact ⟨by omega, fun z => absurd z (by omega)⟩
    | exact ⟨by omega, fun _ => rfl⟩

theorem det_oSymN {kd : Int} {nm : Int} {sc : Int} {sn : Int → Int} {ac : Int → Int} {ic : Int → Int} {st : Int} {r : Int} {st2 : Int} {sc2 : Int} {sn2 : Int → Int} {ac2 : Int → Int} {ic2 : Int → Int} {rz : Int} {st2z : Int} {sc2z : Int} {sn2z : Int → Int} {ac2z : Int → Int} {ic2z : Int → Int} (h : oSymN kd nm sc sn ac ic st r st2 sc2 sn2 ac2 ic2) (h2 : oSymN kd nm sc sn ac ic st rz st2z sc2z sn2z ac2z ic2z) : r = rz ∧ (r = 0 → st2 = st2z ∧ sc2 = sc2z ∧ sn2 = sn2z ∧ ac2 = ac2z ∧ ic2 = ic2z) := by
  unfold oSymN at h h2
  rcases h with ⟨(⟨a1, a2⟩ | ⟨a3, a4, a5⟩ | ⟨a6, a7, a8, a9⟩), rfl, rfl, rfl, rfl, rfl⟩ | ⟨a10, a11, a12, a13, rfl, rfl, rfl, rfl, rfl⟩
  all_goals (rcases h2 with ⟨(⟨a1z, a2z⟩ | ⟨a3z, a4z, a5z⟩ | ⟨a6z, a7z, a8z, a9z⟩), rfl, rfl, rfl, rfl, rfl⟩ | ⟨a10z, a11z, a12z, a13z, rfl, rfl, rfl, rfl, rfl⟩)
  all_goals first
    | (exfalso; omega)
    | (exfalso; contradiction)
    | exact ⟨by omega, fun z => absurd z (by omega)⟩
    | exact ⟨by omega, fun _ => ⟨rfl, rfl, rfl, rfl, rfl⟩⟩

theorem det_oSymB {kd : Int} {st : Int} {ri : Int} {r : Int} {st2 : Int} {ri2 : Int} {rz : Int} {st2z : Int} {ri2z : Int} (h : oSymB kd st ri r st2 ri2) (h2 : oSymB kd st ri rz st2z ri2z) : r = rz ∧ (r = 0 → st2 = st2z ∧ ri2 = ri2z) := by
  unfold oSymB at h h2
  rcases h with ⟨a1, a2, rfl, rfl⟩ | ⟨a3, a4, rfl, rfl⟩ | ⟨a5, a6, rfl, rfl⟩ | ⟨a7, a8, rfl, rfl⟩
  all_goals (rcases h2 with ⟨a1z, a2z, rfl, rfl⟩ | ⟨a3z, a4z, rfl, rfl⟩ | ⟨a5z, a6z, rfl, rfl⟩ | ⟨a7z, a8z, rfl, rfl⟩)
  all_goals first
    | (exfalso; omega)
    | (exfalso; contradiction)
    | exact ⟨by omega, fun z => absurd z (by omega)⟩
    | exact ⟨by omega, fun _ => ⟨rfl, rfl⟩⟩

theorem det_oAttN {kd : Int} {nm : Int} {sc : Int} {ri : Int} {ac : Int → Int} {ic : Int → Int} {an : Int → Int} {ih : Int → Int} {rk : Int → Int} {st : Int} {r : Int} {st2 : Int} {ac2 : Int → Int} {ic2 : Int → Int} {an2 : Int → Int} {ih2 : Int → Int} {rk2 : Int → Int} {rkz : Int → Int} {rz : Int} {st2z : Int} {ac2z : Int → Int} {ic2z : Int → Int} {an2z : Int → Int} {ih2z : Int → Int} {rk2z : Int → Int} (h : oAttN kd nm sc ri ac ic an ih rk st r st2 ac2 ic2 an2 ih2 rk2) (h2 : oAttN kd nm sc ri ac ic an ih rkz st rz st2z ac2z ic2z an2z ih2z rk2z) : r = rz ∧ (r = 0 → st2 = st2z ∧ ac2 = ac2z ∧ ic2 = ic2z ∧ an2 = an2z ∧ ih2 = ih2z) := by
  unfold oAttN at h h2
  rcases h with ⟨(⟨a1, a2⟩ | ⟨a3, a4, a5, a6⟩ | ⟨a7, a8, a9, a10, a11⟩), rfl, rfl, rfl, rfl, rfl, rfl⟩ | ⟨a12, a13, a14, a15, a16, rfl, rfl, rfl, rfl, rfl, rfl⟩
  all_goals (rcases h2 with ⟨(⟨a1z, a2z⟩ | ⟨a3z, a4z, a5z, a6z⟩ | ⟨a7z, a8z, a9z, a10z, a11z⟩), rfl, rfl, rfl, rfl, rfl, rfl⟩ | ⟨a12z, a13z, a14z, a15z, a16z, rfl, rfl, rfl, rfl, rfl, rfl⟩)
  all_goals first
    | (exfalso; omega)
    | (exfalso; contradiction)
    | exact ⟨by omega, fun z => absurd z (by omega)⟩
    | exact ⟨by omega, fun _ => ⟨rfl, rfl, rfl, rfl, rfl⟩⟩

theorem det_oRulN {kd : Int} {nm : Int} {rc : Int} {rn : Int → Int} {cc : Int → Int} {ec : Int → Int} {cs : Int → Int} {ce : Int → Int} {hgs : Int → Int} {st : Int} {r : Int} {st2 : Int} {rc2 : Int} {rn2 : Int → Int} {cc2 : Int → Int} {ec2 : Int → Int} {cs2 : Int → Int} {ce2 : Int → Int} {hgs2 : Int → Int} {ecz : Int → Int} {cez : Int → Int} {hgsz : Int → Int} {rz : Int} {st2z : Int} {rc2z : Int} {rn2z : Int → Int} {cc2z : Int → Int} {ec2z : Int → Int} {cs2z : Int → Int} {ce2z : Int → Int} {hgs2z : Int → Int} (h : oRulN kd nm rc rn cc ec cs ce hgs st r st2 rc2 rn2 cc2 ec2 cs2 ce2 hgs2) (h2 : oRulN kd nm rc rn cc ecz cs cez hgsz st rz st2z rc2z rn2z cc2z ec2z cs2z ce2z hgs2z) : r = rz ∧ (r = 0 → st2 = st2z ∧ rc2 = rc2z ∧ rn2 = rn2z ∧ cc2 = cc2z ∧ cs2 = cs2z) := by
  unfold oRulN at h h2
  rcases h with ⟨(⟨a1, a2⟩ | ⟨a3, a4, a5⟩ | ⟨a6, a7, a8, a9⟩), rfl, rfl, rfl, rfl, rfl, rfl, rfl, rfl⟩ | ⟨a10, a11, a12, a13, rfl, rfl, rfl, rfl, rfl, rfl, rfl, rfl⟩
  all_goals (rcases h2 with ⟨(⟨a1z, a2z⟩ | ⟨a3z, a4z, a5z⟩ | ⟨a6z, a7z, a8z, a9z⟩), rfl, rfl, rfl, rfl, rfl, rfl, rfl, rfl⟩ | ⟨a10z, a11z, a12z, a13z, rfl, rfl, rfl, rfl, rfl, rfl, rfl, rfl⟩)
  all_goals first
    | (exfalso; omega)
    | (exfalso; contradiction)
    | exact ⟨by omega, fun z => absurd z (by omega)⟩
    | exact ⟨by omega, fun _ => ⟨rfl, rfl, rfl, rfl, rfl⟩⟩

theorem det_oRulH {kd : Int} {nm : Int} {sc : Int} {ru : Int} {sn : Int → Int} {rs : Int → Int} {st : Int} {r : Int} {st2 : Int} {rs2 : Int → Int} {rz : Int} {st2z : Int} {rs2z : Int → Int} (h : oRulH kd nm sc ru sn rs st r st2 rs2) (h2 : oRulH kd nm sc ru sn rs st rz st2z rs2z) : r = rz ∧ (r = 0 → st2 = st2z ∧ rs2 = rs2z) := by
  unfold oRulH at h h2
  rcases h with ⟨(⟨a1, a2⟩ | ⟨a3, a4, a5⟩), rfl, rfl⟩ | ⟨a6, a7, a8, rfl, rfl⟩
  all_goals (rcases h2 with ⟨(⟨a1z, a2z⟩ | ⟨a3z, a4z, a5z⟩), rfl, rfl⟩ | ⟨a6z, a7z, a8z, rfl, rfl⟩)
  all_goals first
    | (exfalso; omega)
    | (exfalso; contradiction)
    | exact ⟨by omega, fun z => absurd z (by omega)⟩
    | exact ⟨by omega, fun _ => ⟨rfl, rfl⟩⟩

theorem det_oRulC {kd : Int} {nm : Int} {sc : Int} {ru : Int} {sn : Int → Int} {rs : Int → Int} {cc : Int → Int} {st : Int} {r : Int} {st2 : Int} {rs2 : Int → Int} {cc2 : Int → Int} {rz : Int} {st2z : Int} {rs2z : Int → Int} {cc2z : Int → Int} (h : oRulC kd nm sc ru sn rs cc st r st2 rs2 cc2) (h2 : oRulC kd nm sc ru sn rs cc st rz st2z rs2z cc2z) : r = rz ∧ (r = 0 → st2 = st2z ∧ rs2 = rs2z ∧ cc2 = cc2z) := by
  unfold oRulC at h h2
  rcases h with ⟨a1, a2, rfl, rfl, rfl⟩ | ⟨(⟨a3, a4, a5⟩ | ⟨a6, a7, a8⟩ | ⟨a9, a10, a11, a12⟩), rfl, rfl, rfl⟩ | ⟨a13, a14, a15, a16, rfl, rfl, rfl⟩
  all_goals (rcases h2 with ⟨a1z, a2z, rfl, rfl, rfl⟩ | ⟨(⟨a3z, a4z, a5z⟩ | ⟨a6z, a7z, a8z⟩ | ⟨a9z, a10z, a11z, a12z⟩), rfl, rfl, rfl⟩ | ⟨a13z, a14z, a15z, a16z, rfl, rfl, rfl⟩)
  all_goals first
    | (exfalso; omega)
    | (exfalso; contradiction)
    | exact ⟨by omega, fun z => absurd z (by omega)⟩
    | exact ⟨by omega, fun _ => ⟨rfl, rfl, rfl⟩⟩

theorem det_oRulB {kd : Int} {nu : Int} {ru : Int} {rs : Int → Int} {ac : Int → Int} {ih : Int → Int} {cs : Int → Int} {cc : Int → Int} {st : Int} {tp : Int} {r : Int} {st2 : Int} {tp2 : Int} {rz : Int} {st2z : Int} {tp2z : Int} (h : oRulB kd nu ru rs ac ih cs cc st tp r st2 tp2) (h2 : oRulB kd nu ru rs ac ih cs cc st tp rz st2z tp2z) : r = rz ∧ (r = 0 → st2 = st2z ∧ tp2 = tp2z) := by
  unfold oRulB at h h2
  rcases h with ⟨a1, a2, a3, rfl, rfl⟩ | ⟨a4, a5, a6, rfl, rfl⟩ | ⟨a7, a8, rfl, rfl⟩ | ⟨a9, a10, a11, rfl, rfl⟩ | ⟨a12, a13, a14, rfl, rfl⟩
  all_goals (rcases h2 with ⟨a1z, a2z, a3z, rfl, rfl⟩ | ⟨a4z, a5z, a6z, rfl, rfl⟩ | ⟨a7z, a8z, rfl, rfl⟩ | ⟨a9z, a10z, a11z, rfl, rfl⟩ | ⟨a12z, a13z, a14z, rfl, rfl⟩)
  all_goals first
    | (exfalso; omega)
    | (exfalso; contradiction)
    | exact ⟨by omega, fun z => absurd z (by omega)⟩
    | exact ⟨by omega, fun _ => ⟨rfl, rfl⟩⟩

theorem det_oBehR {kd : Int} {ic : Int → Int} {st : Int} {r : Int} {st2 : Int} {rz : Int} {st2z : Int} (h : oBehR kd ic st r st2) (h2 : oBehR kd ic st rz st2z) : r = rz ∧ (r = 0 → st2 = st2z) := by
  unfold oBehR at h h2
  rcases h with ⟨a1, a2, rfl⟩ | ⟨a3, a4, rfl⟩ | ⟨a5, a6, a7, rfl⟩ | ⟨a8, a9, a10, rfl⟩
  all_goals (rcases h2 with ⟨a1z, a2z, rfl⟩ | ⟨a3z, a4z, rfl⟩ | ⟨a5z, a6z, a7z, rfl⟩ | ⟨a8z, a9z, a10z, rfl⟩)
  all_goals first
    | (exfalso; omega)
    | (exfalso; contradiction)
    | exact ⟨by omega, fun z => absurd z (by omega)⟩
    | exact ⟨by omega, fun _ => rfl⟩

theorem det_oTarN {kd : Int} {nm : Int} {ru : Int} {tp : Int} {rs : Int → Int} {ac : Int → Int} {an : Int → Int} {ih : Int → Int} {cs : Int → Int} {st : Int} {ts : Int} {r : Int} {st2 : Int} {ts2 : Int} {rz : Int} {st2z : Int} {ts2z : Int} (h : oTarN kd nm ru tp rs ac an ih cs st ts r st2 ts2) (h2 : oTarN kd nm ru tp rs ac an ih cs st ts rz st2z ts2z) : r = rz ∧ (r = 0 → st2 = st2z ∧ ts2 = ts2z) := by
  unfold oTarN at h h2
  rcases h with ⟨(⟨a1, a2⟩ | ⟨a3, a4, a5⟩ | ⟨a6, a7, a8, a9⟩), rfl, rfl⟩ | ⟨a10, a11, a12, rfl, (⟨a13, a14, rfl⟩ | ⟨a15, a16, rfl⟩)⟩
  all_goals (rcases h2 with ⟨(⟨a1z, a2z⟩ | ⟨a3z, a4z, a5z⟩ | ⟨a6z, a7z, a8z, a9z⟩), rfl, rfl⟩ | ⟨a10z, a11z, a12z, rfl, (⟨a13z, a14z, rfl⟩ | ⟨a15z, a16z, rfl⟩)⟩)
  all_goals first
    | (exfalso; omega)
    | (exfalso; contradiction)
    | exact ⟨by omega, fun z => absurd z (by omega)⟩
    | exact ⟨by omega, fun _ => ⟨rfl, rfl⟩⟩

theorem det_oOpen {wh : Int} {tc : Int} {wt : Int → Int} {wc : Int} {r : Int} {st2 : Int} {tc2 : Int} {wt2 : Int → Int} {wc2 : Int} {rz : Int} {st2z : Int} {tc2z : Int} {wt2z : Int → Int} {wc2z : Int} (h : oOpen wh tc wt wc r st2 tc2 wt2 wc2) (h2 : oOpen wh tc wt wc rz st2z tc2z wt2z wc2z) : r = rz ∧ (r = 0 → st2 = st2z ∧ tc2 = tc2z ∧ wt2 = wt2z ∧ wc2 = wc2z) := by
  unfold oOpen at h h2
  rcases h with ⟨a1, (a2 | a3)⟩ | ⟨a4, a5, a6, rfl, rfl, rfl, rfl⟩
  all_goals (rcases h2 with ⟨a1z, (a2z | a3z)⟩ | ⟨a4z, a5z, a6z, rfl, rfl, rfl, rfl⟩)
  all_goals first
    | (exfalso; omega)
    | (exfalso; contradiction)
    | exact ⟨by omega, fun z => absurd z (by omega)⟩
    | exact ⟨by omega, fun _ => ⟨rfl, rfl, rfl, rfl⟩⟩

theorem det_oOccD {kd : Int} {tc : Int} {r : Int} {st2 : Int} {tc2 : Int} {rz : Int} {st2z : Int} {tc2z : Int} (h : oOccD kd tc r st2 tc2) (h2 : oOccD kd tc rz st2z tc2z) : r = rz ∧ (r = 0 → st2 = st2z ∧ tc2 = tc2z) := by
  unfold oOccD at h h2
  rcases h with ⟨a1, a2⟩ | ⟨a3, a4, a5⟩ | ⟨a6, a7, a8, rfl, rfl⟩
  all_goals (rcases h2 with ⟨a1z, a2z⟩ | ⟨a3z, a4z, a5z⟩ | ⟨a6z, a7z, a8z, rfl, rfl⟩)
  all_goals first
    | (exfalso; omega)
    | (exfalso; contradiction)
    | exact ⟨by omega, fun z => absurd z (by omega)⟩
    | exact ⟨by omega, fun _ => ⟨rfl, rfl⟩⟩

theorem det_rEmit {dv : Int} {tc : Int} {wt : Int → Int} {wc : Int} {r : Int} {st2 : Int} {tc2 : Int} {wc2 : Int} {rz : Int} {st2z : Int} {tc2z : Int} {wc2z : Int} (h : rEmit dv tc wt wc r st2 tc2 wc2) (h2 : rEmit dv tc wt wc rz st2z tc2z wc2z) : r = rz ∧ (r = 0 → st2 = st2z ∧ tc2 = tc2z ∧ wc2 = wc2z) := by
  unfold rEmit at h h2
  rcases h with ⟨a1, a2⟩ | ⟨a3, a4, a5⟩ | ⟨a6, a7, a8, rfl, rfl, rfl⟩
  all_goals (rcases h2 with ⟨a1z, a2z⟩ | ⟨a3z, a4z, a5z⟩ | ⟨a6z, a7z, a8z, rfl, rfl, rfl⟩)
  all_goals first
    | (exfalso; omega)
    | (exfalso; contradiction)
    | exact ⟨by omega, fun z => absurd z (by omega)⟩
    | exact ⟨by omega, fun _ => ⟨rfl, rfl, rfl⟩⟩

theorem det_rBin {b : Int} {kd : Int} {tc : Int} {wt : Int → Int} {wc : Int} {r : Int} {st2 : Int} {tc2 : Int} {wt2 : Int → Int} {wc2 : Int} {rz : Int} {st2z : Int} {tc2z : Int} {wt2z : Int → Int} {wc2z : Int} (h : rBin b kd tc wt wc r st2 tc2 wt2 wc2) (h2 : rBin b kd tc wt wc rz st2z tc2z wt2z wc2z) : r = rz ∧ (r = 0 → st2 = st2z ∧ tc2 = tc2z ∧ wt2 = wt2z ∧ wc2 = wc2z) := by
  unfold rBin at h h2
  rcases h with ⟨a1, a2⟩ | ⟨a3, a4, rfl, rfl, rfl, rfl⟩
  all_goals (rcases h2 with ⟨a1z, a2z⟩ | ⟨a3z, a4z, rfl, rfl, rfl, rfl⟩)
  all_goals first
    | (exfalso; omega)
    | (exfalso; contradiction)
    | exact ⟨by omega, fun z => absurd z (by omega)⟩
    | exact ⟨by omega, fun _ => ⟨rfl, rfl, rfl, rfl⟩⟩

theorem det_rCmp {kd : Int} {tc : Int} {wt : Int → Int} {wc : Int} {r : Int} {st2 : Int} {tc2 : Int} {wt2 : Int → Int} {wc2 : Int} {rz : Int} {st2z : Int} {tc2z : Int} {wt2z : Int → Int} {wc2z : Int} (h : rCmp kd tc wt wc r st2 tc2 wt2 wc2) (h2 : rCmp kd tc wt wc rz st2z tc2z wt2z wc2z) : r = rz ∧ (r = 0 → st2 = st2z ∧ tc2 = tc2z ∧ wt2 = wt2z ∧ wc2 = wc2z) := by
  unfold rCmp at h h2
  rcases h with ⟨a1, a2⟩ | ⟨a3, a4, a5⟩ | ⟨a6, a7, a8, rfl, rfl, rfl, rfl⟩
  all_goals (rcases h2 with ⟨a1z, a2z⟩ | ⟨a3z, a4z, a5z⟩ | ⟨a6z, a7z, a8z, rfl, rfl, rfl, rfl⟩)
  all_goals first
    | (exfalso; omega)
    | (exfalso; contradiction)
    | exact ⟨by omega, fun z => absurd z (by omega)⟩
    | exact ⟨by omega, fun _ => ⟨rfl, rfl, rfl, rfl⟩⟩

theorem det_rTurn {fr : Int} {to : Int} {tc : Int} {wt : Int → Int} {wc : Int} {r : Int} {st2 : Int} {tc2 : Int} {wt2 : Int → Int} {wc2 : Int} {rz : Int} {st2z : Int} {tc2z : Int} {wt2z : Int → Int} {wc2z : Int} (h : rTurn fr to tc wt wc r st2 tc2 wt2 wc2) (h2 : rTurn fr to tc wt wc rz st2z tc2z wt2z wc2z) : r = rz ∧ (r = 0 → st2 = st2z ∧ tc2 = tc2z ∧ wt2 = wt2z ∧ wc2 = wc2z) := by
  unfold rTurn at h h2
  rcases h with ⟨a1, a2⟩ | ⟨a3, a4, a5⟩ | ⟨a6, a7, a8, rfl, rfl, rfl, rfl⟩
  all_goals (rcases h2 with ⟨a1z, a2z⟩ | ⟨a3z, a4z, a5z⟩ | ⟨a6z, a7z, a8z, rfl, rfl, rfl, rfl⟩)
  all_goals first
    | (exfalso; omega)
    | (exfalso; contradiction)
    | exact ⟨by omega, fun z => absurd z (by omega)⟩
    | exact ⟨by omega, fun _ => ⟨rfl, rfl, rfl, rfl⟩⟩

theorem det_rClose {tc : Int} {wt : Int → Int} {wc : Int} {r : Int} {st2 : Int} {tc2 : Int} {wc2 : Int} {rz : Int} {st2z : Int} {tc2z : Int} {wc2z : Int} (h : rClose tc wt wc r st2 tc2 wc2) (h2 : rClose tc wt wc rz st2z tc2z wc2z) : r = rz ∧ (r = 0 → st2 = st2z ∧ tc2 = tc2z ∧ wc2 = wc2z) := by
  unfold rClose at h h2
  rcases h with ⟨a1, a2⟩ | ⟨a3, a4, a5⟩ | ⟨a6, a7, a8, rfl, rfl, rfl⟩
  all_goals (rcases h2 with ⟨a1z, a2z⟩ | ⟨a3z, a4z, a5z⟩ | ⟨a6z, a7z, a8z, rfl, rfl, rfl⟩)
  all_goals first
    | (exfalso; omega)
    | (exfalso; contradiction)
    | exact ⟨by omega, fun z => absurd z (by omega)⟩
    | exact ⟨by omega, fun _ => ⟨rfl, rfl, rfl⟩⟩

theorem det_rOpd {kd : Int} {dot : Prop} {nu : Int} {tc : Int} {cc : Int → Int} {ru : Int} {wt : Int → Int} {wc : Int} {xop : Int} {r : Int} {st2 : Int} {tc2 : Int} {xop2 : Int} {wt2 : Int → Int} {wc2 : Int} {rz : Int} {st2z : Int} {tc2z : Int} {xop2z : Int} {wt2z : Int → Int} {wc2z : Int} (h : rOpd kd dot nu tc cc ru wt wc xop r st2 tc2 xop2 wt2 wc2) (h2 : rOpd kd dot nu tc cc ru wt wc xop rz st2z tc2z xop2z wt2z wc2z) : r = rz ∧ (r = 0 → st2 = st2z ∧ tc2 = tc2z ∧ xop2 = xop2z ∧ wt2 = wt2z ∧ wc2 = wc2z) := by
  unfold rOpd at h h2
  rcases h with ⟨a1, a2, ⟨rfl, rfl⟩, (⟨a3, a4⟩ | ⟨a5, a6, a7⟩ | ⟨a8, a9, a10, rfl, rfl, rfl⟩)⟩ | ⟨a11, a12, ⟨rfl, rfl⟩, a13⟩ | ⟨a14, ⟨rfl, rfl⟩, a15⟩ | ⟨a16, rfl, a17⟩ | ⟨a18, rfl, a19⟩ | ⟨a20, a21, rfl, a22⟩ | ⟨a23, a24, a25⟩ | ⟨a26, a27⟩
  all_goals (rcases h2 with ⟨a1z, a2z, ⟨rfl, rfl⟩, (⟨a3z, a4z⟩ | ⟨a5z, a6z, a7z⟩ | ⟨a8z, a9z, a10z, rfl, rfl, rfl⟩)⟩ | ⟨a11z, a12z, ⟨rfl, rfl⟩, a13z⟩ | ⟨a14z, ⟨rfl, rfl⟩, a15z⟩ | ⟨a16z, rfl, a17z⟩ | ⟨a18z, rfl, a19z⟩ | ⟨a20z, a21z, rfl, a22z⟩ | ⟨a23z, a24z, a25z⟩ | ⟨a26z, a27z⟩)
  all_goals first
    | (exfalso; omega)
    | (exfalso; contradiction)
    | exact ⟨by omega, fun z => absurd z (by omega)⟩
    | exact ⟨by omega, fun _ => ⟨rfl, rfl, rfl, rfl, rfl⟩⟩
    | exact ⟨(det_rEmit a13 a13z).1, fun z => by obtain ⟨rfl, rfl, rfl⟩ := (det_rEmit a13 a13z).2 z; exact ⟨rfl, rfl, rfl, rfl, rfl⟩⟩
    | exact ⟨(det_rEmit a15 a15z).1, fun z => by obtain ⟨rfl, rfl, rfl⟩ := (det_rEmit a15 a15z).2 z; exact ⟨rfl, rfl, rfl, rfl, rfl⟩⟩
    | exact ⟨(det_oOpen a17 a17z).1, fun z => by obtain ⟨rfl, rfl, rfl, rfl⟩ := (det_oOpen a17 a17z).2 z; exact ⟨rfl, rfl, rfl, rfl, rfl⟩⟩
    | exact ⟨(det_oOpen a19 a19z).1, fun z => by obtain ⟨rfl, rfl, rfl, rfl⟩ := (det_oOpen a19 a19z).2 z; exact ⟨rfl, rfl, rfl, rfl, rfl⟩⟩
    | exact ⟨(det_oOpen a22 a22z).1, fun z => by obtain ⟨rfl, rfl, rfl, rfl⟩ := (det_oOpen a22 a22z).2 z; exact ⟨rfl, rfl, rfl, rfl, rfl⟩⟩

theorem det_rOpr {kd : Int} {tc : Int} {wt : Int → Int} {wc : Int} {r : Int} {st2 : Int} {tc2 : Int} {wt2 : Int → Int} {wc2 : Int} {ic2 : Int} {rz : Int} {st2z : Int} {tc2z : Int} {wt2z : Int → Int} {wc2z : Int} {ic2z : Int} (h : rOpr kd tc wt wc r st2 tc2 wt2 wc2 ic2) (h2 : rOpr kd tc wt wc rz st2z tc2z wt2z wc2z ic2z) : r = rz ∧ (r = 0 → st2 = st2z ∧ tc2 = tc2z ∧ wt2 = wt2z ∧ wc2 = wc2z ∧ ic2 = ic2z) := by
  unfold rOpr at h h2
  rcases h with ⟨(a1 | a2 | a3), rfl, a4⟩ | ⟨(a5 | a6), rfl, a7⟩ | ⟨(a8 | a9), rfl, a10⟩ | ⟨a11, ⟨rfl, rfl⟩, a12⟩ | ⟨a13, rfl, a14⟩ | ⟨a15, rfl, a16⟩ | ⟨a17, ⟨rfl, rfl, rfl⟩, (⟨a18, a19⟩ | ⟨a20, a21, rfl, rfl⟩)⟩ | ⟨a22, a23⟩
  all_goals (rcases h2 with ⟨(a1z | a2z | a3z), rfl, a4z⟩ | ⟨(a5z | a6z), rfl, a7z⟩ | ⟨(a8z | a9z), rfl, a10z⟩ | ⟨a11z, ⟨rfl, rfl⟩, a12z⟩ | ⟨a13z, rfl, a14z⟩ | ⟨a15z, rfl, a16z⟩ | ⟨a17z, ⟨rfl, rfl, rfl⟩, (⟨a18z, a19z⟩ | ⟨a20z, a21z, rfl, rfl⟩)⟩ | ⟨a22z, a23z⟩)
  all_goals first
    | (exfalso; omega)
    | (exfalso; contradiction)
    | exact ⟨by omega, fun z => absurd z (by omega)⟩
    | exact ⟨by omega, fun _ => ⟨rfl, rfl, rfl, rfl, rfl⟩⟩
    | exact ⟨(det_rBin a4 a4z).1, fun z => by obtain ⟨rfl, rfl, rfl, rfl⟩ := (det_rBin a4 a4z).2 z; exact ⟨rfl, rfl, rfl, rfl, rfl⟩⟩
    | exact ⟨(det_rBin a7 a7z).1, fun z => by obtain ⟨rfl, rfl, rfl, rfl⟩ := (det_rBin a7 a7z).2 z; exact ⟨rfl, rfl, rfl, rfl, rfl⟩⟩
    | exact ⟨(det_rCmp a10 a10z).1, fun z => by obtain ⟨rfl, rfl, rfl, rfl⟩ := (det_rCmp a10 a10z).2 z; exact ⟨rfl, rfl, rfl, rfl, rfl⟩⟩
    | exact ⟨(det_rClose a12 a12z).1, fun z => by obtain ⟨rfl, rfl, rfl⟩ := (det_rClose a12 a12z).2 z; exact ⟨rfl, rfl, rfl, rfl, rfl⟩⟩
    | exact ⟨(det_rTurn a14 a14z).1, fun z => by obtain ⟨rfl, rfl, rfl, rfl⟩ := (det_rTurn a14 a14z).2 z; exact ⟨rfl, rfl, rfl, rfl, rfl⟩⟩
    | exact ⟨(det_rTurn a16 a16z).1, fun z => by obtain ⟨rfl, rfl, rfl, rfl⟩ := (det_rTurn a16 a16z).2 z; exact ⟨rfl, rfl, rfl, rfl, rfl⟩⟩

theorem det_rXStep {kd : Int} {dot : Prop} {nu : Int} {at_ : Int} {cc : Int → Int} {ru : Int} {xst : Int} {tc : Int} {xop : Int} {wt : Int → Int} {wc : Int} {r : Int} {st2 : Int} {tc2 : Int} {xop2 : Int} {wt2 : Int → Int} {wc2 : Int} {ic2 : Int} {rz : Int} {st2z : Int} {tc2z : Int} {xop2z : Int} {wt2z : Int → Int} {wc2z : Int} {ic2z : Int} (h : rXStep kd dot nu at_ cc ru xst tc xop wt wc r st2 tc2 xop2 wt2 wc2 ic2) (h2 : rXStep kd dot nu at_ cc ru xst tc xop wt wc rz st2z tc2z xop2z wt2z wc2z ic2z) : r = rz ∧ (r = 0 → st2 = st2z ∧ tc2 = tc2z ∧ xop2 = xop2z ∧ wt2 = wt2z ∧ wc2 = wc2z ∧ ic2 = ic2z) := by
  unfold rXStep at h h2
  rcases h with ⟨a1, rfl, a2⟩ | ⟨a3, ⟨rfl, rfl, rfl, rfl⟩, a4⟩ | ⟨a5, ⟨rfl, rfl, rfl⟩, (⟨a6, a7⟩ | ⟨a8, a9, a10⟩ | ⟨a11, a12, a13⟩)⟩ | ⟨a14, rfl, a15⟩
  all_goals (rcases h2 with ⟨a1z, rfl, a2z⟩ | ⟨a3z, ⟨rfl, rfl, rfl, rfl⟩, a4z⟩ | ⟨a5z, ⟨rfl, rfl, rfl⟩, (⟨a6z, a7z⟩ | ⟨a8z, a9z, a10z⟩ | ⟨a11z, a12z, a13z⟩)⟩ | ⟨a14z, rfl, a15z⟩)
  all_goals first
    | (exfalso; omega)
    | (exfalso; contradiction)
    | exact ⟨by omega, fun z => absurd z (by omega)⟩
    | exact ⟨by omega, fun _ => ⟨rfl, rfl, rfl, rfl, rfl, rfl⟩⟩
    | exact ⟨(det_rOpd a2 a2z).1, fun z => by obtain ⟨rfl, rfl, rfl, rfl, rfl⟩ := (det_rOpd a2 a2z).2 z; exact ⟨rfl, rfl, rfl, rfl, rfl, rfl⟩⟩
    | exact ⟨(det_oOccD a4 a4z).1, fun z => by obtain ⟨rfl, rfl⟩ := (det_oOccD a4 a4z).2 z; exact ⟨rfl, rfl, rfl, rfl, rfl, rfl⟩⟩
    | exact ⟨(det_rEmit a13 a13z).1, fun z => by obtain ⟨rfl, rfl, rfl⟩ := (det_rEmit a13 a13z).2 z; exact ⟨rfl, rfl, rfl, rfl, rfl, rfl⟩⟩
    | exact ⟨(det_rOpr a15 a15z).1, fun z => by obtain ⟨rfl, rfl, rfl, rfl, rfl⟩ := (det_rOpr a15 a15z).2 z; exact ⟨rfl, rfl, rfl, rfl, rfl, rfl⟩⟩

theorem det_oSymS {kd : Int} {nm : Int} {st : Int} {sc : Int} {sn : Int → Int} {ac : Int → Int} {ic : Int → Int} {an : Int → Int} {ih : Int → Int} {rk : Int → Int} {ri : Int} {r : Int} {st2 : Int} {sc2 : Int} {sn2 : Int → Int} {ac2 : Int → Int} {ic2 : Int → Int} {an2 : Int → Int} {ih2 : Int → Int} {rk2 : Int → Int} {ri2 : Int} {rkz : Int → Int} {rz : Int} {st2z : Int} {sc2z : Int} {sn2z : Int → Int} {ac2z : Int → Int} {ic2z : Int → Int} {an2z : Int → Int} {ih2z : Int → Int} {rk2z : Int → Int} {ri2z : Int} (h : oSymS kd nm st sc sn ac ic an ih rk ri r st2 sc2 sn2 ac2 ic2 an2 ih2 rk2 ri2) (h2 : oSymS kd nm st sc sn ac ic an ih rkz ri rz st2z sc2z sn2z ac2z ic2z an2z ih2z rk2z ri2z) : r = rz ∧ (r = 0 → st2 = st2z ∧ sc2 = sc2z ∧ sn2 = sn2z ∧ ac2 = ac2z ∧ ic2 = ic2z ∧ an2 = an2z ∧ ih2 = ih2z ∧ ri2 = ri2z) := by
  unfold oSymS at h h2
  rcases h with ⟨a1, ⟨rfl, rfl, rfl, rfl⟩, a2⟩ | ⟨a3, ⟨rfl, rfl, rfl, rfl, rfl, rfl, rfl⟩, a4⟩ | ⟨a5, ⟨rfl, rfl, rfl⟩, a6⟩ | ⟨a7, ⟨rfl, rfl, rfl, rfl, rfl, rfl, rfl, rfl⟩, (⟨a8, a9, rfl⟩ | ⟨a10, a11⟩)⟩ | ⟨a12, ⟨rfl, rfl, rfl, rfl, rfl, rfl, rfl, rfl⟩, a13⟩
  all_goals (rcases h2 with ⟨a1z, ⟨rfl, rfl, rfl, rfl⟩, a2z⟩ | ⟨a3z, ⟨rfl, rfl, rfl, rfl, rfl, rfl, rfl⟩, a4z⟩ | ⟨a5z, ⟨rfl, rfl, rfl⟩, a6z⟩ | ⟨a7z, ⟨rfl, rfl, rfl, rfl, rfl, rfl, rfl, rfl⟩, (⟨a8z, a9z, rfl⟩ | ⟨a10z, a11z⟩)⟩ | ⟨a12z, ⟨rfl, rfl, rfl, rfl, rfl, rfl, rfl, rfl⟩, a13z⟩)
  all_goals first
    | (exfalso; omega)
    | (exfalso; contradiction)
    | exact ⟨by omega, fun z => absurd z (by omega)⟩
    | exact ⟨by omega, fun _ => ⟨rfl, rfl, rfl, rfl, rfl, rfl, rfl, rfl⟩⟩
    | exact ⟨(det_oSymN a2 a2z).1, fun z => by obtain ⟨rfl, rfl, rfl, rfl, rfl⟩ := (det_oSymN a2 a2z).2 z; exact ⟨rfl, rfl, rfl, rfl, rfl, rfl, rfl, rfl⟩⟩
    | exact ⟨(det_oSymB a4 a4z).1, fun z => by obtain ⟨rfl, rfl⟩ := (det_oSymB a4 a4z).2 z; exact ⟨rfl, rfl, rfl, rfl, rfl, rfl, rfl, rfl⟩⟩
    | exact ⟨(det_oAttN a6 a6z).1, fun z => by obtain ⟨rfl, rfl, rfl, rfl, rfl⟩ := (det_oAttN a6 a6z).2 z; exact ⟨rfl, rfl, rfl, rfl, rfl, rfl, rfl, rfl⟩⟩
    | exact ⟨(det_oGoIf a11 a11z).1, fun z => by obtain rfl := (det_oGoIf a11 a11z).2 z; exact ⟨rfl, rfl, rfl, rfl, rfl, rfl, rfl, rfl⟩⟩
    | exact ⟨(det_oGoIf a13 a13z).1, fun z => by obtain rfl := (det_oGoIf a13 a13z).2 z; exact ⟨rfl, rfl, rfl, rfl, rfl, rfl, rfl, rfl⟩⟩

theorem det_oRulS {kd : Int} {nm : Int} {nu : Int} {sc : Int} {sn : Int → Int} {ac : Int → Int} {ih : Int → Int} {ic : Int → Int} {st : Int} {tp : Int} {rc : Int} {rn : Int → Int} {cc : Int → Int} {ec : Int → Int} {cs : Int → Int} {ce : Int → Int} {hgs : Int → Int} {rs : Int → Int} {r : Int} {st2 : Int} {tp2 : Int} {rc2 : Int} {rn2 : Int → Int} {cc2 : Int → Int} {ec2 : Int → Int} {cs2 : Int → Int} {ce2 : Int → Int} {hgs2 : Int → Int} {rs2 : Int → Int} {ecz : Int → Int} {cez : Int → Int} {hgsz : Int → Int} {rz : Int} {st2z : Int} {tp2z : Int} {rc2z : Int} {rn2z : Int → Int} {cc2z : Int → Int} {ec2z : Int → Int} {cs2z : Int → Int} {ce2z : Int → Int} {hgs2z : Int → Int} {rs2z : Int → Int} (h : oRulS kd nm nu sc sn ac ih ic st tp rc rn cc ec cs ce hgs rs r st2 tp2 rc2 rn2 cc2 ec2 cs2 ce2 hgs2 rs2) (h2 : oRulS kd nm nu sc sn ac ih ic st tp rc rn cc ecz cs cez hgsz rs rz st2z tp2z rc2z rn2z cc2z ec2z cs2z ce2z hgs2z rs2z) : r = rz ∧ (r = 0 → st2 = st2z ∧ tp2 = tp2z ∧ rc2 = rc2z ∧ rn2 = rn2z ∧ cc2 = cc2z ∧ cs2 = cs2z ∧ rs2 = rs2z) := by
  unfold oRulS at h h2
  rcases h with ⟨a1, ⟨rfl, rfl⟩, a2⟩ | ⟨a3, ⟨rfl, rfl, rfl, rfl, rfl, rfl, rfl, rfl, rfl⟩, a4⟩ | ⟨a5, ⟨rfl, rfl, rfl, rfl, rfl, rfl, rfl, rfl⟩, a6⟩ | ⟨a7, ⟨rfl, rfl, rfl, rfl, rfl, rfl, rfl⟩, a8⟩ | ⟨a9, ⟨rfl, rfl, rfl, rfl, rfl, rfl, rfl, rfl⟩, a10⟩ | ⟨a11, ⟨rfl, rfl, rfl, rfl, rfl, rfl, rfl, rfl, rfl⟩, a12⟩
  all_goals (rcases h2 with ⟨a1z, ⟨rfl, rfl⟩, a2z⟩ | ⟨a3z, ⟨rfl, rfl, rfl, rfl, rfl, rfl, rfl, rfl, rfl⟩, a4z⟩ | ⟨a5z, ⟨rfl, rfl, rfl, rfl, rfl, rfl, rfl, rfl⟩, a6z⟩ | ⟨a7z, ⟨rfl, rfl, rfl, rfl, rfl, rfl, rfl⟩, a8z⟩ | ⟨a9z, ⟨rfl, rfl, rfl, rfl, rfl, rfl, rfl, rfl⟩, a10z⟩ | ⟨a11z, ⟨rfl, rfl, rfl, rfl, rfl, rfl, rfl, rfl, rfl⟩, a12z⟩)
  all_goals first
    | (exfalso; omega)
    | (exfalso; contradiction)
    | exact ⟨by omega, fun z => absurd z (by omega)⟩
    | exact ⟨by omega, fun _ => ⟨rfl, rfl, rfl, rfl, rfl, rfl, rfl⟩⟩
    | exact ⟨(det_oRulN a2 a2z).1, fun z => by obtain ⟨rfl, rfl, rfl, rfl, rfl⟩ := (det_oRulN a2 a2z).2 z; exact ⟨rfl, rfl, rfl, rfl, rfl, rfl, rfl⟩⟩
    | exact ⟨(det_oGoIf a4 a4z).1, fun z => by obtain rfl := (det_oGoIf a4 a4z).2 z; exact ⟨rfl, rfl, rfl, rfl, rfl, rfl, rfl⟩⟩
    | exact ⟨(det_oRulH a6 a6z).1, fun z => by obtain ⟨rfl, rfl⟩ := (det_oRulH a6 a6z).2 z; exact ⟨rfl, rfl, rfl, rfl, rfl, rfl, rfl⟩⟩
    | exact ⟨(det_oRulC a8 a8z).1, fun z => by obtain ⟨rfl, rfl, rfl⟩ := (det_oRulC a8 a8z).2 z; exact ⟨rfl, rfl, rfl, rfl, rfl, rfl, rfl⟩⟩
    | exact ⟨(det_oRulB a10 a10z).1, fun z => by obtain ⟨rfl, rfl⟩ := (det_oRulB a10 a10z).2 z; exact ⟨rfl, rfl, rfl, rfl, rfl, rfl, rfl⟩⟩
    | exact ⟨(det_oBehR a12 a12z).1, fun z => by obtain rfl := (det_oBehR a12 a12z).2 z; exact ⟨rfl, rfl, rfl, rfl, rfl, rfl, rfl⟩⟩

theorem det_oStepA {kd : Int} {nm : Int} {nu : Int} {st : Int} {sc : Int} {sn : Int → Int} {ac : Int → Int} {ic : Int → Int} {an : Int → Int} {ih : Int → Int} {rk : Int → Int} {ri : Int} {tp : Int} {rc : Int} {rn : Int → Int} {cc : Int → Int} {ec : Int → Int} {cs : Int → Int} {ce : Int → Int} {hgs : Int → Int} {rs : Int → Int} {ts : Int} {r : Int} {st2 : Int} {sc2 : Int} {sn2 : Int → Int} {ac2 : Int → Int} {ic2 : Int → Int} {an2 : Int → Int} {ih2 : Int → Int} {rk2 : Int → Int} {ri2 : Int} {tp2 : Int} {rc2 : Int} {rn2 : Int → Int} {cc2 : Int → Int} {ec2 : Int → Int} {cs2 : Int → Int} {ce2 : Int → Int} {hgs2 : Int → Int} {rs2 : Int → Int} {ts2 : Int} {rkz : Int → Int} {ecz : Int → Int} {cez : Int → Int} {hgsz : Int → Int} {rz : Int} {st2z : Int} {sc2z : Int} {sn2z : Int → Int} {ac2z : Int → Int} {ic2z : Int → Int} {an2z : Int → Int} {ih2z : Int → Int} {rk2z : Int → Int} {ri2z : Int} {tp2z : Int} {rc2z : Int} {rn2z : Int → Int} {cc2z : Int → Int} {ec2z : Int → Int} {cs2z : Int → Int} {ce2z : Int → Int} {hgs2z : Int → Int} {rs2z : Int → Int} {ts2z : Int} (h : oStepA kd nm nu st sc sn ac ic an ih rk ri tp rc rn cc ec cs ce hgs rs ts r st2 sc2 sn2 ac2 ic2 an2 ih2 rk2 ri2 tp2 rc2 rn2 cc2 ec2 cs2 ce2 hgs2 rs2 ts2) (h2 : oStepA kd nm nu st sc sn ac ic an ih rkz ri tp rc rn cc ecz cs cez hgsz rs ts rz st2z sc2z sn2z ac2z ic2z an2z ih2z rk2z ri2z tp2z rc2z rn2z cc2z ec2z cs2z ce2z hgs2z rs2z ts2z) : r = rz ∧ (r = 0 → st2 = st2z ∧ sc2 = sc2z ∧ sn2 = sn2z ∧ ac2 = ac2z ∧ ic2 = ic2z ∧ an2 = an2z ∧ ih2 = ih2z ∧ ri2 = ri2z ∧ tp2 = tp2z ∧ rc2 = rc2z ∧ rn2 = rn2z ∧ cc2 = cc2z ∧ cs2 = cs2z ∧ rs2 = rs2z ∧ ts2 = ts2z) := by
  unfold oStepA at h h2
  rcases h with ⟨a1, ⟨rfl, rfl, rfl, rfl, rfl, rfl, rfl, rfl, rfl, rfl⟩, a2⟩ | ⟨⟨a3, a4⟩, ⟨rfl, rfl, rfl, rfl, rfl, rfl, rfl, rfl, rfl⟩, a5⟩ | ⟨a6, ⟨rfl, rfl, rfl, rfl, rfl, rfl, rfl, rfl, rfl, rfl, rfl, rfl, rfl, rfl, rfl, rfl, rfl, rfl⟩, a7⟩ | ⟨a8, ⟨rfl, rfl, rfl, rfl, rfl, rfl, rfl, rfl, rfl, rfl, rfl, rfl, rfl, rfl, rfl, rfl, rfl⟩, a9⟩
  all_goals (rcases h2 with ⟨a1z, ⟨rfl, rfl, rfl, rfl, rfl, rfl, rfl, rfl, rfl, rfl⟩, a2z⟩ | ⟨⟨a3z, a4z⟩, ⟨rfl, rfl, rfl, rfl, rfl, rfl, rfl, rfl, rfl⟩, a5z⟩ | ⟨a6z, ⟨rfl, rfl, rfl, rfl, rfl, rfl, rfl, rfl, rfl, rfl, rfl, rfl, rfl, rfl, rfl, rfl, rfl, rfl⟩, a7z⟩ | ⟨a8z, ⟨rfl, rfl, rfl, rfl, rfl, rfl, rfl, rfl, rfl, rfl, rfl, rfl, rfl, rfl, rfl, rfl, rfl⟩, a9z⟩)
  all_goals first
    | (exfalso; omega)
    | (exfalso; contradiction)
    | exact ⟨by omega, fun z => absurd z (by omega)⟩
    | exact ⟨by omega, fun _ => ⟨rfl, rfl, rfl, rfl, rfl, rfl, rfl, rfl, rfl, rfl, rfl, rfl, rfl, rfl, rfl⟩⟩
    | exact ⟨(det_oSymS a2 a2z).1, fun z => by obtain ⟨rfl, rfl, rfl, rfl, rfl, rfl, rfl, rfl⟩ := (det_oSymS a2 a2z).2 z; exact ⟨rfl, rfl, rfl, rfl, rfl, rfl, rfl, rfl, rfl, rfl, rfl, rfl, rfl, rfl, rfl⟩⟩
    | exact ⟨(det_oRulS a5 a5z).1, fun z => by obtain ⟨rfl, rfl, rfl, rfl, rfl, rfl, rfl⟩ := (det_oRulS a5 a5z).2 z; exact ⟨rfl, rfl, rfl, rfl, rfl, rfl, rfl, rfl, rfl, rfl, rfl, rfl, rfl, rfl, rfl⟩⟩
    | exact ⟨(det_oGoIf a7 a7z).1, fun z => by obtain rfl := (det_oGoIf a7 a7z).2 z; exact ⟨rfl, rfl, rfl, rfl, rfl, rfl, rfl, rfl, rfl, rfl, rfl, rfl, rfl, rfl, rfl⟩⟩
    | exact ⟨(det_oTarN a9 a9z).1, fun z => by obtain ⟨rfl, rfl⟩ := (det_oTarN a9 a9z).2 z; exact ⟨rfl, rfl, rfl, rfl, rfl, rfl, rfl, rfl, rfl, rfl, rfl, rfl, rfl, rfl, rfl⟩⟩

theorem det_STEPf {tx : Int → Int} {n : Int} {st : Int} {ri : Int} {tp : Int} {ts : Int} {be : Int} {sc : Int} {rc : Int} {xst : Int} {tc : Int} {xop : Int} {wc : Int} {sn : Int → Int} {ac : Int → Int} {ic : Int → Int} {an : Int → Int} {ih : Int → Int} {rn : Int → Int} {rs : Int → Int} {cc : Int → Int} {cs : Int → Int} {wt : Int → Int} {r rz : Int} {st2 : Int} {ri2 : Int} {tp2 : Int} {ts2 : Int} {be2 : Int} {sc2 : Int} {rc2 : Int} {xst2 : Int} {tc2 : Int} {xop2 : Int} {wc2 : Int} {sn2 : Int → Int} {ac2 : Int → Int} {ic2 : Int → Int} {an2 : Int → Int} {ih2 : Int → Int} {rn2 : Int → Int} {rs2 : Int → Int} {cc2 : Int → Int} {cs2 : Int → Int} {wt2 : Int → Int} {st2z : Int} {ri2z : Int} {tp2z : Int} {ts2z : Int} {be2z : Int} {sc2z : Int} {rc2z : Int} {xst2z : Int} {tc2z : Int} {xop2z : Int} {wc2z : Int} {sn2z : Int → Int} {ac2z : Int → Int} {ic2z : Int → Int} {an2z : Int → Int} {ih2z : Int → Int} {rn2z : Int → Int} {rs2z : Int → Int} {cc2z : Int → Int} {cs2z : Int → Int} {wt2z : Int → Int} (h : STEPf tx n st ri tp ts be sc rc xst tc xop wc sn ac ic an ih rn rs cc cs wt r st2 ri2 tp2 ts2 be2 sc2 rc2 xst2 tc2 xop2 wc2 sn2 ac2 ic2 an2 ih2 rn2 rs2 cc2 cs2 wt2) (h2 : STEPf tx n st ri tp ts be sc rc xst tc xop wc sn ac ic an ih rn rs cc cs wt rz st2z ri2z tp2z ts2z be2z sc2z rc2z xst2z tc2z xop2z wc2z sn2z ac2z ic2z an2z ih2z rn2z rs2z cc2z cs2z wt2z) : r = rz ∧ (r = 0 → st2 = st2z ∧ ri2 = ri2z ∧ tp2 = tp2z ∧ ts2 = ts2z ∧ be2 = be2z ∧ sc2 = sc2z ∧ rc2 = rc2z ∧ xst2 = xst2z ∧ tc2 = tc2z ∧ xop2 = xop2z ∧ wc2 = wc2z ∧ sn2 = sn2z ∧ ac2 = ac2z ∧ ic2 = ic2z ∧ an2 = an2z ∧ ih2 = ih2z ∧ rn2 = rn2z ∧ rs2 = rs2z ∧ cc2 = cc2z ∧ cs2 = cs2z ∧ wt2 = wt2z) := by
  obtain ⟨rfl, h⟩ := h
  obtain ⟨rfl, h2⟩ := h2
  rcases h with ⟨b, ⟨rfl, rfl, rfl, rfl, rfl, rfl, rfl, rfl, rfl, rfl, rfl, rfl, rfl, rfl⟩, ic9, x, g⟩ | ⟨b, ⟨rfl, rfl, rfl, rfl, rfl⟩, rk, ec, ce, hgs, rk2, ec2, ce2, hgs2, x⟩ | ⟨b, ⟨rfl, rfl, rfl, rfl, rfl, rfl, rfl, rfl, rfl, rfl, rfl, rfl, rfl, rfl, rfl⟩, ⟨rfl, rfl, rfl, rfl⟩, x⟩
  · rcases h2 with ⟨bz, ⟨rfl, rfl, rfl, rfl, rfl, rfl, rfl, rfl, rfl, rfl, rfl, rfl, rfl, rfl⟩, ic9z, xz, gz⟩ | ⟨bz, _⟩ | ⟨bz, _⟩
    · have q := det_rXStep x xz
      refine ⟨q.1, fun z => ?_⟩
      have e1 := g z
      have e2 := gz (q.1.symm.trans z)
      obtain ⟨rfl, rfl, rfl, rfl, rfl, rfl⟩ := q.2 z
      obtain rfl := e1.trans e2.symm
      exact ⟨rfl, rfl, rfl, rfl, rfl, rfl, rfl, rfl, rfl, rfl, rfl, rfl, rfl, rfl, rfl, rfl, rfl, rfl, rfl, rfl, rfl⟩
    · exfalso; omega
    · exfalso; omega
  · rcases h2 with ⟨bz, _⟩ | ⟨bz, ⟨rfl, rfl, rfl, rfl, rfl⟩, rkz, ecz, cez, hgsz, rk2z, ec2z, ce2z, hgs2z, xz⟩ | ⟨bz, _⟩
    · exfalso; omega
    · have q := det_oStepA x xz
      refine ⟨q.1, fun z => ?_⟩
      obtain ⟨rfl, rfl, rfl, rfl, rfl, rfl, rfl, rfl, rfl, rfl, rfl, rfl, rfl, rfl, rfl⟩ := q.2 z
      exact ⟨rfl, rfl, rfl, rfl, rfl, rfl, rfl, rfl, rfl, rfl, rfl, rfl, rfl, rfl, rfl, rfl, rfl, rfl, rfl, rfl, rfl⟩
    · exfalso; omega
  · rcases h2 with ⟨bz, _⟩ | ⟨bz, _⟩ | ⟨bz, ⟨rfl, rfl, rfl, rfl, rfl, rfl, rfl, rfl, rfl, rfl, rfl, rfl, rfl, rfl, rfl⟩, ⟨rfl, rfl, rfl, rfl⟩, xz⟩
    · exfalso; omega
    · exfalso; omega
    · have q := det_oGoIf x xz
      refine ⟨q.1, fun z => ?_⟩
      obtain rfl := q.2 z
      exact ⟨rfl, rfl, rfl, rfl, rfl, rfl, rfl, rfl, rfl, rfl, rfl, rfl, rfl, rfl, rfl, rfl, rfl, rfl, rfl, rfl, rfl⟩
theorem stp_cn {tx : Int → Int} {n r : Int} {S S' S2 : Nat → Int → Int} (h : cnS S = cnS S') (z : STEP tx n S r S2) : STEP tx n S' r S2 := by
  have e0 : S 0 0 = S' 0 0 := congrFun (congrFun h 0) 0
  have e1 : S 1 0 = S' 1 0 := congrFun (congrFun h 1) 0
  have e2 : S 2 0 = S' 2 0 := congrFun (congrFun h 2) 0
  have e3 : S 3 0 = S' 3 0 := congrFun (congrFun h 3) 0
  have e4 : S 4 0 = S' 4 0 := congrFun (congrFun h 4) 0
  have e5 : S 5 0 = S' 5 0 := congrFun (congrFun h 5) 0
  have e6 : S 6 0 = S' 6 0 := congrFun (congrFun h 6) 0
  have e7 : S 7 0 = S' 7 0 := congrFun (congrFun h 7) 0
  have e8 : S 8 0 = S' 8 0 := congrFun (congrFun h 8) 0
  have e9 : S 9 0 = S' 9 0 := congrFun (congrFun h 9) 0
  have e10 : S 10 0 = S' 10 0 := congrFun (congrFun h 10) 0
  have e11 : S 11 = S' 11 := congrFun h 11
  have e12 : S 12 = S' 12 := congrFun h 12
  have e13 : S 13 = S' 13 := congrFun h 13
  have e14 : S 14 = S' 14 := congrFun h 14
  have e15 : S 15 = S' 15 := congrFun h 15
  have e16 : S 16 = S' 16 := congrFun h 16
  have e17 : S 17 = S' 17 := congrFun h 17
  have e18 : S 18 = S' 18 := congrFun h 18
  have e19 : S 19 = S' 19 := congrFun h 19
  have e20 : S 20 = S' 20 := congrFun h 20
  unfold STEP at z ⊢
  rw [e0, e1, e2, e3, e4, e5, e6, e7, e8, e9, e10, e11, e12, e13, e14, e15, e16, e17, e18, e19, e20] at z
  exact z
theorem stp_det {tx : Int → Int} {n r r' : Int} {S S2 S2' : Nat → Int → Int} (h : STEP tx n S r S2) (h2 : STEP tx n S r' S2') : r = r' ∧ (r = 0 → cnS S2 = cnS S2') := by
  have q := det_STEPf h h2
  refine ⟨q.1, fun z => ?_⟩
  obtain ⟨d0, d1, d2, d3, d4, d5, d6, d7, d8, d9, d10, d11, d12, d13, d14, d15, d16, d17, d18, d19, d20⟩ := q.2 z
  unfold cnS
  rw [d0, d1, d2, d3, d4, d5, d6, d7, d8, d9, d10, d11, d12, d13, d14, d15, d16, d17, d18, d19, d20]
theorem run_det {tx : Int → Int} {n : Int} : ∀ (k k' : Nat) (S S' : Nat → Int → Int) (f p : Int) (e : Nat → Int → Int) (f' p' : Int) (e' : Nat → Int → Int), cnS S = cnS S' → RUN tx n k S f p e → RUN tx n k' S' f' p' e' → f = f' ∧ (¬ f = 0 → p = p') ∧ (f = 0 → e = e') := by
  intro k
  induction k with
  | zero => intro k' S S' f p e f' p' e' _ h _; exact h.elim
  | succ k ih =>
    intro k' S S' f p e f' p' e' hc h h2
    cases k' with
    | zero => exact h2.elim
    | succ k' =>
      obtain ⟨r, S2, z1, z2⟩ := h
      obtain ⟨r', S2', y1, y2⟩ := h2
      have q := stp_det (stp_cn hc z1) y1
      have q4 : S 4 0 = S' 4 0 := congrFun (congrFun hc 4) 0
      rcases z2 with z2 | z2 | z2
      · have ra : ¬ r' = 0 := fun w => z2.1 (q.1.trans w)
        rcases y2 with y2 | y2 | y2
        · exact ⟨z2.2.1.trans (q.1.trans y2.2.1.symm), fun _ => by rw [z2.2.2, y2.2.2, q4], fun w => absurd (z2.2.1.symm.trans w) z2.1⟩
        · exact absurd y2.1 ra
        · exact absurd y2.1 ra
      · have q0 : S2 0 0 = S2' 0 0 := congrFun (congrFun (q.2 z2.1) 0) 0
        have ra : r' = 0 := q.1.symm.trans z2.1
        rcases y2 with y2 | y2 | y2
        · exact absurd ra y2.1
        · exact ⟨z2.2.2.1.trans y2.2.2.1.symm, fun w => absurd z2.2.2.1 w, fun _ => z2.2.2.2.trans ((q.2 z2.1).trans y2.2.2.2.symm)⟩
        · exact absurd (q0.symm.trans z2.2.1) y2.2.1
      · have q0 : S2 0 0 = S2' 0 0 := congrFun (congrFun (q.2 z2.1) 0) 0
        have ra : r' = 0 := q.1.symm.trans z2.1
        rcases y2 with y2 | y2 | y2
        · exact absurd ra y2.1
        · exact absurd (q0.trans y2.2.1) z2.2.1
        · exact ih k' S2 S2' f p e f' p' e' (q.2 z2.1) z2.2.2 y2.2.2
/-- the reading tells one thing alone -/
theorem res_det {tx : Int → Int} {n : Int} {S : Nat → Int → Int} {f p : Int} {e : Nat → Int → Int} {f' p' : Int} {e' : Nat → Int → Int} (h : RES tx n S f p e) (h2 : RES tx n S f' p' e') : f = f' ∧ (¬ f = 0 → p = p') ∧ (f = 0 → e = e') := by
  obtain ⟨k, h⟩ := h
  obtain ⟨k', h2⟩ := h2
  exact run_det k k' S S f p e f' p' e' rfl h h2
