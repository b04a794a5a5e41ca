/-! what a step tells depends on the name only for a NAME, on the number only for a NUMBER, on the codes only as far as there are any -/
theorem symN_nm {kd nm nm' sc : Int} {sn ac ic : Int → Int} {st r st2 sc2 : Int} {sn2 ac2 ic2 : Int → Int} (hn : kd = 1 → nm = nm') (h : oSymN kd nm sc sn ac ic st r st2 sc2 sn2 ac2 ic2) : oSymN kd nm' sc sn ac ic st r st2 sc2 sn2 ac2 ic2 := by
  by_cases a : kd = 1
  · rw [← hn a]
    exact h
  · rcases h with ⟨q | q | q, f⟩ | q
    · exact Or.inl ⟨Or.inl q, f⟩
    · exact absurd q.2.1 a
    · exact absurd q.2.1 a
    · exact absurd q.2.1 a
theorem attN_nm {kd nm nm' sc ri : Int} {ac ic an ih rk : Int → Int} {st r st2 : Int} {ac2 ic2 an2 ih2 rk2 : Int → Int} (hn : kd = 1 → nm = nm') (h : oAttN kd nm sc ri ac ic an ih rk st r st2 ac2 ic2 an2 ih2 rk2) : oAttN kd nm' sc ri ac ic an ih rk st r st2 ac2 ic2 an2 ih2 rk2 := by
  by_cases a : kd = 1
  · rw [← hn a]
    exact h
  · rcases h with ⟨q | q | q, f⟩ | q
    · exact Or.inl ⟨Or.inl q, f⟩
    · exact absurd q.2.1 a
    · exact absurd q.2.1 a
    · exact absurd q.2.1 a
theorem rulN_nm {kd nm nm' rc : Int} {rn cc ec cs ce hgs : Int → Int} {st r st2 rc2 : Int} {rn2 cc2 ec2 cs2 ce2 hgs2 : Int → Int} (hn : kd = 1 → nm = nm') (h : oRulN kd nm rc rn cc ec cs ce hgs st r st2 rc2 rn2 cc2 ec2 cs2 ce2 hgs2) : oRulN kd nm' rc rn cc ec cs ce hgs st r st2 rc2 rn2 cc2 ec2 cs2 ce2 hgs2 := by
  by_cases a : kd = 1
  · rw [← hn a]
    exact h
  · rcases h with ⟨q | q | q, f⟩ | q
    · exact Or.inl ⟨Or.inl q, f⟩
    · exact absurd q.2.1 a
    · exact absurd q.2.1 a
    · exact absurd q.2.1 a
theorem rulH_nm {kd nm nm' sc ru : Int} {sn rs : Int → Int} {st r st2 : Int} {rs2 : Int → Int} (hn : kd = 1 → nm = nm') (h : oRulH kd nm sc ru sn rs st r st2 rs2) : oRulH kd nm' sc ru sn rs st r st2 rs2 := by
  by_cases a : kd = 1
  · rw [← hn a]
    exact h
  · rcases h with ⟨q | q, f⟩ | q
    · exact Or.inl ⟨Or.inl q, f⟩
    · exact absurd q.2.1 a
    · exact absurd q.2.1 a
theorem rulC_nm {kd nm nm' sc ru : Int} {sn rs cc : Int → Int} {st r st2 : Int} {rs2 cc2 : Int → Int} (hn : kd = 1 → nm = nm') (h : oRulC kd nm sc ru sn rs cc st r st2 rs2 cc2) : oRulC kd nm' sc ru sn rs cc st r st2 rs2 cc2 := by
  by_cases a : kd = 1
  · rw [← hn a]
    exact h
  · rcases h with q | ⟨q | q | q, f⟩ | q
    · exact Or.inl q
    · exact Or.inr (Or.inl ⟨Or.inl q, f⟩)
    · exact absurd q.2.1 a
    · exact absurd q.2.1 a
    · exact absurd q.2.1 a
theorem tarN_nm {kd nm nm' ru tp : Int} {rs ac an ih cs : Int → Int} {st ts r st2 ts2 : Int} (hn : kd = 1 → nm = nm') (h : oTarN kd nm ru tp rs ac an ih cs st ts r st2 ts2) : oTarN kd nm' ru tp rs ac an ih cs st ts r st2 ts2 := by
  by_cases a : kd = 1
  · rw [← hn a]
    exact h
  · rcases h with ⟨q | q | q, f⟩ | q
    · exact Or.inl ⟨Or.inl q, f⟩
    · exact absurd q.2.1 a
    · exact absurd q.2.1 a
    · exact absurd q.1 a
theorem rulB_nu {kd nu nu' ru : Int} {rs ac ih cs cc : Int → Int} {st tp r st2 tp2 : Int} (hn : kd = 2 → nu = nu') (h : oRulB kd nu ru rs ac ih cs cc st tp r st2 tp2) : oRulB kd nu' ru rs ac ih cs cc st tp r st2 tp2 := by
  by_cases a : kd = 2
  · rw [← hn a]
    exact h
  · rcases h with q | q | q | q | q
    · exact Or.inl q
    · exact Or.inr (Or.inl q)
    · exact Or.inr (Or.inr (Or.inl q))
    · exact absurd q.2.1 a
    · exact absurd q.2.1 a
theorem lack_bN {rs ac ih cs cc : Int → Int} {ru : Int} : kLack rs ac ih (bN cs) cc ru ↔ kLack rs ac ih cs cc ru := by
  unfold kLack kLackAt
  constructor
  · rintro ⟨p, a, h1, h2, h3, h4, h5, h6⟩
    exact ⟨p, a, h1, h2, h3, h4, h5, bN_m.mp h6⟩
  · rintro ⟨p, a, h1, h2, h3, h4, h5, h6⟩
    exact ⟨p, a, h1, h2, h3, h4, h5, bN_m.mpr h6⟩
theorem rulN_bN {kd nm rc : Int} {rn cc ec cs ce hgs : Int → Int} {st r st2 rc2 : Int} {rn2 cc2 ec2 cs2 ce2 hgs2 : Int → Int} (h : oRulN kd nm rc rn cc ec cs ce hgs st r st2 rc2 rn2 cc2 ec2 cs2 ce2 hgs2) : oRulN kd nm rc rn cc ec (bN cs) ce hgs st r st2 rc2 rn2 cc2 ec2 (bN cs2) ce2 hgs2 := by
  rcases h with ⟨q, a1, a2, a3, a4, a5, a6, a7, a8⟩ | ⟨q, a1, a2, a3, a4, a5, a6, a7, a8, a9, b1, b2⟩
  · exact Or.inl ⟨q, a1, a2, a3, a4, a5, by rw [a6], a7, a8⟩
  · exact Or.inr ⟨q, a1, a2, a3, a4, a5, a6, a7, a8, by rw [a9, bN_fill], b1, b2⟩
theorem rulB_bN {kd nu ru : Int} {rs ac ih cs cc : Int → Int} {st tp r st2 tp2 : Int} (h : oRulB kd nu ru rs ac ih cs cc st tp r st2 tp2) : oRulB kd nu ru rs ac ih (bN cs) cc st tp r st2 tp2 := by
  unfold oRulB
  rw [lack_bN]
  exact h
theorem tarN_bN {kd nm ru tp : Int} {rs ac an ih cs : Int → Int} {st ts r st2 ts2 : Int} (h : oTarN kd nm ru tp rs ac an ih cs st ts r st2 ts2) : oTarN kd nm ru tp rs ac an ih (bN cs) st ts r st2 ts2 := by
  unfold oTarN
  rw [bN_m]
  exact h
theorem stepA_nm {kd nm nm' nu nu' : Int} {st : Int} {sc : Int} {sn : Int → Int} {ac : Int → Int} {ic : Int → Int} {an : Int → Int} {ih : Int → Int} {rk : Int → Int} {ri : Int} {tp : Int} {rc : Int} {rn : Int → Int} {cc : Int → Int} {ec : Int → Int} {cs : Int → Int} {ce : Int → Int} {hgs : Int → Int} {rs : Int → Int} {ts : Int} {r : Int} {st2 : Int} {sc2 : Int} {sn2 : Int → Int} {ac2 : Int → Int} {ic2 : Int → Int} {an2 : Int → Int} {ih2 : Int → Int} {rk2 : Int → Int} {ri2 : Int} {tp2 : Int} {rc2 : Int} {rn2 : Int → Int} {cc2 : Int → Int} {ec2 : Int → Int} {cs2 : Int → Int} {ce2 : Int → Int} {hgs2 : Int → Int} {rs2 : Int → Int} {ts2 : Int} (hn : kd = 1 → nm = nm') (hu : kd = 2 → nu = nu') (h : oStepA kd nm nu st sc sn ac ic an ih rk ri tp rc rn cc ec cs ce hgs rs ts r st2 sc2 sn2 ac2 ic2 an2 ih2 rk2 ri2 tp2 rc2 rn2 cc2 ec2 cs2 ce2 hgs2 rs2 ts2) : oStepA kd nm' nu' st sc sn ac ic an ih rk ri tp rc rn cc ec cs ce hgs rs ts r st2 sc2 sn2 ac2 ic2 an2 ih2 rk2 ri2 tp2 rc2 rn2 cc2 ec2 cs2 ce2 hgs2 rs2 ts2 := by
  rcases h with ⟨g, f, h⟩ | ⟨g, f, h⟩ | h | ⟨g, f, h⟩
  · refine Or.inl ⟨g, f, ?_⟩
    rcases h with ⟨g, f, h⟩ | h | ⟨g, f, h⟩ | h
    · exact Or.inl ⟨g, f, symN_nm hn h⟩
    · exact Or.inr (Or.inl h)
    · exact Or.inr (Or.inr (Or.inl ⟨g, f, attN_nm hn h⟩))
    · exact Or.inr (Or.inr (Or.inr h))
  · refine Or.inr (Or.inl ⟨g, f, ?_⟩)
    rcases h with ⟨g, f, h⟩ | h | ⟨g, f, h⟩ | ⟨g, f, h⟩ | ⟨g, f, h⟩ | h
    · exact Or.inl ⟨g, f, rulN_nm hn h⟩
    · exact Or.inr (Or.inl h)
    · exact Or.inr (Or.inr (Or.inl ⟨g, f, rulH_nm hn h⟩))
    · exact Or.inr (Or.inr (Or.inr (Or.inl ⟨g, f, rulC_nm hn h⟩)))
    · exact Or.inr (Or.inr (Or.inr (Or.inr (Or.inl ⟨g, f, rulB_nu hu h⟩))))
    · exact Or.inr (Or.inr (Or.inr (Or.inr (Or.inr h))))
  · exact Or.inr (Or.inr (Or.inl h))
  · exact Or.inr (Or.inr (Or.inr ⟨g, f, tarN_nm hn h⟩))
theorem stepA_bN {kd nm nu : Int} {st : Int} {sc : Int} {sn : Int → Int} {ac : Int → Int} {ic : Int → Int} {an : Int → Int} {ih : Int → Int} {rk : Int → Int} {ri : Int} {tp : Int} {rc : Int} {rn : Int → Int} {cc : Int → Int} {ec : Int → Int} {cs : Int → Int} {ce : Int → Int} {hgs : Int → Int} {rs : Int → Int} {ts : Int} {r : Int} {st2 : Int} {sc2 : Int} {sn2 : Int → Int} {ac2 : Int → Int} {ic2 : Int → Int} {an2 : Int → Int} {ih2 : Int → Int} {rk2 : Int → Int} {ri2 : Int} {tp2 : Int} {rc2 : Int} {rn2 : Int → Int} {cc2 : Int → Int} {ec2 : Int → Int} {cs2 : Int → Int} {ce2 : Int → Int} {hgs2 : Int → Int} {rs2 : Int → Int} {ts2 : Int} (h : oStepA kd nm nu st sc sn ac ic an ih rk ri tp rc rn cc ec cs ce hgs rs ts r st2 sc2 sn2 ac2 ic2 an2 ih2 rk2 ri2 tp2 rc2 rn2 cc2 ec2 cs2 ce2 hgs2 rs2 ts2) : oStepA kd nm nu st sc sn ac ic an ih rk ri tp rc rn cc ec (bN cs) ce hgs rs ts r st2 sc2 sn2 ac2 ic2 an2 ih2 rk2 ri2 tp2 rc2 rn2 cc2 ec2 (bN cs2) ce2 hgs2 rs2 ts2 := by
  rcases h with ⟨g, f, h⟩ | ⟨g, f, h⟩ | ⟨g, f, h⟩ | ⟨g, f, h⟩
  · exact Or.inl ⟨g, ⟨f.1, f.2.1, f.2.2.1, f.2.2.2.1, f.2.2.2.2.1, congrArg bN f.2.2.2.2.2.1, f.2.2.2.2.2.2.1, f.2.2.2.2.2.2.2.1, f.2.2.2.2.2.2.2.2.1, f.2.2.2.2.2.2.2.2.2⟩, h⟩
  · refine Or.inr (Or.inl ⟨g, f, ?_⟩)
    rcases h with ⟨g, f, h⟩ | ⟨g, f, h⟩ | ⟨g, f, h⟩ | ⟨g, f, h⟩ | ⟨g, f, h⟩ | ⟨g, f, h⟩
    · exact Or.inl ⟨g, f, rulN_bN h⟩
    · exact Or.inr (Or.inl ⟨g, ⟨f.1, f.2.1, f.2.2.1, f.2.2.2.1, f.2.2.2.2.1, congrArg bN f.2.2.2.2.2.1, f.2.2.2.2.2.2.1, f.2.2.2.2.2.2.2.1, f.2.2.2.2.2.2.2.2⟩, h⟩)
    · exact Or.inr (Or.inr (Or.inl ⟨g, ⟨f.1, f.2.1, f.2.2.1, f.2.2.2.1, f.2.2.2.2.1, congrArg bN f.2.2.2.2.2.1, f.2.2.2.2.2.2.1, f.2.2.2.2.2.2.2⟩, h⟩))
    · exact Or.inr (Or.inr (Or.inr (Or.inl ⟨g, ⟨f.1, f.2.1, f.2.2.1, f.2.2.2.1, congrArg bN f.2.2.2.2.1, f.2.2.2.2.2.1, f.2.2.2.2.2.2⟩, h⟩)))
    · exact Or.inr (Or.inr (Or.inr (Or.inr (Or.inl ⟨g, ⟨f.1, f.2.1, f.2.2.1, f.2.2.2.1, congrArg bN f.2.2.2.2.1, f.2.2.2.2.2.1, f.2.2.2.2.2.2.1, f.2.2.2.2.2.2.2⟩, rulB_bN h⟩))))
    · exact Or.inr (Or.inr (Or.inr (Or.inr (Or.inr ⟨g, ⟨f.1, f.2.1, f.2.2.1, f.2.2.2.1, f.2.2.2.2.1, congrArg bN f.2.2.2.2.2.1, f.2.2.2.2.2.2.1, f.2.2.2.2.2.2.2.1, f.2.2.2.2.2.2.2.2⟩, h⟩))))
  · exact Or.inr (Or.inr (Or.inl ⟨g, ⟨f.1, f.2.1, f.2.2.1, f.2.2.2.1, f.2.2.2.2.1, f.2.2.2.2.2.1, f.2.2.2.2.2.2.1, f.2.2.2.2.2.2.2.1, f.2.2.2.2.2.2.2.2.1, f.2.2.2.2.2.2.2.2.2.1, f.2.2.2.2.2.2.2.2.2.2.1, f.2.2.2.2.2.2.2.2.2.2.2.1, f.2.2.2.2.2.2.2.2.2.2.2.2.1, congrArg bN f.2.2.2.2.2.2.2.2.2.2.2.2.2.1, f.2.2.2.2.2.2.2.2.2.2.2.2.2.2.1, f.2.2.2.2.2.2.2.2.2.2.2.2.2.2.2.1, f.2.2.2.2.2.2.2.2.2.2.2.2.2.2.2.2.1, f.2.2.2.2.2.2.2.2.2.2.2.2.2.2.2.2.2⟩, h⟩))
  · exact Or.inr (Or.inr (Or.inr ⟨g, ⟨f.1, f.2.1, f.2.2.1, f.2.2.2.1, f.2.2.2.2.1, f.2.2.2.2.2.1, f.2.2.2.2.2.2.1, f.2.2.2.2.2.2.2.1, f.2.2.2.2.2.2.2.2.1, f.2.2.2.2.2.2.2.2.2.1, f.2.2.2.2.2.2.2.2.2.2.1, f.2.2.2.2.2.2.2.2.2.2.2.1, f.2.2.2.2.2.2.2.2.2.2.2.2.1, congrArg bN f.2.2.2.2.2.2.2.2.2.2.2.2.2.1, f.2.2.2.2.2.2.2.2.2.2.2.2.2.2.1, f.2.2.2.2.2.2.2.2.2.2.2.2.2.2.2.1, f.2.2.2.2.2.2.2.2.2.2.2.2.2.2.2.2⟩, tarN_bN h⟩))
theorem xstep_nm {kd : Int} {dot : Prop} {nu nu' at_ at' : Int} {cc : Int → Int} {ru xst tc xop : Int} {wt : Int → Int} {wc r st2 tc2 xop2 : Int} {wt2 : Int → Int} {wc2 ic2 : Int} (hn : kd = 1 → at_ = at') (hu : kd = 2 → nu = nu') (h : rXStep kd dot nu at_ cc ru xst tc xop wt wc r st2 tc2 xop2 wt2 wc2 ic2) : rXStep kd dot nu' at' cc ru xst tc xop wt wc r st2 tc2 xop2 wt2 wc2 ic2 := by
  by_cases a : kd = 1
  · rw [← hn a]
    rcases h with ⟨g, f, h⟩ | h | h | h
    · refine Or.inl ⟨g, f, ?_⟩
      rcases h with h | h | h
      · omega
      · omega
      · exact Or.inr (Or.inr h)
    · exact Or.inr (Or.inl h)
    · exact Or.inr (Or.inr (Or.inl h))
    · exact Or.inr (Or.inr (Or.inr h))
  · have h0 : rXStep kd dot nu at' cc ru xst tc xop wt wc r st2 tc2 xop2 wt2 wc2 ic2 := by
      rcases h with h | h | ⟨g, f, h⟩ | h
      · exact Or.inl h
      · exact Or.inr (Or.inl h)
      · refine Or.inr (Or.inr (Or.inl ⟨g, f, ?_⟩))
        rcases h with h | h | h
        · exact Or.inl h
        · omega
        · omega
      · exact Or.inr (Or.inr (Or.inr h))
    by_cases b : kd = 2
    · rw [← hu b]
      exact h0
    · rcases h0 with ⟨g, f, h⟩ | h | h | h
      · refine Or.inl ⟨g, f, ?_⟩
        rcases h with h | h | h
        · omega
        · omega
        · exact Or.inr (Or.inr h)
      · exact Or.inr (Or.inl h)
      · exact Or.inr (Or.inr (Or.inl h))
      · exact Or.inr (Or.inr (Or.inr h))
theorem cls_x {tx : Int → Int} {n : Int} {st : Int} {ri : Int} {tp : Int} {ts : Int} {be : Int} {sc : Int} {rc : Int} {xst : Int} {tc : Int} {xop : Int} {wc : Int} {sn : Int → Int} {ac : Int → Int} {ic : Int → Int} {an : Int → Int} {ih : Int → Int} {rn : Int → Int} {rs : Int → Int} {cc : Int → Int} {cs : Int → Int} {wt : Int → Int} {r : Int} {st2 xst2 tc2 xop2 wc2 : Int} {wt2 : Int → Int} {a nu nm xru xta : Int} {op od : Int → Int} {cz : Int} {hgs ce ec op2 od2 : Int → Int} {cz2 : Int} {hgs2 ce2 ec2 : Int → Int} {ici ico : Int} (h : oXStep (kKA tx n a) (kRun isBl tx n (kBA tx n a) < n ∧ tx (kRun isBl tx n (kBA tx n a)) = 46) nu (kAtt rs ac an xru xop nm) cc xru xta xst tc xop wt wc op od cz hgs ce ec ici r xst2 tc2 xop2 wt2 wc2 op2 od2 cz2 hgs2 ce2 ec2 ico) (ha : a = kRun isBl tx n be) (hi : ici = 0) (hru : xru = rc - 1) (hnm : kKA tx n a = 1 → nm = kCv tx n a 0) (hnu : kKA tx n a = 2 → nu = kDv tx n a 0) (h14 : st = 14) (hst : r = 0 → st2 = if ico = 1 then 9 else 14) : STEP tx n (mkS st ri tp ts be sc rc xst tc xop wc sn ac ic an ih rn rs cc cs wt) r (mkS st2 ri tp ts (kBA tx n a) sc rc xst2 tc2 xop2 wc2 sn ac ic an ih rn rs cc cs wt2) := by
  subst ha hi hru h14
  exact ⟨rfl, Or.inl ⟨rfl, ⟨rfl, rfl, rfl, rfl, rfl, rfl, rfl, rfl, rfl, rfl, rfl, rfl, rfl, rfl⟩, ico, xstep_nm (fun z => by rw [hnm z]; rfl) hnu (xstep_r h), hst⟩⟩
theorem cls_a {tx : Int → Int} {n : Int} {st : Int} {ri : Int} {tp : Int} {ts : Int} {be : Int} {sc : Int} {rc : Int} {xst : Int} {tc : Int} {xop : Int} {wc : Int} {sn : Int → Int} {ac : Int → Int} {ic : Int → Int} {an : Int → Int} {ih : Int → Int} {rn : Int → Int} {rs : Int → Int} {cc : Int → Int} {cs : Int → Int} {wt : Int → Int} {r : Int} {st2 : Int} {sc2 : Int} {sn2 : Int → Int} {ac2 : Int → Int} {ic2 : Int → Int} {an2 : Int → Int} {ih2 : Int → Int} {ri2 : Int} {tp2 : Int} {rc2 : Int} {rn2 : Int → Int} {cc2 : Int → Int} {cs2 : Int → Int} {rs2 : Int → Int} {ts2 : Int} {a nu nm : Int} {rk ec ce hgs rk2 ec2 ce2 hgs2 : Int → Int} (h : oStepA (kKA tx n a) nm nu st sc sn ac ic an ih rk ri tp rc rn cc ec cs ce hgs rs ts r st2 sc2 sn2 ac2 ic2 an2 ih2 rk2 ri2 tp2 rc2 rn2 cc2 ec2 cs2 ce2 hgs2 rs2 ts2) (ha : a = kRun isBl tx n be) (hnm : kKA tx n a = 1 → nm = kCv tx n a 0) (hnu : kKA tx n a = 2 → nu = kDv tx n a 0) (h13 : st < 13) : STEP tx n (mkS st ri tp ts be sc rc xst tc xop wc sn ac ic an ih rn rs cc (bN cs) wt) r (mkS st2 ri2 tp2 ts2 (kBA tx n a) sc2 rc2 xst tc xop wc sn2 ac2 ic2 an2 ih2 rn2 rs2 cc2 (bN cs2) wt) := by
  subst ha
  exact ⟨rfl, Or.inr (Or.inl ⟨h13, ⟨rfl, rfl, rfl, rfl, rfl⟩, rk, ec, ce, hgs, rk2, ec2, ce2, hgs2, stepA_bN (stepA_nm hnm hnu h)⟩)⟩
theorem cls_b {tx : Int → Int} {n : Int} {st : Int} {ri : Int} {tp : Int} {ts : Int} {be : Int} {sc : Int} {rc : Int} {xst : Int} {tc : Int} {xop : Int} {wc : Int} {sn : Int → Int} {ac : Int → Int} {ic : Int → Int} {an : Int → Int} {ih : Int → Int} {rn : Int → Int} {rs : Int → Int} {cc : Int → Int} {cs : Int → Int} {wt : Int → Int} {r st2 : Int} {a cz : Int} (h : oGoIf (kKA tx n a) 61 14 st r st2) (ha : a = kRun isBl tx n be) (h13 : st = 13) (hz : 0 ≤ cz) : STEP tx n (mkS st ri tp ts be sc rc xst tc xop wc sn ac ic an ih rn rs cc (bN cs) wt) r (mkS st2 ri tp ts (kBA tx n a) sc rc 0 0 xop 0 sn ac ic an ih rn rs cc (bN (zU cs ts cz)) wt) := by
  subst ha
  exact ⟨rfl, Or.inr (Or.inr ⟨h13, ⟨rfl, rfl, rfl, rfl, rfl, rfl, rfl, rfl, rfl, rfl, rfl, rfl, rfl, rfl, rfl⟩, ⟨bN_put cs hz, rfl, rfl, rfl⟩, h⟩)⟩
