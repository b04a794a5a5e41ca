/-! what holds always of the tables of the class's grammar -/
def TBL (sc rc : Int) (sn ac ic an ih rk rn rs cc cs ce : Int → Int) : Prop := ((0 ≤ sc ∧ sc ≤ 12) ∧ (0 ≤ rc ∧ rc ≤ 30)) ∧ BR sn 12 0 9223372036854775808 ∧ BR ac 12 0 7 ∧ (∀ j : Int, 0 ≤ j ∧ j < 12 → 0 ≤ ic j ∧ ic j ≤ ac j) ∧ BR an 72 0 9223372036854775808 ∧ BR ih 72 0 2 ∧ RKI ac ic ih rk ∧ BR rn 30 0 9223372036854775808 ∧ BR rs 120 0 12 ∧ BR cc 30 0 4 ∧ BR cs 720 (-1) 3001 ∧ BR ce 720 (-1) 3001 ∧ (∀ j : Int, 0 ≤ j ∧ j < 720 → cs j = -1 → ce j = -1)
theorem tb_symN {sc : Int} {rc : Int} {sn : Int → Int} {ac : Int → Int} {ic : Int → Int} {an : Int → Int} {ih : Int → Int} {rk : Int → Int} {rn : Int → Int} {rs : Int → Int} {cc : Int → Int} {cs : Int → Int} {ce : Int → Int} {nm : Int} (h : TBL sc rc sn ac ic an ih rk rn rs cc cs ce) (hn : 0 ≤ nm ∧ nm < 9223372036854775808) (hl : sc < 12) : TBL (sc + 1) rc (zU sn sc nm) (zU ac sc 0) (zU ic sc 0) an ih rk rn rs cc cs ce := by
  obtain ⟨⟨h1, h2⟩, hsn, hac, hic, han, hih, hrk, hrn, hrs, hcc, hcs, hce, hcce⟩ := h
  refine ⟨⟨by omega, h2⟩, brU hsn (by omega), brU hac (by omega), ?_, han, hih, ?_, hrn, hrs, hcc, hcs, hce, hcce⟩
  · intro j hj
    by_cases q : j = sc
    · rw [q, zU_s, zU_s]
      omega
    · rw [zU_n q, zU_n q]
      exact hic j hj
  · intro s a hs ha
    by_cases q : s = sc
    · rw [q, zU_s] at ha
      omega
    · rw [zU_n q] at ha ⊢
      rw [zU_n q]
      exact hrk s a hs ha
theorem tb_attN {sc : Int} {rc : Int} {sn : Int → Int} {ac : Int → Int} {ic : Int → Int} {an : Int → Int} {ih : Int → Int} {rk : Int → Int} {rn : Int → Int} {rs : Int → Int} {cc : Int → Int} {cs : Int → Int} {ce : Int → Int} {nm ri : Int} (h : TBL sc rc sn ac ic an ih rk rn rs cc cs ce) (hn : 0 ≤ nm ∧ nm < 9223372036854775808) (hl : 0 ≤ sc - 1) (h6 : ac (sc - 1) < 6) (hri : ri = 0 ∨ ri = 1) : TBL sc rc sn (zU ac (sc - 1) (ac (sc - 1) + 1)) (zU ic (sc - 1) (ic (sc - 1) + ri)) (zU an (6 * (sc - 1) + ac (sc - 1)) nm) (zU ih (6 * (sc - 1) + ac (sc - 1)) ri) (zU rk (6 * (sc - 1) + ac (sc - 1)) (if ri = 1 then ic (sc - 1) else ac (sc - 1) - ic (sc - 1))) rn rs cc cs ce := by
  obtain ⟨⟨h1, h2⟩, hsn, hac, hic, han, hih, hrk, hrn, hrs, hcc, hcs, hce, hcce⟩ := h
  have z := hac (sc - 1) (by omega)
  have z2 := hic (sc - 1) (by omega)
  refine ⟨⟨h1, h2⟩, hsn, brU hac (by omega), ?_, brU han (by omega), brU hih (by omega), ?_, hrn, hrs, hcc, hcs, hce, hcce⟩
  · intro j hj
    by_cases q : j = sc - 1
    · rw [q, zU_s, zU_s]
      omega
    · rw [zU_n q, zU_n q]
      exact hic j hj
  · intro s a hs ha
    by_cases q : s = sc - 1
    · subst q
      rw [zU_s] at ha ⊢
      rw [zU_s]
      by_cases q2 : a = ac (sc - 1)
      · subst q2
        rw [zU_s, zU_s]
        rcases hri with rfl | rfl
        · rw [if_neg (by omega)]
          omega
        · rw [if_pos rfl]
          omega
      · rw [zU_n (by omega), zU_n (by omega)]
        have z3 := hrk (sc - 1) a hs (by omega)
        omega
    · rw [zU_n q] at ha ⊢
      have z4 := hac s hs
      rw [zU_n q, zU_n (by omega), zU_n (by omega)]
      exact hrk s a hs ha
theorem tb_fill {f : Int → Int} {a b n lo hi v : Int} (h : BR f n lo hi) (hv : lo ≤ v ∧ v < hi) : BR (zFill f a b v) n lo hi := by
  intro j hj
  by_cases q : a ≤ j ∧ j < b
  · rw [zFill_in q]
    exact hv
  · rw [zFill_out q]
    exact h j hj
theorem tb_rulN {sc : Int} {rc : Int} {sn : Int → Int} {ac : Int → Int} {ic : Int → Int} {an : Int → Int} {ih : Int → Int} {rk : Int → Int} {rn : Int → Int} {rs : Int → Int} {cc : Int → Int} {cs : Int → Int} {ce : Int → Int} {nm : Int} (h : TBL sc rc sn ac ic an ih rk rn rs cc cs ce) (hn : 0 ≤ nm ∧ nm < 9223372036854775808) (hl : rc < 30) : TBL sc (rc + 1) sn ac ic an ih rk (zU rn rc nm) rs (zU cc rc 0) (zFill cs (24 * rc) (24 * rc + 24) (-1)) (zFill ce (24 * rc) (24 * rc + 24) (-1)) := by
  obtain ⟨⟨h1, h2⟩, hsn, hac, hic, han, hih, hrk, hrn, hrs, hcc, hcs, hce, hcce⟩ := h
  refine ⟨⟨h1, by omega⟩, hsn, hac, hic, han, hih, hrk, brU hrn (by omega), hrs, brU hcc (by omega), tb_fill hcs (by omega), tb_fill hce (by omega), ?_⟩
  intro j hj
  by_cases q : 24 * rc ≤ j ∧ j < 24 * rc + 24
  · rw [zFill_in q, zFill_in q]
    exact fun z => z
  · rw [zFill_out q, zFill_out q]
    exact hcce j hj
theorem tb_rs {sc : Int} {rc : Int} {sn : Int → Int} {ac : Int → Int} {ic : Int → Int} {an : Int → Int} {ih : Int → Int} {rk : Int → Int} {rn : Int → Int} {rs : Int → Int} {cc : Int → Int} {cs : Int → Int} {ce : Int → Int} {k v : Int} (h : TBL sc rc sn ac ic an ih rk rn rs cc cs ce) (hv : 0 ≤ v ∧ v < 12) : TBL sc rc sn ac ic an ih rk rn (zU rs k v) cc cs ce := by
  obtain ⟨⟨h1, h2⟩, hsn, hac, hic, han, hih, hrk, hrn, hrs, hcc, hcs, hce, hcce⟩ := h
  exact ⟨⟨h1, h2⟩, hsn, hac, hic, han, hih, hrk, hrn, brU hrs (by omega), hcc, hcs, hce, hcce⟩
theorem tb_cc {sc : Int} {rc : Int} {sn : Int → Int} {ac : Int → Int} {ic : Int → Int} {an : Int → Int} {ih : Int → Int} {rk : Int → Int} {rn : Int → Int} {rs : Int → Int} {cc : Int → Int} {cs : Int → Int} {ce : Int → Int} {k v : Int} (h : TBL sc rc sn ac ic an ih rk rn rs cc cs ce) (hv : 0 ≤ v ∧ v < 4) : TBL sc rc sn ac ic an ih rk rn rs (zU cc k v) cs ce := by
  obtain ⟨⟨h1, h2⟩, hsn, hac, hic, han, hih, hrk, hrn, hrs, hcc, hcs, hce, hcce⟩ := h
  exact ⟨⟨h1, h2⟩, hsn, hac, hic, han, hih, hrk, hrn, hrs, brU hcc (by omega), hcs, hce, hcce⟩
theorem tb_cs {sc : Int} {rc : Int} {sn : Int → Int} {ac : Int → Int} {ic : Int → Int} {an : Int → Int} {ih : Int → Int} {rk : Int → Int} {rn : Int → Int} {rs : Int → Int} {cc : Int → Int} {cs : Int → Int} {ce : Int → Int} {k v : Int} (h : TBL sc rc sn ac ic an ih rk rn rs cc cs ce) (hv : 0 ≤ v ∧ v < 3001) : TBL sc rc sn ac ic an ih rk rn rs cc (zU cs k v) ce := by
  obtain ⟨⟨h1, h2⟩, hsn, hac, hic, han, hih, hrk, hrn, hrs, hcc, hcs, hce, hcce⟩ := h
  refine ⟨⟨h1, h2⟩, hsn, hac, hic, han, hih, hrk, hrn, hrs, hcc, brU hcs (by omega), hce, ?_⟩
  intro j hj
  by_cases q : j = k
  · rw [q, zU_s]
    exact fun z => by omega
  · rw [zU_n q]
    exact hcce j hj
theorem tb_ce {sc : Int} {rc : Int} {sn : Int → Int} {ac : Int → Int} {ic : Int → Int} {an : Int → Int} {ih : Int → Int} {rk : Int → Int} {rn : Int → Int} {rs : Int → Int} {cc : Int → Int} {cs : Int → Int} {ce : Int → Int} {k v : Int} (h : TBL sc rc sn ac ic an ih rk rn rs cc cs ce) (hv : -1 ≤ v ∧ v < 3001) (hk : ¬ cs k = -1) : TBL sc rc sn ac ic an ih rk rn rs cc cs (zU ce k v) := by
  obtain ⟨⟨h1, h2⟩, hsn, hac, hic, han, hih, hrk, hrn, hrs, hcc, hcs, hce, hcce⟩ := h
  refine ⟨⟨h1, h2⟩, hsn, hac, hic, han, hih, hrk, hrn, hrs, hcc, hcs, brU hce (by omega), ?_⟩
  intro j hj
  by_cases q : j = k
  · rw [q]
    exact fun z => absurd z hk
  · rw [zU_n q]
    exact hcce j hj
theorem stepA_tb {kd nm nu : Int} {st : Int} {sc : Int} {sn : Int → Int} {ac : Int → Int} {ic : Int → Int} {an : Int → Int} {ih : Int → Int} {rk : Int → Int} {ri : Int} {tp : Int} {rc : Int} {rn : Int → Int} {cc : Int → Int} {ec : Int → Int} {cs : Int → Int} {ce : Int → Int} {hgs : Int → Int} {rs : Int → Int} {ts : Int} {r : Int} {st2 : Int} {sc2 : Int} {sn2 : Int → Int} {ac2 : Int → Int} {ic2 : Int → Int} {an2 : Int → Int} {ih2 : Int → Int} {rk2 : Int → Int} {ri2 : Int} {tp2 : Int} {rc2 : Int} {rn2 : Int → Int} {cc2 : Int → Int} {ec2 : Int → Int} {cs2 : Int → Int} {ce2 : Int → Int} {hgs2 : Int → Int} {rs2 : Int → Int} {ts2 : Int} (h : oStepA kd nm nu st sc sn ac ic an ih rk ri tp rc rn cc ec cs ce hgs rs ts r st2 sc2 sn2 ac2 ic2 an2 ih2 rk2 ri2 tp2 rc2 rn2 cc2 ec2 cs2 ce2 hgs2 rs2 ts2) (ht : TBL sc rc sn ac ic an ih rk rn rs cc cs ce) (hn : kd = 1 → 0 ≤ nm ∧ nm < 9223372036854775808) (hri : ri = 0 ∨ ri = 1) (hr1 : 6 ≤ st → 1 ≤ rc) : TBL sc2 rc2 sn2 ac2 ic2 an2 ih2 rk2 rn2 rs2 cc2 cs2 ce2 ∧ (ri2 = 0 ∨ ri2 = 1) := by
  have hk : ∀ f : Int → Int, ∀ n : Int, ¬ kFnd f n nm 0 = -1 → 0 ≤ kFnd f n nm 0 ∧ kFnd f n nm 0 < n := by
    intro f n q
    rcases kFnd_rng f n nm 0 with z | z
    · exact absurd z q
    · omega
  have hs12 := ht.1.1
  rcases h with ⟨g, ⟨rfl, rfl, rfl, rfl, rfl, rfl, rfl, rfl, rfl, rfl⟩, h⟩ | ⟨g, ⟨rfl, rfl, rfl, rfl, rfl, rfl, rfl, rfl, rfl⟩, h⟩ | ⟨g, ⟨rfl, rfl, rfl, rfl, rfl, rfl, rfl, rfl, rfl, rfl, rfl, rfl, rfl, rfl, rfl, rfl, rfl, rfl⟩, h⟩ | ⟨g, ⟨rfl, rfl, rfl, rfl, rfl, rfl, rfl, rfl, rfl, rfl, rfl, rfl, rfl, rfl, rfl, rfl, rfl⟩, h⟩
  · rcases h with ⟨g, ⟨rfl, rfl, rfl, rfl⟩, h⟩ | ⟨g, ⟨rfl, rfl, rfl, rfl, rfl, rfl, rfl⟩, h⟩ | ⟨g, ⟨rfl, rfl, rfl⟩, h⟩ | ⟨g, ⟨rfl, rfl, rfl, rfl, rfl, rfl, rfl, rfl⟩, h⟩ | ⟨g, ⟨rfl, rfl, rfl, rfl, rfl, rfl, rfl, rfl⟩, h⟩
    · rcases h with ⟨-, rfl, rfl, rfl, rfl, rfl⟩ | ⟨-, q1, q2, q3, rfl, rfl, rfl, rfl, rfl⟩
      · exact ⟨ht, hri⟩
      · exact ⟨tb_symN ht (hn q1) q3, hri⟩
    · rcases h with q | q | q | q
      · exact ⟨ht, by omega⟩
      · exact ⟨ht, by omega⟩
      · exact ⟨ht, by omega⟩
      · exact ⟨ht, by omega⟩
    · rcases h with ⟨-, rfl, rfl, rfl, rfl, rfl, rfl⟩ | ⟨-, q1, q2, q3, q4, rfl, rfl, rfl, rfl, rfl, rfl⟩
      · exact ⟨ht, hri⟩
      · exact ⟨tb_attN ht (hn q1) q2 q4 hri, hri⟩
    · exact ⟨ht, hri⟩
    · exact ⟨ht, hri⟩
  · rcases h with ⟨g, ⟨rfl, rfl⟩, h⟩ | ⟨g, ⟨rfl, rfl, rfl, rfl, rfl, rfl, rfl, rfl, rfl⟩, h⟩ | ⟨g, ⟨rfl, rfl, rfl, rfl, rfl, rfl, rfl, rfl⟩, h⟩ | ⟨g, ⟨rfl, rfl, rfl, rfl, rfl, rfl, rfl⟩, h⟩ | ⟨g, ⟨rfl, rfl, rfl, rfl, rfl, rfl, rfl, rfl⟩, h⟩ | ⟨g, ⟨rfl, rfl, rfl, rfl, rfl, rfl, rfl, rfl, rfl⟩, h⟩
    · rcases h with ⟨-, rfl, rfl, rfl, rfl, rfl, rfl, rfl, rfl⟩ | ⟨-, q1, q2, q3, rfl, rfl, rfl, rfl, rfl, rfl, rfl, rfl⟩
      · exact ⟨ht, hri⟩
      · exact ⟨tb_rulN ht (hn q1) q3, hri⟩
    · exact ⟨ht, hri⟩
    · rcases h with ⟨-, rfl, rfl⟩ | ⟨-, q1, q2, rfl, rfl⟩
      · exact ⟨ht, hri⟩
      · have z := hk _ _ q2
        exact ⟨tb_rs ht (by omega), hri⟩
    · rcases h with ⟨-, -, rfl, rfl, rfl⟩ | ⟨-, rfl, rfl, rfl⟩ | ⟨-, q1, q2, q3, rfl, rfl, rfl⟩
      · exact ⟨ht, hri⟩
      · exact ⟨ht, hri⟩
      · have z := hk _ _ q2
        have z2 := ht.2.2.2.2.2.2.2.2.2.1 (rc2 - 1) (by have z3 := ht.1.2; omega)
        exact ⟨tb_cc (tb_rs ht (by omega)) (by omega), hri⟩
    · exact ⟨ht, hri⟩
    · exact ⟨ht, hri⟩
  · exact ⟨ht, hri⟩
  · exact ⟨ht, hri⟩
def STI (st rc tp ts : Int) : Prop := (0 ≤ st ∧ st ≤ 15) ∧ (6 ≤ st → 1 ≤ rc) ∧ (st = 11 ∨ st = 12 → 0 ≤ tp ∧ tp ≤ 3) ∧ (st = 13 → 0 ≤ ts ∧ ts < 720)
theorem stepA_st {kd nm nu : Int} {st : Int} {sc : Int} {sn : Int → Int} {ac : Int → Int} {ic : Int → Int} {an : Int → Int} {ih : Int → Int} {rk : Int → Int} {ri : Int} {tp : Int} {rc : Int} {rn : Int → Int} {cc : Int → Int} {ec : Int → Int} {cs : Int → Int} {ce : Int → Int} {hgs : Int → Int} {rs : Int → Int} {ts : Int} {r : Int} {st2 : Int} {sc2 : Int} {sn2 : Int → Int} {ac2 : Int → Int} {ic2 : Int → Int} {an2 : Int → Int} {ih2 : Int → Int} {rk2 : Int → Int} {ri2 : Int} {tp2 : Int} {rc2 : Int} {rn2 : Int → Int} {cc2 : Int → Int} {ec2 : Int → Int} {cs2 : Int → Int} {ce2 : Int → Int} {hgs2 : Int → Int} {rs2 : Int → Int} {ts2 : Int} (h : oStepA kd nm nu st sc sn ac ic an ih rk ri tp rc rn cc ec cs ce hgs rs ts r st2 sc2 sn2 ac2 ic2 an2 ih2 rk2 ri2 tp2 rc2 rn2 cc2 ec2 cs2 ce2 hgs2 rs2 ts2) (hr : r = 0) (hs : STI st rc tp ts) (ht : TBL sc rc sn ac ic an ih rk rn rs cc cs ce) (h13 : st < 13) (hu : 0 ≤ nu) : STI st2 rc2 tp2 ts2 ∧ ¬ st2 = 14 ∧ (kd = 0 → st2 = 15) := by
  obtain ⟨b1, b2, b3, b4⟩ := hs
  have hcc := ht.2.2.2.2.2.2.2.2.2.1
  have hrs := ht.2.2.2.2.2.2.2.2.1
  have hac := ht.2.2.1
  have hrc := ht.1.2
  have hgo : ∀ {k nx : Int}, oGoIf kd k nx st r st2 → st2 = nx ∧ kd = k := by
    intro k nx q
    rcases q with q | q
    · omega
    · omega
  unfold STI
  rcases h with ⟨g, ⟨rfl, rfl, rfl, rfl, rfl, rfl, rfl, rfl, rfl, rfl⟩, h⟩ | ⟨g, ⟨rfl, rfl, rfl, rfl, rfl, rfl, rfl, rfl, rfl⟩, h⟩ | ⟨g, ⟨rfl, rfl, rfl, rfl, rfl, rfl, rfl, rfl, rfl, rfl, rfl, rfl, rfl, rfl, rfl, rfl, rfl, rfl⟩, h⟩ | ⟨g, ⟨rfl, rfl, rfl, rfl, rfl, rfl, rfl, rfl, rfl, rfl, rfl, rfl, rfl, rfl, rfl, rfl, rfl⟩, h⟩
  · rcases h with ⟨g, ⟨rfl, rfl, rfl, rfl⟩, h⟩ | ⟨g, ⟨rfl, rfl, rfl, rfl, rfl, rfl, rfl⟩, h⟩ | ⟨g, ⟨rfl, rfl, rfl⟩, h⟩ | ⟨g, ⟨rfl, rfl, rfl, rfl, rfl, rfl, rfl, rfl⟩, h⟩ | ⟨g, ⟨rfl, rfl, rfl, rfl, rfl, rfl, rfl, rfl⟩, h⟩
    · rcases h with ⟨q, -⟩ | ⟨-, q1, q2, q3, q4, -⟩
      · omega
      · omega
    · rcases h with q | q | q | q <;> omega
    · rcases h with ⟨q, -⟩ | ⟨-, q1, q2, q3, q4, q5, -⟩
      · omega
      · omega
    · rcases h with q | ⟨q0, q⟩
      · omega
      · have z := hgo q
        omega
    · have z := hgo h
      omega
  · rcases h with ⟨g, ⟨rfl, rfl⟩, h⟩ | ⟨g, ⟨rfl, rfl, rfl, rfl, rfl, rfl, rfl, rfl, rfl⟩, h⟩ | ⟨g, ⟨rfl, rfl, rfl, rfl, rfl, rfl, rfl, rfl⟩, h⟩ | ⟨g, ⟨rfl, rfl, rfl, rfl, rfl, rfl, rfl⟩, h⟩ | ⟨g, ⟨rfl, rfl, rfl, rfl, rfl, rfl, rfl, rfl⟩, h⟩ | ⟨g, ⟨rfl, rfl, rfl, rfl, rfl, rfl, rfl, rfl, rfl⟩, h⟩
    · rcases h with ⟨q, -⟩ | ⟨-, q1, q2, q3, q4, q5, -⟩
      · omega
      · omega
    · have z := hgo h
      omega
    · rcases h with ⟨q, -⟩ | ⟨-, q1, q2, q4, -⟩
      · omega
      · omega
    · rcases h with ⟨-, q1, q2, -⟩ | ⟨q, q1, -⟩ | ⟨-, q1, q2, q3, q4, -⟩
      · omega
      · omega
      · omega
    · have z := hcc (rc2 - 1) (by omega)
      rcases h with q | ⟨-, q1, -, q2, q3⟩ | q | q | q
      · omega
      · omega
      · omega
      · omega
      · omega
    · rcases h with q | q | q | q <;> omega
  · have z := hgo h
    omega
  · have z := hrs (4 * (rc2 - 1) + tp2) (by omega)
    have z1 := hac _ z
    rcases h with ⟨q, -⟩ | ⟨q1, q2, -, q3, q4⟩
    · omega
    · have z2 := kAttS_rng ac2 an2 (rs2 (4 * (rc2 - 1) + tp2)) nm
      omega
