/-! the steps of a grammar's reader together -/
def oSymS (kd nm : Int) (st : Int) (sc : Int) (sn : Int → Int) (ac : Int → Int) (ic : Int → Int) (an : Int → Int) (ih : Int → Int) (rk : Int → Int) (ri : Int) (r : Int) (st2 : Int) (sc2 : Int) (sn2 : Int → Int) (ac2 : Int → Int) (ic2 : Int → Int) (an2 : Int → Int) (ih2 : Int → Int) (rk2 : Int → Int) (ri2 : Int) : Prop :=
  (st = 1 ∧ (an2 = an ∧ ih2 = ih ∧ rk2 = rk ∧ ri2 = ri) ∧ oSymN kd nm sc sn ac ic st r st2 sc2 sn2 ac2 ic2)
  ∨ (st = 2 ∧ (sc2 = sc ∧ sn2 = sn ∧ ac2 = ac ∧ ic2 = ic ∧ an2 = an ∧ ih2 = ih ∧ rk2 = rk) ∧ oSymB kd st ri r st2 ri2)
  ∨ (st = 3 ∧ (sc2 = sc ∧ sn2 = sn ∧ ri2 = ri) ∧ oAttN kd nm sc ri ac ic an ih rk st r st2 ac2 ic2 an2 ih2 rk2)
  ∨ (st = 4 ∧ (sc2 = sc ∧ sn2 = sn ∧ ac2 = ac ∧ ic2 = ic ∧ an2 = an ∧ ih2 = ih ∧ rk2 = rk ∧ ri2 = ri) ∧ ((kd = 6 ∧ r = 0 ∧ st2 = 5) ∨ (¬ kd = 6 ∧ oGoIf kd 3 1 st r st2)))
  ∨ (¬ (1 ≤ st ∧ st ≤ 4) ∧ (sc2 = sc ∧ sn2 = sn ∧ ac2 = ac ∧ ic2 = ic ∧ an2 = an ∧ ih2 = ih ∧ rk2 = rk ∧ ri2 = ri) ∧ oGoIf kd 3 1 st r st2)

def oRulS (kd nm nu sc : Int) (sn ac ih ic : Int → Int) (st : Int) (tp : Int) (rc : Int) (rn : Int → Int) (cc : Int → Int) (ec : Int → Int) (cs : Int → Int) (ce : Int → Int) (hgs : Int → Int) (rs : Int → Int) (r : Int) (st2 : Int) (tp2 : Int) (rc2 : Int) (rn2 : Int → Int) (cc2 : Int → Int) (ec2 : Int → Int) (cs2 : Int → Int) (ce2 : Int → Int) (hgs2 : Int → Int) (rs2 : Int → Int) : Prop :=
  (st = 5 ∧ (tp2 = tp ∧ rs2 = rs) ∧ oRulN kd nm rc rn cc ec cs ce hgs st r st2 rc2 rn2 cc2 ec2 cs2 ce2 hgs2)
  ∨ (st = 6 ∧ (tp2 = tp ∧ rc2 = rc ∧ rn2 = rn ∧ cc2 = cc ∧ ec2 = ec ∧ cs2 = cs ∧ ce2 = ce ∧ hgs2 = hgs ∧ rs2 = rs) ∧ oGoIf kd 61 7 st r st2)
  ∨ (st = 7 ∧ (tp2 = tp ∧ rc2 = rc ∧ rn2 = rn ∧ cc2 = cc ∧ ec2 = ec ∧ cs2 = cs ∧ ce2 = ce ∧ hgs2 = hgs) ∧ oRulH kd nm sc (rc - 1) sn rs st r st2 rs2)
  ∨ (st = 8 ∧ (tp2 = tp ∧ rc2 = rc ∧ rn2 = rn ∧ ec2 = ec ∧ cs2 = cs ∧ ce2 = ce ∧ hgs2 = hgs) ∧ oRulC kd nm sc (rc - 1) sn rs cc st r st2 rs2 cc2)
  ∨ (st = 9 ∧ (rc2 = rc ∧ rn2 = rn ∧ cc2 = cc ∧ ec2 = ec ∧ cs2 = cs ∧ ce2 = ce ∧ hgs2 = hgs ∧ rs2 = rs) ∧ oRulB kd nu (rc - 1) rs ac ih cs cc st tp r st2 tp2)
  ∨ (st = 10 ∧ (tp2 = tp ∧ rc2 = rc ∧ rn2 = rn ∧ cc2 = cc ∧ ec2 = ec ∧ cs2 = cs ∧ ce2 = ce ∧ hgs2 = hgs ∧ rs2 = rs) ∧ oBehR kd ic st r st2)

def oStepA (kd nm nu : Int) (st : Int) (sc : Int) (sn : Int → Int) (ac : Int → Int) (ic : Int → Int) (an : Int → Int) (ih : Int → Int) (rk : Int → Int) (ri : Int) (tp : Int) (rc : Int) (rn : Int → Int) (cc : Int → Int) (ec : Int → Int) (cs : Int → Int) (ce : Int → Int) (hgs : Int → Int) (rs : Int → Int) (ts : Int) (r : Int) (st2 : Int) (sc2 : Int) (sn2 : Int → Int) (ac2 : Int → Int) (ic2 : Int → Int) (an2 : Int → Int) (ih2 : Int → Int) (rk2 : Int → Int) (ri2 : Int) (tp2 : Int) (rc2 : Int) (rn2 : Int → Int) (cc2 : Int → Int) (ec2 : Int → Int) (cs2 : Int → Int) (ce2 : Int → Int) (hgs2 : Int → Int) (rs2 : Int → Int) (ts2 : Int) : Prop :=
  (st ≤ 4 ∧ (tp2 = tp ∧ rc2 = rc ∧ rn2 = rn ∧ cc2 = cc ∧ ec2 = ec ∧ cs2 = cs ∧ ce2 = ce ∧ hgs2 = hgs ∧ rs2 = rs ∧ ts2 = ts) ∧ oSymS kd nm st sc sn ac ic an ih rk ri r st2 sc2 sn2 ac2 ic2 an2 ih2 rk2 ri2)
  ∨ ((4 < st ∧ st ≤ 10) ∧ (sc2 = sc ∧ sn2 = sn ∧ ac2 = ac ∧ ic2 = ic ∧ an2 = an ∧ ih2 = ih ∧ rk2 = rk ∧ ri2 = ri ∧ ts2 = ts) ∧ oRulS kd nm nu sc sn ac ih ic st tp rc rn cc ec cs ce hgs rs r st2 tp2 rc2 rn2 cc2 ec2 cs2 ce2 hgs2 rs2)
  ∨ (st = 11 ∧ (sc2 = sc ∧ sn2 = sn ∧ ac2 = ac ∧ ic2 = ic ∧ an2 = an ∧ ih2 = ih ∧ rk2 = rk ∧ ri2 = ri ∧ tp2 = tp ∧ rc2 = rc ∧ rn2 = rn ∧ cc2 = cc ∧ ec2 = ec ∧ cs2 = cs ∧ ce2 = ce ∧ hgs2 = hgs ∧ rs2 = rs ∧ ts2 = ts) ∧ oGoIf kd 46 12 st r st2)
  ∨ (st = 12 ∧ (sc2 = sc ∧ sn2 = sn ∧ ac2 = ac ∧ ic2 = ic ∧ an2 = an ∧ ih2 = ih ∧ rk2 = rk ∧ ri2 = ri ∧ tp2 = tp ∧ rc2 = rc ∧ rn2 = rn ∧ cc2 = cc ∧ ec2 = ec ∧ cs2 = cs ∧ ce2 = ce ∧ hgs2 = hgs ∧ rs2 = rs) ∧ oTarN kd nm (rc - 1) tp rs ac an ih cs st ts r st2 ts2)
