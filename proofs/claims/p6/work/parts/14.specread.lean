/-! a grammar's reader, a step for each TOKEN -/
def oGoIf (kd k nx st r st2 : Int) : Prop := (r = 0 ∧ kd = k ∧ st2 = nx) ∨ (r = 1 ∧ ¬ kd = k ∧ st2 = st)
def oSymN (kd nm sc : Int) (sn ac ic : Int → Int) (st r st2 sc2 : Int) (sn2 ac2 ic2 : Int → Int) : Prop :=
  (((r = 1 ∧ ¬ kd = 1) ∨ (r = 2 ∧ kd = 1 ∧ ¬ kFnd sn sc nm 0 = -1) ∨ (r = 4 ∧ kd = 1 ∧ kFnd sn sc nm 0 = -1 ∧ 12 ≤ sc)) ∧ st2 = st ∧ sc2 = sc ∧ sn2 = sn ∧ ac2 = ac ∧ ic2 = ic)
  ∨ (r = 0 ∧ kd = 1 ∧ kFnd sn sc nm 0 = -1 ∧ sc < 12 ∧ st2 = 2 ∧ sc2 = sc + 1 ∧ sn2 = zU sn sc nm ∧ ac2 = zU ac sc 0 ∧ ic2 = zU ic sc 0)
def oSymB (kd st ri r st2 ri2 : Int) : Prop := (r = 0 ∧ kd = 59 ∧ st2 = 4 ∧ ri2 = ri) ∨ (r = 1 ∧ ¬ (kd = 59 ∨ kd = 4 ∨ kd = 5) ∧ st2 = st ∧ ri2 = ri) ∨ (r = 0 ∧ kd = 4 ∧ st2 = 3 ∧ ri2 = 1) ∨ (r = 0 ∧ kd = 5 ∧ st2 = 3 ∧ ri2 = 0)
/-- an attribute's place by its name, of a symbol -/
def kAttS (ac an : Int → Int) (s nm : Int) : Int := kFnd (fun j => an (6 * s + j)) (ac s) nm 0
theorem kAttS_rng (ac an : Int → Int) (s nm : Int) : kAttS ac an s nm = -1 ∨ (0 ≤ kAttS ac an s nm ∧ kAttS ac an s nm < ac s ∧ an (6 * s + kAttS ac an s nm) = nm) := kFnd_rng (fun j => an (6 * s + j)) (ac s) nm 0
def oAttN (kd nm sc ri : Int) (ac ic an ih rk : Int → Int) (st r st2 : Int) (ac2 ic2 an2 ih2 rk2 : Int → Int) : Prop :=
  (((r = 1 ∧ ¬ (kd = 1 ∧ 0 ≤ sc - 1)) ∨ (r = 2 ∧ kd = 1 ∧ 0 ≤ sc - 1 ∧ ¬ kAttS ac an (sc - 1) nm = -1) ∨ (r = 4 ∧ kd = 1 ∧ 0 ≤ sc - 1 ∧ kAttS ac an (sc - 1) nm = -1 ∧ 6 ≤ ac (sc - 1))) ∧ st2 = st ∧ ac2 = ac ∧ ic2 = ic ∧ an2 = an ∧ ih2 = ih ∧ rk2 = rk)
  ∨ (r = 0 ∧ kd = 1 ∧ 0 ≤ sc - 1 ∧ kAttS ac an (sc - 1) nm = -1 ∧ ac (sc - 1) < 6 ∧ st2 = 2 ∧ ac2 = zU ac (sc - 1) (ac (sc - 1) + 1) ∧ ic2 = zU ic (sc - 1) (ic (sc - 1) + ri) ∧ an2 = zU an (6 * (sc - 1) + ac (sc - 1)) nm ∧ ih2 = zU ih (6 * (sc - 1) + ac (sc - 1)) ri ∧ rk2 = zU rk (6 * (sc - 1) + ac (sc - 1)) (if ri = 1 then ic (sc - 1) else ac (sc - 1) - ic (sc - 1)))
def oRulN (kd nm rc : Int) (rn cc ec cs ce hgs : Int → Int) (st r st2 rc2 : Int) (rn2 cc2 ec2 cs2 ce2 hgs2 : Int → Int) : Prop :=
  (((r = 1 ∧ ¬ kd = 1) ∨ (r = 2 ∧ kd = 1 ∧ ¬ kFnd rn rc nm 0 = -1) ∨ (r = 4 ∧ kd = 1 ∧ kFnd rn rc nm 0 = -1 ∧ 30 ≤ rc)) ∧ st2 = st ∧ rc2 = rc ∧ rn2 = rn ∧ cc2 = cc ∧ ec2 = ec ∧ cs2 = cs ∧ ce2 = ce ∧ hgs2 = hgs)
  ∨ (r = 0 ∧ kd = 1 ∧ kFnd rn rc nm 0 = -1 ∧ rc < 30 ∧ st2 = 6 ∧ rc2 = rc + 1 ∧ rn2 = zU rn rc nm ∧ cc2 = zU cc rc 0 ∧ ec2 = zU ec rc 0 ∧ cs2 = zFill cs (24 * rc) (24 * rc + 24) (-1) ∧ ce2 = zFill ce (24 * rc) (24 * rc + 24) (-1) ∧ hgs2 = zFill hgs (24 * rc) (24 * rc + 24) 0)
def oRulH (kd nm sc ru : Int) (sn rs : Int → Int) (st r st2 : Int) (rs2 : Int → Int) : Prop :=
  (((r = 1 ∧ ¬ kd = 1) ∨ (r = 3 ∧ kd = 1 ∧ kFnd sn sc nm 0 = -1)) ∧ st2 = st ∧ rs2 = rs)
  ∨ (r = 0 ∧ kd = 1 ∧ ¬ kFnd sn sc nm 0 = -1 ∧ st2 = 8 ∧ rs2 = zU rs (4 * ru) (kFnd sn sc nm 0))
def oRulC (kd nm sc ru : Int) (sn rs cc : Int → Int) (st r st2 : Int) (rs2 cc2 : Int → Int) : Prop :=
  (r = 0 ∧ kd = 58 ∧ st2 = 9 ∧ rs2 = rs ∧ cc2 = cc)
  ∨ (((r = 1 ∧ ¬ kd = 58 ∧ ¬ kd = 1) ∨ (r = 3 ∧ kd = 1 ∧ kFnd sn sc nm 0 = -1) ∨ (r = 4 ∧ kd = 1 ∧ ¬ kFnd sn sc nm 0 = -1 ∧ 3 ≤ cc ru)) ∧ st2 = st ∧ rs2 = rs ∧ cc2 = cc)
  ∨ (r = 0 ∧ kd = 1 ∧ ¬ kFnd sn sc nm 0 = -1 ∧ cc ru < 3 ∧ st2 = st ∧ cc2 = zU cc ru (cc ru + 1) ∧ rs2 = zU rs (4 * ru + (cc ru + 1)) (kFnd sn sc nm 0))
def kLackAt (rs ac ih cs : Int → Int) (ru p a : Int) : Prop := 0 ≤ a ∧ a < ac (rs (4 * ru + p)) ∧ (ih (6 * rs (4 * ru + p) + a) = 1 ↔ 0 < p) ∧ cs (24 * ru + 6 * p + a) = -1
def kLack (rs ac ih cs cc : Int → Int) (ru : Int) : Prop := ∃ p a : Int, 0 ≤ p ∧ p ≤ cc ru ∧ kLackAt rs ac ih cs ru p a
def oRulB (kd nu ru : Int) (rs ac ih cs cc : Int → Int) (st tp r st2 tp2 : Int) : Prop :=
  (r = 8 ∧ kd = 7 ∧ kLack rs ac ih cs cc ru ∧ st2 = st ∧ tp2 = tp) ∨ (r = 0 ∧ kd = 7 ∧ ¬ kLack rs ac ih cs cc ru ∧ st2 = 10 ∧ tp2 = tp)
  ∨ (r = 1 ∧ ¬ (kd = 7 ∨ kd = 2) ∧ st2 = st ∧ tp2 = tp) ∨ (r = 3 ∧ kd = 2 ∧ cc ru < nu ∧ st2 = st ∧ tp2 = tp) ∨ (r = 0 ∧ kd = 2 ∧ nu ≤ cc ru ∧ st2 = 11 ∧ tp2 = nu)
def oBehR (kd : Int) (ic : Int → Int) (st r st2 : Int) : Prop := (r = 0 ∧ kd = 6 ∧ st2 = 5) ∨ (r = 1 ∧ ¬ (kd = 6 ∨ kd = 0) ∧ st2 = st) ∨ (r = 9 ∧ kd = 0 ∧ 0 < ic 0 ∧ st2 = st) ∨ (r = 0 ∧ kd = 0 ∧ ic 0 ≤ 0 ∧ st2 = 15)
def oTarN (kd nm ru tp : Int) (rs ac an ih cs : Int → Int) (st ts r st2 ts2 : Int) : Prop :=
  (((r = 1 ∧ ¬ kd = 1) ∨ (r = 3 ∧ kd = 1 ∧ kAttS ac an (rs (4 * ru + tp)) nm = -1) ∨ (r = 6 ∧ kd = 1 ∧ ¬ kAttS ac an (rs (4 * ru + tp)) nm = -1 ∧ ¬ (ih (6 * rs (4 * ru + tp) + kAttS ac an (rs (4 * ru + tp)) nm) = 1 ↔ 0 < tp))) ∧ st2 = st ∧ ts2 = ts)
  ∨ (kd = 1 ∧ ¬ kAttS ac an (rs (4 * ru + tp)) nm = -1 ∧ (ih (6 * rs (4 * ru + tp) + kAttS ac an (rs (4 * ru + tp)) nm) = 1 ↔ 0 < tp) ∧ ts2 = 24 * ru + 6 * tp + kAttS ac an (rs (4 * ru + tp)) nm ∧ ((r = 7 ∧ ¬ cs (24 * ru + 6 * tp + kAttS ac an (rs (4 * ru + tp)) nm) = -1 ∧ st2 = st) ∨ (r = 0 ∧ cs (24 * ru + 6 * tp + kAttS ac an (rs (4 * ru + tp)) nm) = -1 ∧ st2 = 13)))
