/-! the reference's TOKEN at hand -/
theorem met_imp {l : Launch} {y : MethodName} {ws : List Cond} {rm : Room} {Pc : Array Value → State → Prop} {Qc Qc2 : Array Value → State → Outcome → State → Prop} {mc ms : Nat} {free : Addr → Prop} (h : Met l y ws rm Pc Qc mc ms free) (hq : ∀ (a : Array Value) (st : State) (o : Outcome) (t : State), Qc a st o t → Qc2 a st o t) : Met l y ws rm Pc Qc2 mc ms free := by
  intro p e ha hf hc s m args below hfr hap hP hK
  obtain ⟨n, o, a, b, c, d⟩ := h p e ha hf hc s m args below hfr hap hP hK
  exact ⟨n, o, a, b, c, hq _ _ _ _ d.1, d.2⟩
def LKM (tx : Int → Int) (n tok a so to : Int) : Prop := so = kMS tx n tok ∧ to = kMT tx n tok ∧ kRun isBl tx n a = nxT tx n tok ∧ (0 ≤ tok ∧ tok ≤ n) ∧ (0 ≤ a ∧ a ≤ n) ∧ (n ≤ tok → a = n)
theorem kRun_idem {pq : Int → Bool} {tx : Int → Int} {n a : Int} (h : a ≤ n) : kRun pq tx n (kRun pq tx n a) = kRun pq tx n a := by
  have r := kRun_in (pq := pq) (tx := tx) (n := n) (a := a) h
  refine kRun_f (fun g => ?_)
  have z := kRun_end (pq := pq) (tx := tx) (n := n) _ a rfl g.1
  rw [g.2] at z
  exact absurd z (by decide)
theorem lk_next {tx : Int → Int} {n tok a so to : Int} (h : LKM tx n tok a so to) : kRun isBl tx n a = nxT tx n tok ∧ LKM tx n (kRun isBl tx n a) (kBA tx n (kRun isBl tx n a)) (kMS tx n (kRun isBl tx n a)) (kMT tx n (kRun isBl tx n a)) := by
  obtain ⟨h1, h2, h3, h4, h5, h6⟩ := h
  have r := kRun_in (pq := isBl) (tx := tx) (n := n) (a := a) h5.2
  have b := kBA_rng (tx := tx) (n := n) (a := kRun isBl tx n a) r.2
  exact ⟨h3, rfl, rfl, rfl, by omega, by omega, fun z => (kA_end z).2⟩
theorem lk_first {tx : Int → Int} {n a : Int} (h : 0 ≤ a ∧ a ≤ n) : LKM tx n (kRun isBl tx n a) (kBA tx n (kRun isBl tx n a)) (kMS tx n (kRun isBl tx n a)) (kMT tx n (kRun isBl tx n a)) := by
  have r := kRun_in (pq := isBl) (tx := tx) (n := n) (a := a) h.2
  have b := kBA_rng (tx := tx) (n := n) (a := kRun isBl tx n a) r.2
  exact ⟨rfl, rfl, rfl, by omega, by omega, fun z => (kA_end z).2⟩
theorem lk_ahead {tx : Int → Int} {n tok a so to : Int} (h : LKM tx n tok a so to) : LKM tx n tok (kRun isBl tx n a) so to := by
  obtain ⟨h1, h2, h3, h4, h5, h6⟩ := h
  have r := kRun_in (pq := isBl) (tx := tx) (n := n) (a := a) h5.2
  exact ⟨h1, h2, by rw [kRun_idem h5.2]; exact h3, h4, by omega, fun z => by have z2 := h6 z; omega⟩
theorem kMv_rng {tx : Int → Int} {n : Int} : ∀ (m : Nat) (a v k : Int), (n - a).toNat = m → 0 ≤ k → 0 ≤ v → (k ≤ 8 → v < p64 k) → v < 281474976710656 → 0 ≤ kMv tx n a v k ∧ kMv tx n a v k < 281474976710656 := by
  intro m
  induction m with
  | zero =>
    intro a v k hm h0 h1 h2 h3
    rw [kMv_f (by omega)]
    exact ⟨h1, h3⟩
  | succ m ih =>
    intro a v k hm h0 h1 h2 h3
    by_cases q : a < n ∧ isLt (tx a) = true
    · rw [kMv_t q.1 q.2]
      have z := kLo_rng (tx a)
      by_cases q8 : k < 8
      · rw [if_pos q8]
        have y := h2 (by omega)
        have y2 := p64_s (k := k) h0
        have y3 := p64_8 (k := k + 1) (by omega)
        exact ih (a + 1) _ (k + 1) (by omega) (by omega) (by omega) (fun _ => by omega) (by omega)
      · rw [if_neg q8]
        exact ih (a + 1) v (k + 1) (by omega) (by omega) h1 (fun _ => by omega) h3
    · rw [kMv_f q]
      exact ⟨h1, h3⟩
theorem kDvF_rng (tx : Int → Int) (n : Int) : ∀ (m : Nat) (a v : Int), 0 ≤ v → v ≤ 21474836479 → 0 ≤ kDvF tx n m a v ∧ kDvF tx n m a v ≤ 21474836479 := by
  intro m
  induction m with
  | zero => intro a v h1 h2; exact ⟨h1, h2⟩
  | succ m ih =>
    intro a v h1 h2
    show 0 ≤ (if a < n ∧ isDg (tx a) = true then kDvF tx n m (a + 1) (if v ≤ 2147483647 then 10 * v + tx a - 48 else v) else v) ∧ (if a < n ∧ isDg (tx a) = true then kDvF tx n m (a + 1) (if v ≤ 2147483647 then 10 * v + tx a - 48 else v) else v) ≤ 21474836479
    by_cases q : a < n ∧ isDg (tx a) = true
    · have z := isDg_t.mp q.2
      rw [if_pos q]
      by_cases q2 : v ≤ 2147483647
      · rw [if_pos q2]
        exact ih _ _ (by omega) (by omega)
      · rw [if_neg q2]
        exact ih _ _ h1 h2
    · rw [if_neg q]
      exact ⟨h1, h2⟩
theorem lk_rng {tx : Int → Int} {n tok a so to : Int} (hTx : ∀ j : Int, 0 ≤ j ∧ j < 3000 → -128 ≤ tx j ∧ tx j < 128) (hn : n ≤ 3000) (h : LKM tx n tok a so to) : (0 ≤ so ∧ so ≤ 5) ∧ (-128 ≤ to ∧ to < 281474976710656) ∧ (so = 1 → 0 ≤ to) ∧ (so = 3 → 0 ≤ to) ∧ (0 ≤ tok ∧ tok ≤ n) ∧ (0 ≤ a ∧ a ≤ n) ∧ (¬ so = 0 → tok < n) ∧ (n ≤ tok → so = 0) := by
  obtain ⟨h1, h2, h3, h4, h5, h6⟩ := h
  have t := tkr tx n tok
  have k0 : 0 ≤ kDv tx n tok 0 ∧ kDv tx n tok 0 ≤ 21474836479 := by
    rw [kDv_eq]
    exact kDvF_rng tx n _ tok 0 (by omega) (by omega)
  have e0 : n ≤ tok → kMS tx n tok = 0 ∧ kMT tx n tok = 0 := fun z => ⟨(mA_end z).1, (mA_end z).2.1⟩
  have m0 : -128 ≤ kMT tx n tok ∧ kMT tx n tok < 281474976710656 := by
    rcases Int.lt_or_le tok n with q | q
    · by_cases ql : isLt (tx tok) = true
      · have z := (mA_let (tx := tx) q ql).2.1
        rw [z]
        have y := kMv_rng (tx := tx) (n := n) _ tok 0 0 rfl (by omega) (by omega) (fun _ => by rw [p64_0]; omega) (by omega)
        have y2 := kWd_rng (kMv tx n tok 0 0)
        unfold kMt kMw
        split <;> split <;> omega
      · by_cases qd : isDg (tx tok) = true
        · rw [(mA_dig (tx := tx) q qd).2.1]
          omega
        · rw [(mA_oth (tx := tx) q ql qd).2.1]
          have z := hTx tok (by omega)
          omega
    · have z := (e0 q).2
      omega
  rcases t with t | t | t | t | t | t
  · exact ⟨by omega, by omega, fun z => by omega, fun z => by omega, h4, h5, fun z => by omega, fun z => by omega⟩
  · have g := nmr_ge t.2.2.1
    exact ⟨by omega, by omega, fun z => by omega, fun z => by omega, h4, h5, fun z => by omega, fun z => by omega⟩
  · exact ⟨by omega, by omega, fun z => by omega, fun z => by omega, h4, h5, fun z => by omega, fun z => by omega⟩
  · exact ⟨by omega, by omega, fun z => by omega, fun z => by omega, h4, h5, fun z => by omega, fun z => by omega⟩
  · exact ⟨by omega, by omega, fun z => by omega, fun z => by omega, h4, h5, fun z => by omega, fun z => by omega⟩
  · exact ⟨by omega, by omega, fun z => by omega, fun z => by omega, h4, h5, fun z => by omega, fun z => by omega⟩
theorem nxT_rng {tx : Int → Int} {n tok : Int} (h : tok ≤ n) : tok ≤ nxT tx n tok ∧ nxT tx n tok ≤ n ∧ (tok < n → tok + 1 ≤ nxT tx n tok) := by
  have b := kBA_rng (tx := tx) (n := n) (a := tok) h
  have r := kRun_in (pq := isBl) (tx := tx) (n := n) (a := kBA tx n tok) b.2.1
  unfold nxT
  omega
theorem lk_r4 {tx : Int → Int} {n tok a so to : Int} (hTx : ∀ j : Int, 0 ≤ j ∧ j < 3000 → -128 ≤ tx j ∧ tx j < 128) (hn : n ≤ 3000) (h : LKM tx n tok a so to) : (0 ≤ so ∧ so ≤ 5) ∧ (-128 ≤ to ∧ to < 281474976710656) ∧ (0 ≤ tok ∧ tok ≤ n) ∧ (0 ≤ a ∧ a ≤ n) := by
  obtain ⟨a, b, -, -, c, d, -, -⟩ := lk_rng hTx hn h
  exact ⟨a, b, c, d⟩
/-- the next TOKEN's place, in a form that omega doesn't look into -/
def NXQ (tx : Int → Int) (n tok tk : Int) : Prop := tk = nxT tx n tok
theorem NXQ.to {tx : Int → Int} {n tok tk : Int} (h : NXQ tx n tok tk) : tk = nxT tx n tok := h
def NXP (tx : Int → Int) (n tok : Int) : Prop := tok + 1 ≤ nxT tx n tok
theorem nxp_q {tx : Int → Int} {n tok tk : Int} (h : NXP tx n tok) (q : NXQ tx n tok tk) : tok + 1 ≤ tk := by
  rw [q.to]
  exact h
theorem nxq_le {tx : Int → Int} {n tok tk : Int} (q : NXQ tx n tok tk) (h : tok ≤ n) : tok ≤ tk := by
  rw [q.to]
  exact (nxT_rng h).1
