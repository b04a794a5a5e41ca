/-! rows within bounds -/
def BR (f : Int → Int) (n lo hi : Int) : Prop := ∀ j : Int, 0 ≤ j ∧ j < n → lo ≤ f j ∧ f j < hi
theorem brU {f : Int → Int} {n lo hi i v : Int} (h : BR f n lo hi) (hv : lo ≤ v ∧ v < hi) : BR (zU f i v) n lo hi := by
  intro j hj
  by_cases q : j = i
  · rw [q, zU_s]
    exact hv
  · rw [zU_n q]
    exact h j hj
theorem brC {c n lo hi : Int} (h : lo ≤ c ∧ c < hi) : BR (fun _ => c) n lo hi := fun _ _ => h
theorem or01 {a b : Int} (ha : a = 0 ∨ a = 1) (hb : b = 0 ∨ b = 1) : orI a b = 0 ∨ orI a b = 1 := by
  rcases ha with rfl | rfl <;> rcases hb with rfl | rfl <;> decide
theorem zI_n {a : Int} (h : 0 ≤ a ∧ a < 2147483648) : zI a = nI a.toNat := by
  apply Int32.toInt_inj.mp
  rw [zI_toInt (by omega), nI_toInt (by omega)]
  omega
theorem fa_and (a b : Nat) : nI a &&& nI b = nI (a &&& b) := by
  apply Int32.toBitVec_inj.1
  show BitVec.ofNat 32 a &&& BitVec.ofNat 32 b = BitVec.ofNat 32 (a &&& b)
  apply BitVec.eq_of_getLsbD_eq
  intro i hi
  simp [hi]
theorem fa_or (a b : Nat) : nI a ||| nI b = nI (a ||| b) := by
  apply Int32.toBitVec_inj.1
  show BitVec.ofNat 32 a ||| BitVec.ofNat 32 b = BitVec.ofNat 32 (a ||| b)
  apply BitVec.eq_of_getLsbD_eq
  intro i hi
  simp [hi]
theorem orI_n {a b : Int} (ha : 0 ≤ a ∧ a < 2147483648) (hb : 0 ≤ b ∧ b < 2147483648) : orI a b = ((a.toNat ||| b.toNat : Nat) : Int) := by
  unfold orI
  rw [zI_n ha, zI_n hb, fa_or, nI_toInt]
  exact Nat.or_lt_two_pow (by omega) (by omega)
theorem or512 {a b : Int} (ha : 0 ≤ a ∧ a < 512) (hb : 0 ≤ b ∧ b < 512) : (0 ≤ orI a b ∧ orI a b < 512) ∧ a ≤ orI a b := by
  rw [orI_n (by omega) (by omega)]
  have q : a.toNat ||| b.toNat < 2 ^ 9 := Nat.or_lt_two_pow (by omega) (by omega)
  have q2 : a.toNat ≤ a.toNat ||| b.toNat := Nat.left_le_or
  omega
theorem shl9 {k : Int} (h : 0 ≤ k ∧ k ≤ 8) : 1 ≤ shlI 1 k ∧ shlI 1 k ≤ 256 := by
  have q : k = 0 ∨ k = 1 ∨ k = 2 ∨ k = 3 ∨ k = 4 ∨ k = 5 ∨ k = 6 ∨ k = 7 ∨ k = 8 := by omega
  rcases q with rfl | rfl | rfl | rfl | rfl | rfl | rfl | rfl | rfl <;> decide
theorem rk9 {a d b : Int} (ha : 0 ≤ a ∧ a ≤ 5) (hb : 0 ≤ b ∧ b < d) (hd : a + 1 + d ≤ 6) : 0 ≤ a * d + b ∧ a * d + b ≤ 8 := by
  have q : a = 0 ∨ a = 1 ∨ a = 2 ∨ a = 3 ∨ a = 4 ∨ a = 5 := by omega
  rcases q with rfl | rfl | rfl | rfl | rfl | rfl <;> omega
theorem zI_div {a b : Int} (ha : 0 ≤ a ∧ a < 2147483648) (hb : 0 < b ∧ b < 2147483648) : zI a / zI b = zI (a / b) := by
  have q0 : 0 ≤ a / b := Int.ediv_nonneg (by omega) (by omega)
  have q1 : a / b ≤ a := Int.ediv_le_self _ (by omega)
  have z : (a.toNat : Int) / (b.toNat : Int) = ((a.toNat / b.toNat : Nat) : Int) := (Int.natCast_ediv _ _).symm
  rw [Int.toNat_of_nonneg ha.1, Int.toNat_of_nonneg (by omega : 0 ≤ b)] at z
  rw [zI_n ha, zI_n (by omega), pk_div (by omega) (by omega) (by omega), zI_n (by omega), z]
  rfl
theorem zI_n0 {b : Int} (hb : ¬ b = 0) (h : -2147483648 ≤ b ∧ b < 2147483648) : ¬ zI b = 0 := fun q => hb ((zI_eq h (by omega)).mp q)
section ZS
variable {p : Program} {l : Launch} {e : Env} {R : Room} {s : State} {m : MethodId} {args : Array Value} {below : List Frame} {meth : Method} {c : Code} {H : Heap} {locs : List Loc} {cells slots : Nat} {Q : State → Prop}
variable {cc : ByteArray} {pc : Nat} {ls : Array Slot} {rest : List Value}
theorem zv_idiv (hexec : p.tables.exec = Jvm.exec) (hb : c.code = cc) {a b : Int} (hdg : decode cc pc = .ok (.idiv, 1)) (ha : 0 ≤ a ∧ a < 2147483648) (h2 : 0 < b ∧ b < 2147483648) (k : (0 ≤ a / b ∧ a / b ≤ a) → W p l e R s m args below meth c H locs cells slots Q (F0 m (pc + 1) ls (.int (zI (a / b)) :: rest))) : W p l e R s m args below meth c H locs cells slots Q (F0 m pc ls (.int (zI b) :: .int (zI a) :: rest)) :=
  lv_idiv hexec hb hdg (zI_n0 (by omega) (by omega)) (by rw [zI_div ha h2]; exact k ⟨Int.ediv_nonneg (by omega) (by omega), Int.ediv_le_self _ (by omega)⟩)
theorem zv_irem (hexec : p.tables.exec = Jvm.exec) (hb : c.code = cc) {a b : Int} (hdg : decode cc pc = .ok (.irem, 1)) (ha : 0 ≤ a ∧ a < 2147483648) (h2 : 0 < b ∧ b < 2147483648) (k : (0 ≤ a % b ∧ a % b < b) → W p l e R s m args below meth c H locs cells slots Q (F0 m (pc + 1) ls (.int (zI (a % b)) :: rest))) : W p l e R s m args below meth c H locs cells slots Q (F0 m pc ls (.int (zI b) :: .int (zI a) :: rest)) := by
  refine lv_irem hexec hb hdg (zI_n0 (by omega) (by omega)) ?_
  rw [zI_div ha h2, zI_mul, zI_sub, show a - a / b * b = a % b by rw [Int.mul_comm, Int.emod_def]]
  exact k ⟨Int.emod_nonneg _ (by omega), Int.emod_lt_of_pos _ (by omega)⟩
/-- a quotient of which nothing is known -/
theorem zv_idivA (hexec : p.tables.exec = Jvm.exec) (hb : c.code = cc) {a b : Int} (hdg : decode cc pc = .ok (.idiv, 1)) (h0 : ¬ b = 0) (h2 : -2147483648 ≤ b ∧ b < 2147483648) (k : ∀ q : Int, (-2147483648 ≤ q ∧ q < 2147483648) → W p l e R s m args below meth c H locs cells slots Q (F0 m (pc + 1) ls (.int (zI q) :: rest))) : W p l e R s m args below meth c H locs cells slots Q (F0 m pc ls (.int (zI b) :: .int (zI a) :: rest)) :=
  lv_idiv hexec hb hdg (zI_n0 h0 h2) (zv_any (fun q h _ => k q h))
theorem zv_iremA (hexec : p.tables.exec = Jvm.exec) (hb : c.code = cc) {a b : Int} (hdg : decode cc pc = .ok (.irem, 1)) (h0 : ¬ b = 0) (h2 : -2147483648 ≤ b ∧ b < 2147483648) (k : ∀ q : Int, (-2147483648 ≤ q ∧ q < 2147483648) → W p l e R s m args below meth c H locs cells slots Q (F0 m (pc + 1) ls (.int (zI q) :: rest))) : W p l e R s m args below meth c H locs cells slots Q (F0 m pc ls (.int (zI b) :: .int (zI a) :: rest)) :=
  lv_irem hexec hb hdg (zI_n0 h0 h2) (zv_any (fun q h _ => k q h))
end ZS
/-- how many of n places from a on hold 1 -/
def kCtF (f : Int → Int) (a : Int) : Nat → Int
  | 0 => 0
  | k + 1 => kCtF f a k + (if f (a + k) = 1 then 1 else 0)
def kCt (f : Int → Int) (a n : Int) : Int := kCtF f a n.toNat
theorem kCtF_rng (f : Int → Int) (a : Int) : ∀ k : Nat, 0 ≤ kCtF f a k ∧ kCtF f a k ≤ k := by
  intro k
  induction k with
  | zero => exact ⟨Int.le_refl 0, Int.le_refl 0⟩
  | succ k ih =>
    show 0 ≤ kCtF f a k + (if f (a + k) = 1 then 1 else 0) ∧ kCtF f a k + (if f (a + k) = 1 then 1 else 0) ≤ ((k + 1 : Nat) : Int)
    split <;> omega
theorem kCt_rng (f : Int → Int) (a : Int) {n : Int} (h : 0 ≤ n) : 0 ≤ kCt f a n ∧ kCt f a n ≤ n := by
  have q := kCtF_rng f a n.toNat
  unfold kCt
  omega
theorem kCtF_out {f : Int → Int} {a i v : Int} : ∀ k : Nat, (i < a ∨ a + k ≤ i) → kCtF (zU f i v) a k = kCtF f a k := by
  intro k
  induction k with
  | zero => intro _; rfl
  | succ k ih =>
    intro h
    show kCtF (zU f i v) a k + (if zU f i v (a + k) = 1 then 1 else 0) = kCtF f a k + (if f (a + k) = 1 then 1 else 0)
    rw [ih (by omega), zU_n (by omega)]
theorem kCt_out {f : Int → Int} {a n i v : Int} (h0 : 0 ≤ n) (h : i < a ∨ a + n ≤ i) : kCt (zU f i v) a n = kCt f a n := kCtF_out _ (by omega)
theorem kCtF_in {f : Int → Int} {a i v : Int} : ∀ k : Nat, a ≤ i → i < a + k → kCtF (zU f i v) a k + (if f i = 1 then 1 else 0) = kCtF f a k + (if v = 1 then 1 else 0) := by
  intro k
  induction k with
  | zero => intro h h2; exact absurd h2 (by omega)
  | succ k ih =>
    intro h h2
    show kCtF (zU f i v) a k + (if zU f i v (a + k) = 1 then 1 else 0) + (if f i = 1 then 1 else 0) = kCtF f a k + (if f (a + k) = 1 then 1 else 0) + (if v = 1 then 1 else 0)
    by_cases q : i = a + k
    · subst q
      rw [kCtF_out k (by omega), zU_s]
      omega
    · have z := ih h (by omega)
      rw [zU_n (show a + (k : Int) ≠ i by omega)]
      omega
theorem kCt_in {f : Int → Int} {a n i v : Int} (h0 : 0 ≤ n) (h : a ≤ i ∧ i < a + n) : kCt (zU f i v) a n + (if f i = 1 then 1 else 0) = kCt f a n + (if v = 1 then 1 else 0) := kCtF_in _ h.1 (by omega)
theorem kCt_set {f : Int → Int} {a n i : Int} (h0 : 0 ≤ n) (h : a ≤ i ∧ i < a + n) (h2 : ¬ f i = 1) : kCt (zU f i 1) a n = kCt f a n + 1 ∧ kCt f a n < n := by
  have z := kCt_in (f := f) (v := 1) h0 h
  have z2 := kCt_rng (zU f i 1) a h0
  rw [if_neg h2, if_pos rfl] at z
  omega
theorem kCt_clr {f : Int → Int} {a n i : Int} (h0 : 0 ≤ n) (h : a ≤ i ∧ i < a + n) (h2 : f i = 1) : kCt (zU f i 0) a n = kCt f a n - 1 ∧ 0 < kCt f a n := by
  have z := kCt_in (f := f) (v := 0) h0 h
  have z2 := kCt_rng (zU f i 0) a h0
  rw [if_pos h2, if_neg (by decide)] at z
  omega
theorem kCtF_none {f : Int → Int} {a : Int} : ∀ k : Nat, (∀ j : Int, a ≤ j ∧ j < a + k → ¬ f j = 1) → kCtF f a k = 0 := by
  intro k
  induction k with
  | zero => intro _; rfl
  | succ k ih =>
    intro h
    show kCtF f a k + (if f (a + k) = 1 then 1 else 0) = 0
    rw [ih (fun j hj => h j (by omega)), if_neg (h _ (by omega))]
    rfl
theorem kCt_none {f : Int → Int} {a n : Int} (h : ∀ j : Int, a ≤ j ∧ j < a + n → ¬ f j = 1) : kCt f a n = 0 := kCtF_none _ (fun j hj => h j (by omega))
/-- the ranks of a grammar's attributes -/
def RKI (ac ic ih rk : Int → Int) : Prop := ∀ s a : Int, (0 ≤ s ∧ s < 12) → (0 ≤ a ∧ a < ac s) → 0 ≤ rk (6 * s + a) ∧ (ih (6 * s + a) = 1 → rk (6 * s + a) < ic s) ∧ (ih (6 * s + a) = 0 → rk (6 * s + a) < ac s - ic s)
/-! the GRAPHS of the class: as many as are marked -/
def CGI (gc hg : Int → Int) : Prop := ∀ s : Int, 0 ≤ s ∧ s < 12 → gc s = kCt hg (512 * s) 512
theorem cgi_add {gc hg : Int → Int} {s g : Int} (h : CGI gc hg) (hs : 0 ≤ s ∧ s < 12) (hg9 : 0 ≤ g ∧ g < 512) (h2 : ¬ hg (512 * s + g) = 1) : CGI (zU gc s (gc s + 1)) (zU hg (512 * s + g) 1) := by
  intro t ht
  by_cases q : t = s
  · subst q
    rw [zU_s, (kCt_set (a := 512 * t) (n := 512) (by omega) (by omega) h2).1, h t ht]
  · rw [zU_n q, kCt_out (by omega) (by omega), h t ht]
theorem cgi_lt {gc hg : Int → Int} {s g : Int} (h : CGI gc hg) (hs : 0 ≤ s ∧ s < 12) (hg9 : 0 ≤ g ∧ g < 512) (h2 : ¬ hg (512 * s + g) = 1) : gc s < 512 := by
  rw [h s hs]
  exact (kCt_set (a := 512 * s) (n := 512) (by omega) (by omega) h2).2
theorem up_le (f : Int → Int) {i v : Int} (h : f i ≤ v) : ∀ j : Int, f j ≤ zU f i v j := by
  intro j
  by_cases q : j = i
  · rw [q, zU_s]
    exact h
  · rw [zU_n q]
    omega
def kPrF (f : Int → Int) : Nat → Int
  | 0 => 1
  | k + 1 => kPrF f k * f k
def kPr (f : Int → Int) (n : Int) : Int := kPrF f n.toNat
theorem kPr_s {f : Int → Int} {n : Int} (h : 0 ≤ n) : kPr f (n + 1) = kPr f n * f n := by
  unfold kPr
  rw [show (n + 1).toNat = n.toNat + 1 by omega]
  show kPrF f n.toNat * f (n.toNat : Int) = _
  rw [Int.toNat_of_nonneg h]
theorem kPrF_rng {f : Int → Int} {m : Int} : ∀ k : Nat, (∀ j : Int, 0 ≤ j ∧ j < k → 0 ≤ f j ∧ f j ≤ 512) → (0 ≤ kPrF f k) ∧ (0 < kPrF f k → ∀ j : Int, 0 ≤ j ∧ j < k → 1 ≤ f j) := by
  intro k
  induction k with
  | zero => intro _; exact ⟨Int.le_of_lt (by decide : (0 : Int) < 1), fun _ j hj => by omega⟩
  | succ k ih =>
    intro h
    obtain ⟨a1, a2⟩ := ih (fun j hj => h j (by omega))
    have a3 := h k (by omega)
    refine ⟨Int.mul_nonneg a1 a3.1, ?_⟩
    intro hp j hj
    have hp : 0 < kPrF f k * f k := hp
    have z1 : 0 < kPrF f k := by
      rcases Int.lt_or_eq_of_le a1 with q | q
      · exact q
      · rw [← q, Int.zero_mul] at hp
        exact absurd hp (by omega)
    have z2 : 0 < f k := by
      rcases Int.lt_or_eq_of_le a3.1 with q | q
      · exact q
      · rw [← q, Int.mul_zero] at hp
        exact absurd hp (by omega)
    by_cases q : j = k
    · rw [q]
      omega
    · exact a2 z1 j (by omega)
theorem kPr_pos {f : Int → Int} {n : Int} (h : ∀ j : Int, 0 ≤ j ∧ j < n → 0 ≤ f j ∧ f j ≤ 512) (h0 : 0 ≤ n) (hp : 0 < kPr f n) : ∀ j : Int, 0 ≤ j ∧ j < n → 1 ≤ f j := fun j hj => (kPrF_rng (m := 0) n.toNat (fun j hj => h j (by omega))).2 hp j (by omega)
theorem kPr_rng {f : Int → Int} {n : Int} (h : BR f 3 0 513) (h0 : 0 ≤ n ∧ n ≤ 3) : 0 ≤ kPr f n ∧ kPr f n ≤ 134217728 := by
  have q : n = 0 ∨ n = 1 ∨ n = 2 ∨ n = 3 := by omega
  have f0 := h 0 (by omega)
  have f1 := h 1 (by omega)
  have f2 := h 2 (by omega)
  have m1 : 0 ≤ f 0 * f 1 ∧ f 0 * f 1 ≤ 262144 := ⟨Int.mul_nonneg f0.1 f1.1, by have z := Int.mul_le_mul (show f 0 ≤ 512 by omega) (show f 1 ≤ 512 by omega) f1.1 (by decide); omega⟩
  have m2 : 0 ≤ f 0 * f 1 * f 2 ∧ f 0 * f 1 * f 2 ≤ 134217728 := ⟨Int.mul_nonneg m1.1 f2.1, by have z := Int.mul_le_mul m1.2 (show f 2 ≤ 512 by omega) f2.1 (by decide); omega⟩
  rcases q with rfl | rfl | rfl | rfl
  · show (0 : Int) ≤ 1 ∧ (1 : Int) ≤ 134217728
    omega
  · show 0 ≤ 1 * f 0 ∧ 1 * f 0 ≤ 134217728
    omega
  · show 0 ≤ 1 * f 0 * f 1 ∧ 1 * f 0 * f 1 ≤ 134217728
    rw [Int.one_mul]
    omega
  · show 0 ≤ 1 * f 0 * f 1 * f 2 ∧ 1 * f 0 * f 1 * f 2 ≤ 134217728
    rw [Int.one_mul]
    omega
def TKI (tn gc cc rs : Int → Int) : Prop := ∀ r k : Int, (0 ≤ r ∧ r < 30) → (0 ≤ k ∧ k < cc r) → tn (3 * r + k) ≤ gc (rs (4 * r + (k + 1)))
theorem tki_mono {tn gc gc2 cc rs : Int → Int} (h : TKI tn gc cc rs) (h2 : ∀ j : Int, gc j ≤ gc2 j) : TKI tn gc2 cc rs := fun r k hr hk => by
  have a := h r k hr hk
  have b := h2 (rs (4 * r + (k + 1)))
  omega
theorem tki_set {tn gc cc rs : Int → Int} {r k v : Int} (h : TKI tn gc cc rs) (hcc : ∀ j : Int, 0 ≤ j ∧ j < 30 → 0 ≤ cc j ∧ cc j < 4) (hr : 0 ≤ r ∧ r < 30) (hk : 0 ≤ k ∧ k < cc r) (hv : v ≤ gc (rs (4 * r + (k + 1)))) : TKI (zU tn (3 * r + k) v) gc cc rs := by
  intro r2 k2 hr2 hk2
  have c1 := hcc r hr
  have c2 := hcc r2 hr2
  by_cases q : 3 * r2 + k2 = 3 * r + k
  · have q1 : r2 = r := by omega
    have q2 : k2 = k := by omega
    subst q1 q2
    rw [zU_s]
    exact hv
  · rw [zU_n q]
    exact h r2 k2 hr2 hk2
theorem tki_0 {tn gc cc rs : Int → Int} (h : ∀ j : Int, 0 ≤ j ∧ j < 90 → tn j = 0) (h2 : ∀ j : Int, 0 ≤ j ∧ j < 12 → gc j = 0) (h3 : BR rs 120 0 12) (h4 : BR cc 30 0 4) : TKI tn gc cc rs := by
  intro r k hr hk
  have c := h4 r hr
  have z := h3 (4 * r + (k + 1)) (by omega)
  rw [h _ (by omega), h2 _ z]
  omega
/-! the class's items on their way: where none has begun, there is no code -/
def WI (ke kc cs : Int → Int) (n : Int) : Prop := ∀ k : Int, 0 ≤ k ∧ k < n → kc k = -1 → cs (ke k) = -1
theorem wi_push {ke kc cs : Int → Int} {n x : Int} (h : WI ke kc cs n) (h0 : 0 ≤ n) : WI (zU ke n x) (zU kc n (cs x)) cs (n + 1) := by
  intro k hk
  by_cases q : k = n
  · subst q
    rw [zU_s, zU_s]
    exact fun z => z
  · rw [zU_n q, zU_n q]
    exact h k (by omega)
theorem wi_set {ke kc cs : Int → Int} {n i c : Int} (h : WI ke kc cs n) (hc : ¬ c = -1) : WI ke (zU kc i c) cs n := by
  intro k hk
  by_cases q : k = i
  · rw [q, zU_s]
    exact fun z => absurd z hc
  · rw [zU_n q]
    exact h k hk
theorem wi_sub {ke kc cs : Int → Int} {n m : Int} (h : WI ke kc cs n) (hm : m ≤ n) : WI ke kc cs m := fun k hk => h k (by omega)
/-- a row's numbers as 32 bits keep them -/
def nrm (f : Int → Int) : Int → Int := fun j => (zI (f j)).toInt
theorem zF_nrm (f : Int → Int) : zF (nrm f) = zF f := by
  funext j
  exact Int32.ofInt_toInt _
theorem nrm_br (f : Int → Int) (n : Int) : BR (nrm f) n (-2147483648) 2147483648 := fun j _ => ⟨by have := Int32.le_toInt (zI (f j)); unfold nrm; omega, by have := Int32.toInt_lt (zI (f j)); unfold nrm; omega⟩
theorem nrm_id {f : Int → Int} {j : Int} (h : -2147483648 ≤ f j ∧ f j < 2147483648) : nrm f j = f j := zI_toInt h
theorem pk_nrm {op od : Int → Int} (h : PK op od) : PK op (nrm od) := fun j hj => ⟨(h j hj).1, fun q => by
  have z := (h j hj).2 q
  rw [nrm_id (by omega)]
  exact z⟩
theorem rki_nrm {ac ic ih rk : Int → Int} (h : RKI ac ic ih rk) (h2 : ∀ j : Int, 0 ≤ j ∧ j < 12 → 0 ≤ ac j ∧ ac j < 7) (h3 : ∀ j : Int, 0 ≤ j ∧ j < 12 → 0 ≤ ic j ∧ ic j ≤ ac j) (h4 : ∀ j : Int, 0 ≤ j ∧ j < 72 → 0 ≤ ih j ∧ ih j < 2) : RKI ac ic ih (nrm rk) := by
  intro s a hs ha
  have z := h s a hs ha
  have z2 := h2 s hs
  have z3 := h3 s hs
  have z4 := h4 (6 * s + a) (by omega)
  have z5 : rk (6 * s + a) < 7 := by
    rcases (show ih (6 * s + a) = 0 ∨ ih (6 * s + a) = 1 by omega) with q | q
    · have := z.2.2 q
      omega
    · have := z.2.1 q
      omega
  rw [nrm_id (by omega)]
  exact z
