def zI (i : Int) : Int32 := Int32.ofInt i
def lI (i : Int) : Int64 := Int64.ofInt i
theorem zI_add (a b : Int) : zI a + zI b = zI (a + b) := (Int32.ofInt_add a b).symm
theorem zI_sub (a b : Int) : zI a - zI b = zI (a - b) := (Int32.ofInt_sub a b).symm
theorem zI_mul (a b : Int) : zI a * zI b = zI (a * b) := (Int32.ofInt_mul a b).symm
theorem zI_inc {a r : Int} (n : Int) (h : a + n = r) : zI a + Int32.ofInt n = zI r := by
  rw [← h]
  exact zI_add a n
theorem zI_neg (a : Int) : -zI a = zI (-a) := (Int32.ofInt_neg a).symm
theorem lI_add (a b : Int) : lI a + lI b = lI (a + b) := (Int64.ofInt_add a b).symm
theorem lI_sub (a b : Int) : lI a - lI b = lI (a - b) := (Int64.ofInt_sub a b).symm
theorem lI_mul (a b : Int) : lI a * lI b = lI (a * b) := (Int64.ofInt_mul a b).symm
theorem zI_of (x : Int32) : ∃ i : Int, (-2147483648 ≤ i ∧ i < 2147483648) ∧ x = zI i := ⟨x.toInt, ⟨by have := Int32.le_toInt x; omega, by have := Int32.toInt_lt x; omega⟩, (Int32.ofInt_toInt x).symm⟩
theorem zI_toInt {a : Int} (h : -2147483648 ≤ a ∧ a < 2147483648) : (zI a).toInt = a := Int32.toInt_ofInt_of_le (by omega) (by omega)
theorem zI_lt {a b : Int} (ha : -2147483648 ≤ a ∧ a < 2147483648) (hb : -2147483648 ≤ b ∧ b < 2147483648) : zI a < zI b ↔ a < b := by
  rw [Int32.lt_iff_toInt_lt, zI_toInt ha, zI_toInt hb]
theorem zI_le {a b : Int} (ha : -2147483648 ≤ a ∧ a < 2147483648) (hb : -2147483648 ≤ b ∧ b < 2147483648) : zI a ≤ zI b ↔ a ≤ b := by
  rw [Int32.le_iff_toInt_le, zI_toInt ha, zI_toInt hb]
theorem zI_eq {a b : Int} (ha : -2147483648 ≤ a ∧ a < 2147483648) (hb : -2147483648 ≤ b ∧ b < 2147483648) : zI a = zI b ↔ a = b := by
  rw [← Int32.toInt_inj, zI_toInt ha, zI_toInt hb]
theorem zI_nat {a : Int} (h : 0 ≤ a ∧ a < 2147483648) : (zI a).toNatClampNeg = a.toNat := Int32.toNatClampNeg_ofInt_of_le (by omega) (by omega)
theorem zI_in {a : Int} {n : Nat} (h : 0 ≤ a ∧ a < (n : Int)) (hn : n ≤ 2147483647) : vp_in (zI a) n := by
  rw [vp_in_iff, zI_toInt (by omega)]
  exact h
theorem lI_toInt {a : Int} (h : -9223372036854775808 ≤ a ∧ a < 9223372036854775808) : (lI a).toInt = a := Int64.toInt_ofInt_of_le (by omega) (by omega)
theorem zI_l {a : Int} (h : -2147483648 ≤ a ∧ a < 2147483648) : (zI a).toInt64 = lI a := by
  apply Int64.toInt_inj.mp
  rw [Int32.toInt_toInt64, zI_toInt h, lI_toInt (by omega)]
theorem lI_z {a : Int} (h : -2147483648 ≤ a ∧ a < 2147483648) : (lI a).toInt32 = zI a := by
  apply Int32.toInt_inj.mp
  rw [Int64.toInt_toInt32, lI_toInt (by omega), zI_toInt h]
  exact Int.bmod_eq_of_le (by omega) (by omega)
/-- what a byte keeps of a number -/
def zB (v : Int) : Int := v.bmod 256
theorem zB_id {v : Int} (h : -128 ≤ v ∧ v < 128) : zB v = v := Int.bmod_eq_of_le (by omega) (by omega)
theorem zB_rng (v : Int) : -128 ≤ zB v ∧ zB v < 128 := ⟨by have := Int.le_bmod (x := v) (m := 256) (by decide); unfold zB; omega, by have := Int.bmod_lt (x := v) (m := 256) (by decide); unfold zB; omega⟩
theorem zI_i8 {a : Int} (h : -2147483648 ≤ a ∧ a < 2147483648) : (zI a).toInt8.toInt32 = zI (zB a) := by
  apply Int32.toInt_inj.mp
  have q := zB_rng a
  rw [Int8.toInt_toInt32, Int32.toInt_toInt8, zI_toInt h, zI_toInt (by omega)]
  rfl
def zF (f : Int → Int) : Nat → Int32 := fun j => zI (f j)
def lF (f : Int → Int) : Nat → Int64 := fun j => lI (f j)
def zU (f : Int → Int) (i v : Int) : Int → Int := fun j => if j = i then v else f j
theorem zU_s (f : Int → Int) (i v : Int) : zU f i v i = v := if_pos rfl
theorem zU_n {f : Int → Int} {i v j : Int} (h : j ≠ i) : zU f i v j = f j := if_neg h
theorem zF_at (f : Int → Int) {i : Int} (h : 0 ≤ i ∧ i < 2147483648) : zF f (zI i).toNatClampNeg = zI (f i) := by
  rw [zI_nat h]
  unfold zF
  rw [Int.toNat_of_nonneg h.1]
theorem lF_at (f : Int → Int) {i : Int} (h : 0 ≤ i ∧ i < 2147483648) : lF f (zI i).toNatClampNeg = lI (f i) := by
  rw [zI_nat h]
  unfold lF
  rw [Int.toNat_of_nonneg h.1]
theorem zF_up (f : Int → Int) {i : Int} (v : Int) (h : 0 ≤ i ∧ i < 2147483648) : upd (zF f) (zI i).toNatClampNeg (zI v) = zF (zU f i v) := by
  funext j
  rw [zI_nat h]
  unfold upd zF zU
  by_cases q : j = i.toNat
  · rw [if_pos q, if_pos (by omega)]
  · rw [if_neg q, if_neg (by omega)]
theorem lF_up (f : Int → Int) {i : Int} (v : Int) (h : 0 ≤ i ∧ i < 2147483648) : vp_updL (lF f) (zI i).toNatClampNeg (lI v) = lF (zU f i v) := by
  funext j
  rw [zI_nat h]
  unfold vp_updL lF zU
  by_cases q : j = i.toNat
  · rw [if_pos q, if_pos (by omega)]
  · rw [if_neg q, if_neg (by omega)]
theorem zF_0 : (fun _ : Nat => (0 : Int32)) = zF (fun _ => 0) := rfl
theorem lF_0 : (fun _ : Nat => (0 : Int64)) = lF (fun _ => 0) := rfl
/-- a goal's end gets a name, so that loops can speak of it -/
theorem zv_q {p : Program} {l : Launch} {e : Env} {R : Room} {s : State} {m : MethodId} {args : Array Value} {below : List Frame} {meth : Method} {c : Code} {H : Heap} {locs : List Loc} {cells slots : Nat} {Q0 : State → Prop} {g : JFrame} (k : ∀ Q, Q = Q0 → W p l e R s m args below meth c H locs cells slots Q g) : W p l e R s m args below meth c H locs cells slots Q0 g := k Q0 rfl
section ZR
variable {p : Program} {l : Launch} {e : Env} {R : Room} {s : State} {m : MethodId} {args : Array Value} {below : List Frame} {meth : Method} {c : Code} {H : Heap} {locs : List Loc} {cells slots : Nat} {Q : State → Prop}
variable {cc : ByteArray} {pc : Nat} {ls : Array Slot} {rest : List Value}

theorem zv_iadd (hexec : p.tables.exec = Jvm.exec) (hb : c.code = cc) {a b r : Int} (hdg : decode cc pc = .ok (.iadd, 1)) (hr : a + b = r) (k : W p l e R s m args below meth c H locs cells slots Q (F0 m (pc + 1) ls (.int (zI r) :: rest))) : W p l e R s m args below meth c H locs cells slots Q (F0 m pc ls (.int (zI b) :: .int (zI a) :: rest)) := lv_iadd hexec hb hdg (by rw [zI_add, hr]; exact k)
theorem zv_isub (hexec : p.tables.exec = Jvm.exec) (hb : c.code = cc) {a b r : Int} (hdg : decode cc pc = .ok (.isub, 1)) (hr : a - b = r) (k : W p l e R s m args below meth c H locs cells slots Q (F0 m (pc + 1) ls (.int (zI r) :: rest))) : W p l e R s m args below meth c H locs cells slots Q (F0 m pc ls (.int (zI b) :: .int (zI a) :: rest)) := lv_isub hexec hb hdg (by rw [zI_sub, hr]; exact k)
theorem zv_imul (hexec : p.tables.exec = Jvm.exec) (hb : c.code = cc) {a b r : Int} (hdg : decode cc pc = .ok (.imul, 1)) (hr : a * b = r) (k : W p l e R s m args below meth c H locs cells slots Q (F0 m (pc + 1) ls (.int (zI r) :: rest))) : W p l e R s m args below meth c H locs cells slots Q (F0 m pc ls (.int (zI b) :: .int (zI a) :: rest)) := lv_imul hexec hb hdg (by rw [zI_mul, hr]; exact k)
theorem zv_ineg (hexec : p.tables.exec = Jvm.exec) (hb : c.code = cc) {a r : Int} (hdg : decode cc pc = .ok (.ineg, 1)) (hr : -a = r) (k : W p l e R s m args below meth c H locs cells slots Q (F0 m (pc + 1) ls (.int (zI r) :: rest))) : W p l e R s m args below meth c H locs cells slots Q (F0 m pc ls (.int (zI a) :: rest)) := lv_ineg hexec hb hdg (by rw [zI_neg, hr]; exact k)
theorem zv_ladd (hexec : p.tables.exec = Jvm.exec) (hb : c.code = cc) {a b r : Int} (hdg : decode cc pc = .ok (.ladd, 1)) (hr : a + b = r) (k : W p l e R s m args below meth c H locs cells slots Q (F0 m (pc + 1) ls (.long (lI r) :: rest))) : W p l e R s m args below meth c H locs cells slots Q (F0 m pc ls (.long (lI b) :: .long (lI a) :: rest)) := lv_ladd hexec hb hdg (by rw [lI_add, hr]; exact k)
theorem zv_lsub (hexec : p.tables.exec = Jvm.exec) (hb : c.code = cc) {a b r : Int} (hdg : decode cc pc = .ok (.lsub, 1)) (hr : a - b = r) (k : W p l e R s m args below meth c H locs cells slots Q (F0 m (pc + 1) ls (.long (lI r) :: rest))) : W p l e R s m args below meth c H locs cells slots Q (F0 m pc ls (.long (lI b) :: .long (lI a) :: rest)) := lv_lsub hexec hb hdg (by rw [lI_sub, hr]; exact k)
theorem zv_lmul (hexec : p.tables.exec = Jvm.exec) (hb : c.code = cc) {a b r : Int} (hdg : decode cc pc = .ok (.lmul, 1)) (hr : a * b = r) (k : W p l e R s m args below meth c H locs cells slots Q (F0 m (pc + 1) ls (.long (lI r) :: rest))) : W p l e R s m args below meth c H locs cells slots Q (F0 m pc ls (.long (lI b) :: .long (lI a) :: rest)) := lv_lmul hexec hb hdg (by rw [lI_mul, hr]; exact k)
theorem zv_i2l (hexec : p.tables.exec = Jvm.exec) (hb : c.code = cc) {a : Int} (hdg : decode cc pc = .ok (.i2l, 1)) (ha : -2147483648 ≤ a ∧ a < 2147483648) (k : W p l e R s m args below meth c H locs cells slots Q (F0 m (pc + 1) ls (.long (lI a) :: rest))) : W p l e R s m args below meth c H locs cells slots Q (F0 m pc ls (.int (zI a) :: rest)) := lv_i2l hexec hb hdg (zI_l ha) k
theorem zv_l2i (hexec : p.tables.exec = Jvm.exec) (hb : c.code = cc) {a : Int} (hdg : decode cc pc = .ok (.l2i, 1)) (ha : -2147483648 ≤ a ∧ a < 2147483648) (k : W p l e R s m args below meth c H locs cells slots Q (F0 m (pc + 1) ls (.int (zI a) :: rest))) : W p l e R s m args below meth c H locs cells slots Q (F0 m pc ls (.long (lI a) :: rest)) := lv_l2i hexec hb hdg (lI_z ha) k
theorem zv_i2b (hexec : p.tables.exec = Jvm.exec) (hb : c.code = cc) {a : Int} (hdg : decode cc pc = .ok (.i2b, 1)) (ha : -2147483648 ≤ a ∧ a < 2147483648) (k : W p l e R s m args below meth c H locs cells slots Q (F0 m (pc + 1) ls (.int (zI (zB a)) :: rest))) : W p l e R s m args below meth c H locs cells slots Q (F0 m pc ls (.int (zI a) :: rest)) := lv_i2b hexec hb hdg (zI_i8 ha) k
def orI (a b : Int) : Int := (zI a ||| zI b).toInt
theorem orI_rng (a b : Int) : -2147483648 ≤ orI a b ∧ orI a b < 2147483648 := ⟨by have := Int32.le_toInt (zI a ||| zI b); unfold orI; omega, by have := Int32.toInt_lt (zI a ||| zI b); unfold orI; omega⟩
theorem zv_ior (hexec : p.tables.exec = Jvm.exec) (hb : c.code = cc) {a b : Int} (hdg : decode cc pc = .ok (.ior, 1)) (k : (-2147483648 ≤ orI a b ∧ orI a b < 2147483648) → W p l e R s m args below meth c H locs cells slots Q (F0 m (pc + 1) ls (.int (zI (orI a b)) :: rest))) : W p l e R s m args below meth c H locs cells slots Q (F0 m pc ls (.int (zI b) :: .int (zI a) :: rest)) := lv_ior hexec hb hdg (by rw [show zI a ||| zI b = zI (orI a b) from (Int32.ofInt_toInt _).symm]; exact k (orI_rng a b))
def andI (a b : Int) : Int := (zI a &&& zI b).toInt
theorem andI_rng (a b : Int) : -2147483648 ≤ andI a b ∧ andI a b < 2147483648 := ⟨by have := Int32.le_toInt (zI a &&& zI b); unfold andI; omega, by have := Int32.toInt_lt (zI a &&& zI b); unfold andI; omega⟩
theorem zv_iand (hexec : p.tables.exec = Jvm.exec) (hb : c.code = cc) {a b : Int} (hdg : decode cc pc = .ok (.iand, 1)) (k : (-2147483648 ≤ andI a b ∧ andI a b < 2147483648) → W p l e R s m args below meth c H locs cells slots Q (F0 m (pc + 1) ls (.int (zI (andI a b)) :: rest))) : W p l e R s m args below meth c H locs cells slots Q (F0 m pc ls (.int (zI b) :: .int (zI a) :: rest)) := lv_iand hexec hb hdg (by rw [show zI a &&& zI b = zI (andI a b) from (Int32.ofInt_toInt _).symm]; exact k (andI_rng a b))
def shlI (a b : Int) : Int := (zI a <<< (zI b &&& 31)).toInt
theorem shlI_rng (a b : Int) : -2147483648 ≤ shlI a b ∧ shlI a b < 2147483648 := ⟨by have := Int32.le_toInt (zI a <<< (zI b &&& 31)); unfold shlI; omega, by have := Int32.toInt_lt (zI a <<< (zI b &&& 31)); unfold shlI; omega⟩
theorem zv_ishl (hexec : p.tables.exec = Jvm.exec) (hb : c.code = cc) {a b : Int} (hdg : decode cc pc = .ok (.ishl, 1)) (k : (-2147483648 ≤ shlI a b ∧ shlI a b < 2147483648) → W p l e R s m args below meth c H locs cells slots Q (F0 m (pc + 1) ls (.int (zI (shlI a b)) :: rest))) : W p l e R s m args below meth c H locs cells slots Q (F0 m pc ls (.int (zI b) :: .int (zI a) :: rest)) := lv_ishl hexec hb hdg (by rw [show zI a <<< (zI b &&& 31) = zI (shlI a b) from (Int32.ofInt_toInt _).symm]; exact k (shlI_rng a b))
def shrI (a b : Int) : Int := (zI a >>> (zI b &&& 31)).toInt
theorem shrI_rng (a b : Int) : -2147483648 ≤ shrI a b ∧ shrI a b < 2147483648 := ⟨by have := Int32.le_toInt (zI a >>> (zI b &&& 31)); unfold shrI; omega, by have := Int32.toInt_lt (zI a >>> (zI b &&& 31)); unfold shrI; omega⟩
theorem zv_ishr (hexec : p.tables.exec = Jvm.exec) (hb : c.code = cc) {a b : Int} (hdg : decode cc pc = .ok (.ishr, 1)) (k : (-2147483648 ≤ shrI a b ∧ shrI a b < 2147483648) → W p l e R s m args below meth c H locs cells slots Q (F0 m (pc + 1) ls (.int (zI (shrI a b)) :: rest))) : W p l e R s m args below meth c H locs cells slots Q (F0 m pc ls (.int (zI b) :: .int (zI a) :: rest)) := lv_ishr hexec hb hdg (by rw [show zI a >>> (zI b &&& 31) = zI (shrI a b) from (Int32.ofInt_toInt _).symm]; exact k (shrI_rng a b))
theorem zv_any {x : Int32} (k : ∀ a : Int, (-2147483648 ≤ a ∧ a < 2147483648) → x = zI a → W p l e R s m args below meth c H locs cells slots Q (F0 m pc ls (.int (zI a) :: rest))) : W p l e R s m args below meth c H locs cells slots Q (F0 m pc ls (.int x :: rest)) := by
  obtain ⟨a, h, rfl⟩ := zI_of x
  exact k a h rfl
theorem zv_icmp_eq (hexec : p.tables.exec = Jvm.exec) (hb : c.code = cc) {a b : Int} {off : Int} {tgt : Nat} (hdg : decode cc pc = .ok (.if_icmp .eq off, 3)) (ht : (pc : Int) + off = (tgt : Int)) (ha : -2147483648 ≤ a ∧ a < 2147483648) (hv : -2147483648 ≤ b ∧ b < 2147483648) (kt : a = b → W p l e R s m args below meth c H locs cells slots Q (F0 m tgt ls (rest))) (kf : ¬ a = b → W p l e R s m args below meth c H locs cells slots Q (F0 m (pc + 3) ls (rest))) : W p l e R s m args below meth c H locs cells slots Q (F0 m pc ls (.int (zI b) :: .int (zI a) :: rest)) := lv_icmp_eq hexec hb hdg ht (fun q => kt ((zI_eq ha hv).mp q)) (fun q => kf (fun z => q ((zI_eq ha hv).mpr z)))
theorem zv_if_eq (hexec : p.tables.exec = Jvm.exec) (hb : c.code = cc) {a : Int} {off : Int} {tgt : Nat} (hdg : decode cc pc = .ok (.ifCond .eq off, 3)) (ht : (pc : Int) + off = (tgt : Int)) (ha : -2147483648 ≤ a ∧ a < 2147483648) (kt : a = 0 → W p l e R s m args below meth c H locs cells slots Q (F0 m tgt ls (rest))) (kf : ¬ a = 0 → W p l e R s m args below meth c H locs cells slots Q (F0 m (pc + 3) ls (rest))) : W p l e R s m args below meth c H locs cells slots Q (F0 m pc ls (.int (zI a) :: rest)) := by
  have hv : -2147483648 ≤ (0 : Int) ∧ (0 : Int) < 2147483648 := by omega
  exact lv_if_eq hexec hb hdg ht (fun q => kt ((zI_eq ha hv).mp q)) (fun q => kf (fun z => q ((zI_eq ha hv).mpr z)))
theorem zv_icmp_ne (hexec : p.tables.exec = Jvm.exec) (hb : c.code = cc) {a b : Int} {off : Int} {tgt : Nat} (hdg : decode cc pc = .ok (.if_icmp .ne off, 3)) (ht : (pc : Int) + off = (tgt : Int)) (ha : -2147483648 ≤ a ∧ a < 2147483648) (hv : -2147483648 ≤ b ∧ b < 2147483648) (kt : ¬ a = b → W p l e R s m args below meth c H locs cells slots Q (F0 m tgt ls (rest))) (kf : a = b → W p l e R s m args below meth c H locs cells slots Q (F0 m (pc + 3) ls (rest))) : W p l e R s m args below meth c H locs cells slots Q (F0 m pc ls (.int (zI b) :: .int (zI a) :: rest)) := lv_icmp_ne hexec hb hdg ht (fun q => kt (fun z => q ((zI_eq ha hv).mpr z))) (fun q => kf ((zI_eq ha hv).mp q))
theorem zv_if_ne (hexec : p.tables.exec = Jvm.exec) (hb : c.code = cc) {a : Int} {off : Int} {tgt : Nat} (hdg : decode cc pc = .ok (.ifCond .ne off, 3)) (ht : (pc : Int) + off = (tgt : Int)) (ha : -2147483648 ≤ a ∧ a < 2147483648) (kt : ¬ a = 0 → W p l e R s m args below meth c H locs cells slots Q (F0 m tgt ls (rest))) (kf : a = 0 → W p l e R s m args below meth c H locs cells slots Q (F0 m (pc + 3) ls (rest))) : W p l e R s m args below meth c H locs cells slots Q (F0 m pc ls (.int (zI a) :: rest)) := by
  have hv : -2147483648 ≤ (0 : Int) ∧ (0 : Int) < 2147483648 := by omega
  exact lv_if_ne hexec hb hdg ht (fun q => kt (fun z => q ((zI_eq ha hv).mpr z))) (fun q => kf ((zI_eq ha hv).mp q))
theorem zv_icmp_lt (hexec : p.tables.exec = Jvm.exec) (hb : c.code = cc) {a b : Int} {off : Int} {tgt : Nat} (hdg : decode cc pc = .ok (.if_icmp .lt off, 3)) (ht : (pc : Int) + off = (tgt : Int)) (ha : -2147483648 ≤ a ∧ a < 2147483648) (hv : -2147483648 ≤ b ∧ b < 2147483648) (kt : a < b → W p l e R s m args below meth c H locs cells slots Q (F0 m tgt ls (rest))) (kf : b ≤ a → W p l e R s m args below meth c H locs cells slots Q (F0 m (pc + 3) ls (rest))) : W p l e R s m args below meth c H locs cells slots Q (F0 m pc ls (.int (zI b) :: .int (zI a) :: rest)) := lv_icmp_lt hexec hb hdg ht (fun q => kt ((zI_lt ha hv).mp q)) (fun q => kf (by have z := mt (zI_lt ha hv).mpr q; omega))
theorem zv_if_lt (hexec : p.tables.exec = Jvm.exec) (hb : c.code = cc) {a : Int} {off : Int} {tgt : Nat} (hdg : decode cc pc = .ok (.ifCond .lt off, 3)) (ht : (pc : Int) + off = (tgt : Int)) (ha : -2147483648 ≤ a ∧ a < 2147483648) (kt : a < 0 → W p l e R s m args below meth c H locs cells slots Q (F0 m tgt ls (rest))) (kf : 0 ≤ a → W p l e R s m args below meth c H locs cells slots Q (F0 m (pc + 3) ls (rest))) : W p l e R s m args below meth c H locs cells slots Q (F0 m pc ls (.int (zI a) :: rest)) := by
  have hv : -2147483648 ≤ (0 : Int) ∧ (0 : Int) < 2147483648 := by omega
  exact lv_if_lt hexec hb hdg ht (fun q => kt ((zI_lt ha hv).mp q)) (fun q => kf (by have z := mt (zI_lt ha hv).mpr q; omega))
theorem zv_icmp_ge (hexec : p.tables.exec = Jvm.exec) (hb : c.code = cc) {a b : Int} {off : Int} {tgt : Nat} (hdg : decode cc pc = .ok (.if_icmp .ge off, 3)) (ht : (pc : Int) + off = (tgt : Int)) (ha : -2147483648 ≤ a ∧ a < 2147483648) (hv : -2147483648 ≤ b ∧ b < 2147483648) (kt : b ≤ a → W p l e R s m args below meth c H locs cells slots Q (F0 m tgt ls (rest))) (kf : a < b → W p l e R s m args below meth c H locs cells slots Q (F0 m (pc + 3) ls (rest))) : W p l e R s m args below meth c H locs cells slots Q (F0 m pc ls (.int (zI b) :: .int (zI a) :: rest)) := lv_icmp_ge hexec hb hdg ht (fun q => kt ((zI_le hv ha).mp q)) (fun q => kf (by have z := mt (zI_le hv ha).mpr q; omega))
theorem zv_if_ge (hexec : p.tables.exec = Jvm.exec) (hb : c.code = cc) {a : Int} {off : Int} {tgt : Nat} (hdg : decode cc pc = .ok (.ifCond .ge off, 3)) (ht : (pc : Int) + off = (tgt : Int)) (ha : -2147483648 ≤ a ∧ a < 2147483648) (kt : 0 ≤ a → W p l e R s m args below meth c H locs cells slots Q (F0 m tgt ls (rest))) (kf : a < 0 → W p l e R s m args below meth c H locs cells slots Q (F0 m (pc + 3) ls (rest))) : W p l e R s m args below meth c H locs cells slots Q (F0 m pc ls (.int (zI a) :: rest)) := by
  have hv : -2147483648 ≤ (0 : Int) ∧ (0 : Int) < 2147483648 := by omega
  exact lv_if_ge hexec hb hdg ht (fun q => kt ((zI_le hv ha).mp q)) (fun q => kf (by have z := mt (zI_le hv ha).mpr q; omega))
theorem zv_icmp_gt (hexec : p.tables.exec = Jvm.exec) (hb : c.code = cc) {a b : Int} {off : Int} {tgt : Nat} (hdg : decode cc pc = .ok (.if_icmp .gt off, 3)) (ht : (pc : Int) + off = (tgt : Int)) (ha : -2147483648 ≤ a ∧ a < 2147483648) (hv : -2147483648 ≤ b ∧ b < 2147483648) (kt : b < a → W p l e R s m args below meth c H locs cells slots Q (F0 m tgt ls (rest))) (kf : a ≤ b → W p l e R s m args below meth c H locs cells slots Q (F0 m (pc + 3) ls (rest))) : W p l e R s m args below meth c H locs cells slots Q (F0 m pc ls (.int (zI b) :: .int (zI a) :: rest)) := lv_icmp_gt hexec hb hdg ht (fun q => kt ((zI_lt hv ha).mp q)) (fun q => kf (by have z := mt (zI_lt hv ha).mpr q; omega))
theorem zv_if_gt (hexec : p.tables.exec = Jvm.exec) (hb : c.code = cc) {a : Int} {off : Int} {tgt : Nat} (hdg : decode cc pc = .ok (.ifCond .gt off, 3)) (ht : (pc : Int) + off = (tgt : Int)) (ha : -2147483648 ≤ a ∧ a < 2147483648) (kt : 0 < a → W p l e R s m args below meth c H locs cells slots Q (F0 m tgt ls (rest))) (kf : a ≤ 0 → W p l e R s m args below meth c H locs cells slots Q (F0 m (pc + 3) ls (rest))) : W p l e R s m args below meth c H locs cells slots Q (F0 m pc ls (.int (zI a) :: rest)) := by
  have hv : -2147483648 ≤ (0 : Int) ∧ (0 : Int) < 2147483648 := by omega
  exact lv_if_gt hexec hb hdg ht (fun q => kt ((zI_lt hv ha).mp q)) (fun q => kf (by have z := mt (zI_lt hv ha).mpr q; omega))
theorem zv_icmp_le (hexec : p.tables.exec = Jvm.exec) (hb : c.code = cc) {a b : Int} {off : Int} {tgt : Nat} (hdg : decode cc pc = .ok (.if_icmp .le off, 3)) (ht : (pc : Int) + off = (tgt : Int)) (ha : -2147483648 ≤ a ∧ a < 2147483648) (hv : -2147483648 ≤ b ∧ b < 2147483648) (kt : a ≤ b → W p l e R s m args below meth c H locs cells slots Q (F0 m tgt ls (rest))) (kf : b < a → W p l e R s m args below meth c H locs cells slots Q (F0 m (pc + 3) ls (rest))) : W p l e R s m args below meth c H locs cells slots Q (F0 m pc ls (.int (zI b) :: .int (zI a) :: rest)) := lv_icmp_le hexec hb hdg ht (fun q => kt ((zI_le ha hv).mp q)) (fun q => kf (by have z := mt (zI_le ha hv).mpr q; omega))
theorem zv_if_le (hexec : p.tables.exec = Jvm.exec) (hb : c.code = cc) {a : Int} {off : Int} {tgt : Nat} (hdg : decode cc pc = .ok (.ifCond .le off, 3)) (ht : (pc : Int) + off = (tgt : Int)) (ha : -2147483648 ≤ a ∧ a < 2147483648) (kt : a ≤ 0 → W p l e R s m args below meth c H locs cells slots Q (F0 m tgt ls (rest))) (kf : 0 < a → W p l e R s m args below meth c H locs cells slots Q (F0 m (pc + 3) ls (rest))) : W p l e R s m args below meth c H locs cells slots Q (F0 m pc ls (.int (zI a) :: rest)) := by
  have hv : -2147483648 ≤ (0 : Int) ∧ (0 : Int) < 2147483648 := by omega
  exact lv_if_le hexec hb hdg ht (fun q => kt ((zI_le ha hv).mp q)) (fun q => kf (by have z := mt (zI_le ha hv).mpr q; omega))
theorem zv_lcmp (hexec : p.tables.exec = Jvm.exec) (hb : c.code = cc) {a b : Int} (hdg : decode cc pc = .ok (.lcmp, 1)) (ha : -9223372036854775808 ≤ a ∧ a < 9223372036854775808) (hv : -9223372036854775808 ≤ b ∧ b < 9223372036854775808) (k : ∀ r : Int, (-1 ≤ r ∧ r ≤ 1) → (r < 0 ↔ a < b) → (r = 0 ↔ a = b) → (0 < r ↔ b < a) → W p l e R s m args below meth c H locs cells slots Q (F0 m (pc + 1) ls (.int (zI r) :: rest))) : W p l e R s m args below meth c H locs cells slots Q (F0 m pc ls (.long (lI b) :: .long (lI a) :: rest)) := by
  refine W.lcmp hexec hb hdg ?_
  rcases Int.lt_trichotomy a b with h | h | h
  · have q : lg_cmp (lI a) (lI b) = zI (-1) := by
      unfold lg_cmp
      rw [if_neg (by rw [gt_iff_lt, Int64.lt_iff_toInt_lt, lI_toInt ha, lI_toInt hv]; omega), if_neg (by rw [← Int64.toInt_inj, lI_toInt ha, lI_toInt hv]; omega)]
      rfl
    rw [q]
    exact k (-1) (by omega) (by omega) (by omega) (by omega)
  · have q : lg_cmp (lI a) (lI b) = zI 0 := by
      unfold lg_cmp
      rw [if_neg (by rw [gt_iff_lt, Int64.lt_iff_toInt_lt, lI_toInt ha, lI_toInt hv]; omega), if_pos (by rw [h])]
      rfl
    rw [q]
    exact k 0 (by omega) (by omega) (by omega) (by omega)
  · have q : lg_cmp (lI a) (lI b) = zI 1 := by
      unfold lg_cmp
      rw [if_pos (by rw [gt_iff_lt, Int64.lt_iff_toInt_lt, lI_toInt ha, lI_toInt hv]; omega)]
      rfl
    rw [q]
    exact k 1 (by omega) (by omega) (by omega) (by omega)
theorem zv_tableIn (hexec : p.tables.exec = Jvm.exec) (hb : c.code = cc) {dflt lo hi : Int} {offs : Array Int} {len : Nat} {a k0 off : Int} {tgt : Nat} (hdg : decode cc pc = .ok (.tableswitch dflt lo hi offs, len)) (hk : a = k0) (h1 : ¬ k0 < lo) (h2 : ¬ hi < k0) (hr : -2147483648 ≤ k0 ∧ k0 < 2147483648) (ho : offs[(k0 - lo).toNat]? = some off) (ht : (pc : Int) + off = (tgt : Int)) (k : W p l e R s m args below meth c H locs cells slots Q (F0 m tgt ls (rest))) : W p l e R s m args below meth c H locs cells slots Q (F0 m pc ls (.int (zI a) :: rest)) := by
  subst hk
  exact lv_tableIn hexec hb hdg (by rw [zI_toInt hr]; exact h1) (by rw [zI_toInt hr]; exact h2) (by rw [zI_toInt hr]; exact ho) ht k
theorem zv_tableOut (hexec : p.tables.exec = Jvm.exec) (hb : c.code = cc) {dflt lo hi : Int} {offs : Array Int} {len : Nat} {a : Int} {tgt : Nat} (hdg : decode cc pc = .ok (.tableswitch dflt lo hi offs, len)) (h : a < lo ∨ hi < a) (hr : -2147483648 ≤ a ∧ a < 2147483648) (ht : (pc : Int) + dflt = (tgt : Int)) (k : W p l e R s m args below meth c H locs cells slots Q (F0 m tgt ls (rest))) : W p l e R s m args below meth c H locs cells slots Q (F0 m pc ls (.int (zI a) :: rest)) := lv_tableOut hexec hb hdg (by rw [zI_toInt hr]; exact h) ht k
theorem zv_lookup (hexec : p.tables.exec = Jvm.exec) (hb : c.code = cc) {dflt : Int} {ps : Array (Int × Int)} {len : Nat} {a : Int} {off : Int} {tgt : Nat} (hdg : decode cc pc = .ok (.lookupswitch dflt ps, len)) (hp : (ps.toList.zip (ps.toList.drop 1)).all (fun (a, next) => a.1 < next.1) = true) (hr : -2147483648 ≤ a ∧ a < 2147483648) (ho : Op.lookupswitch.offset ps.toList dflt a = off) (ht : (pc : Int) + off = (tgt : Int)) (k : W p l e R s m args below meth c H locs cells slots Q (F0 m tgt ls (rest))) : W p l e R s m args below meth c H locs cells slots Q (F0 m pc ls (.int (zI a) :: rest)) := lv_lookup hexec hb hdg hp (by rw [zI_toInt hr]; exact ho) ht k
variable {D : va_G} {cl : List vw_C} {A : Nat → Prop} {a : Nat} {tys : List (ClassId × FieldType)} {ws : va_W} {H0 : Heap}
theorem zv_iald (hexec : p.tables.exec = Jvm.exec) (hb : c.code = cc) (hK : va_K D cl tys s) (hP : va_P D cl ws H) (q0 t0 : Nat) {cA : ClassId} {n : Nat} {f : Int → Int} (ha : ws[q0]? = some (a, .inl (cA, n, .inl (zF f)))) (ht : tys[t0]? = some (cA, .int)) {i : Int} (hi : 0 ≤ i ∧ i < (n : Int)) (hn : n ≤ 2147483647) (hdg : decode cc pc = .ok (.iaload, 1)) (k : W p l e R s m args below meth c H locs cells slots Q (F0 m (pc + 1) ls (.int (zI (f i)) :: rest))) : W p l e R s m args below meth c H locs cells slots Q (F0 m pc ls (.int (zI i) :: .ref a :: rest)) := va_iald hexec hb hK hP q0 t0 ha ht (zI_in hi hn) hdg (by rw [zF_at f (by omega)]; exact k)
theorem zv_bald (hexec : p.tables.exec = Jvm.exec) (hb : c.code = cc) (hK : va_K D cl tys s) (hP : va_P D cl ws H) (q0 t0 : Nat) {cA : ClassId} {n : Nat} {f : Int → Int} (ha : ws[q0]? = some (a, .inl (cA, n, .inl (zF f)))) (ht : tys[t0]? = some (cA, .byte)) {i : Int} (hi : 0 ≤ i ∧ i < (n : Int)) (hn : n ≤ 2147483647) (hdg : decode cc pc = .ok (.baload, 1)) (k : W p l e R s m args below meth c H locs cells slots Q (F0 m (pc + 1) ls (.int (zI (f i)) :: rest))) : W p l e R s m args below meth c H locs cells slots Q (F0 m pc ls (.int (zI i) :: .ref a :: rest)) := va_bald hexec hb hK hP q0 t0 ha ht (zI_in hi hn) hdg (by rw [zF_at f (by omega)]; exact k)
theorem zv_zald (hexec : p.tables.exec = Jvm.exec) (hb : c.code = cc) (hK : va_K D cl tys s) (hP : va_P D cl ws H) (q0 t0 : Nat) {cA : ClassId} {n : Nat} {f : Int → Int} (ha : ws[q0]? = some (a, .inl (cA, n, .inl (zF f)))) (ht : tys[t0]? = some (cA, .boolean)) {i : Int} (hi : 0 ≤ i ∧ i < (n : Int)) (hn : n ≤ 2147483647) (hdg : decode cc pc = .ok (.baload, 1)) (k : W p l e R s m args below meth c H locs cells slots Q (F0 m (pc + 1) ls (.int (zI (f i)) :: rest))) : W p l e R s m args below meth c H locs cells slots Q (F0 m pc ls (.int (zI i) :: .ref a :: rest)) := va_zald hexec hb hK hP q0 t0 ha ht (zI_in hi hn) hdg (by rw [zF_at f (by omega)]; exact k)
theorem zv_lald (hexec : p.tables.exec = Jvm.exec) (hb : c.code = cc) (hK : va_K D cl tys s) (hP : va_P D cl ws H) (q0 t0 : Nat) {cA : ClassId} {n : Nat} {f : Int → Int} (ha : ws[q0]? = some (a, .inl (cA, n, .inr (.inl (lF f))))) (ht : tys[t0]? = some (cA, .long)) {i : Int} (hi : 0 ≤ i ∧ i < (n : Int)) (hn : n ≤ 2147483647) (hdg : decode cc pc = .ok (.laload, 1)) (k : W p l e R s m args below meth c H locs cells slots Q (F0 m (pc + 1) ls (.long (lI (f i)) :: rest))) : W p l e R s m args below meth c H locs cells slots Q (F0 m pc ls (.int (zI i) :: .ref a :: rest)) := va_lald hexec hb hK hP q0 t0 ha ht (zI_in hi hn) hdg (by rw [lF_at f (by omega)]; exact k)
theorem zv_iast (hexec : p.tables.exec = Jvm.exec) (hb : c.code = cc) (hK : va_K D cl tys s) (hP : va_P D cl ws H) (hD : va_D A ws) (hS : va_S A H0 H locs) (q0 t0 : Nat) {cA : ClassId} {n : Nat} {f : Int → Int} (ha : ws[q0]? = some (a, .inl (cA, n, .inl (zF f)))) (ht : tys[t0]? = some (cA, .int)) {i v : Int} (hi : 0 ≤ i ∧ i < (n : Int)) (hn : n ≤ 2147483647) (hdg : decode cc pc = .ok (.iastore, 1)) (k : ∀ (H1 : Heap) (locs1 : List Loc), va_P D cl (ws.set q0 (a, .inl (cA, n, .inl (zF (zU f i v))))) H1 → va_D A (ws.set q0 (a, .inl (cA, n, .inl (zF (zU f i v))))) → va_S A H0 H1 locs1 → W p l e R s m args below meth c H1 locs1 cells slots Q (F0 m (pc + 1) ls rest)) : W p l e R s m args below meth c H locs cells slots Q (F0 m pc ls (.int (zI v) :: .int (zI i) :: .ref a :: rest)) := va_iast hexec hb hK hP hD hS q0 t0 ha ht (zI_in hi hn) hdg (fun H1 locs1 h1 h2 h3 => by rw [zF_up f v (by omega)] at h1 h2; exact k H1 locs1 h1 h2 h3)
theorem zv_bast (hexec : p.tables.exec = Jvm.exec) (hb : c.code = cc) (hK : va_K D cl tys s) (hP : va_P D cl ws H) (hD : va_D A ws) (hS : va_S A H0 H locs) (q0 t0 : Nat) {cA : ClassId} {n : Nat} {f : Int → Int} (ha : ws[q0]? = some (a, .inl (cA, n, .inl (zF f)))) (ht : tys[t0]? = some (cA, .byte)) {i v : Int} (hi : 0 ≤ i ∧ i < (n : Int)) (hn : n ≤ 2147483647) (hv : -2147483648 ≤ v ∧ v < 2147483648) (hdg : decode cc pc = .ok (.bastore, 1)) (k : ∀ (H1 : Heap) (locs1 : List Loc), va_P D cl (ws.set q0 (a, .inl (cA, n, .inl (zF (zU f i (zB v)))))) H1 → va_D A (ws.set q0 (a, .inl (cA, n, .inl (zF (zU f i (zB v)))))) → va_S A H0 H1 locs1 → W p l e R s m args below meth c H1 locs1 cells slots Q (F0 m (pc + 1) ls rest)) : W p l e R s m args below meth c H locs cells slots Q (F0 m pc ls (.int (zI v) :: .int (zI i) :: .ref a :: rest)) := va_bast hexec hb hK hP hD hS q0 t0 ha ht (zI_in hi hn) hdg (fun H1 locs1 h1 h2 h3 => by rw [vp_nar_byte, zI_i8 hv, zF_up f (zB v) (by omega)] at h1 h2; exact k H1 locs1 h1 h2 h3)
theorem zN_b {v : Int} (hv : v = 0 ∨ v = 1) : vp_nar .boolean (zI v) = zI v := by
  rcases hv with rfl | rfl
  · decide
  · decide
theorem zv_zast (hexec : p.tables.exec = Jvm.exec) (hb : c.code = cc) (hK : va_K D cl tys s) (hP : va_P D cl ws H) (hD : va_D A ws) (hS : va_S A H0 H locs) (q0 t0 : Nat) {cA : ClassId} {n : Nat} {f : Int → Int} (ha : ws[q0]? = some (a, .inl (cA, n, .inl (zF f)))) (ht : tys[t0]? = some (cA, .boolean)) {i v : Int} (hi : 0 ≤ i ∧ i < (n : Int)) (hn : n ≤ 2147483647) (hv : v = 0 ∨ v = 1) (hdg : decode cc pc = .ok (.bastore, 1)) (k : ∀ (H1 : Heap) (locs1 : List Loc), va_P D cl (ws.set q0 (a, .inl (cA, n, .inl (zF (zU f i v))))) H1 → va_D A (ws.set q0 (a, .inl (cA, n, .inl (zF (zU f i v))))) → va_S A H0 H1 locs1 → W p l e R s m args below meth c H1 locs1 cells slots Q (F0 m (pc + 1) ls rest)) : W p l e R s m args below meth c H locs cells slots Q (F0 m pc ls (.int (zI v) :: .int (zI i) :: .ref a :: rest)) := va_zast hexec hb hK hP hD hS q0 t0 ha ht (zI_in hi hn) hdg (fun H1 locs1 h1 h2 h3 => by rw [zN_b hv, zF_up f v (by omega)] at h1 h2; exact k H1 locs1 h1 h2 h3)
theorem zv_last (hexec : p.tables.exec = Jvm.exec) (hb : c.code = cc) (hK : va_K D cl tys s) (hP : va_P D cl ws H) (hD : va_D A ws) (hS : va_S A H0 H locs) (q0 t0 : Nat) {cA : ClassId} {n : Nat} {f : Int → Int} (ha : ws[q0]? = some (a, .inl (cA, n, .inr (.inl (lF f))))) (ht : tys[t0]? = some (cA, .long)) {i v : Int} (hi : 0 ≤ i ∧ i < (n : Int)) (hn : n ≤ 2147483647) (hdg : decode cc pc = .ok (.lastore, 1)) (k : ∀ (H1 : Heap) (locs1 : List Loc), va_P D cl (ws.set q0 (a, .inl (cA, n, .inr (.inl (lF (zU f i v)))))) H1 → va_D A (ws.set q0 (a, .inl (cA, n, .inr (.inl (lF (zU f i v)))))) → va_S A H0 H1 locs1 → W p l e R s m args below meth c H1 locs1 cells slots Q (F0 m (pc + 1) ls rest)) : W p l e R s m args below meth c H locs cells slots Q (F0 m pc ls (.long (lI v) :: .int (zI i) :: .ref a :: rest)) := va_last hexec hb hK hP hD hS q0 t0 ha ht (zI_in hi hn) hdg (fun H1 locs1 h1 h2 h3 => by rw [lF_up f v (by omega)] at h1 h2; exact k H1 locs1 h1 h2 h3)
theorem zv_bastB (hexec : p.tables.exec = Jvm.exec) (hb : c.code = cc) (hK : va_K D cl tys s) (hP : va_P D cl ws H) (hD : va_D A ws) (hS : va_S A H0 H locs) (q0 t0 : Nat) {cA : ClassId} {n : Nat} {f : Int → Int} (ha : ws[q0]? = some (a, .inl (cA, n, .inl (zF f)))) (ht : tys[t0]? = some (cA, .byte)) {i v : Int} (hi : 0 ≤ i ∧ i < (n : Int)) (hn : n ≤ 2147483647) (hv : -128 ≤ v ∧ v < 128) (hdg : decode cc pc = .ok (.bastore, 1)) (k : ∀ (H1 : Heap) (locs1 : List Loc), va_P D cl (ws.set q0 (a, .inl (cA, n, .inl (zF (zU f i v))))) H1 → va_D A (ws.set q0 (a, .inl (cA, n, .inl (zF (zU f i v))))) → va_S A H0 H1 locs1 → W p l e R s m args below meth c H1 locs1 cells slots Q (F0 m (pc + 1) ls rest)) : W p l e R s m args below meth c H locs cells slots Q (F0 m pc ls (.int (zI v) :: .int (zI i) :: .ref a :: rest)) := zv_bast hexec hb hK hP hD hS q0 t0 ha ht hi hn (by omega) hdg (fun H1 locs1 h1 h2 h3 => by rw [zB_id hv] at h1 h2; exact k H1 locs1 h1 h2 h3)
end ZR
