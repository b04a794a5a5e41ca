set_option maxHeartbeats 4000000 in
set_option maxRecDepth 100000 in
theorem c_X5_go (l : Launch) (dC : Nat → ClassId) (dI : Nat → Nat → Nat) (tr tk gr tg trf : Nat) (sz : Nat) (tr_state : Int) (tr_here : Int) (tr_depth : Int) (q_ : Int) (nx_ : Int) (hq_ : q_ = 0 ∨ q_ = 1) : Met l yX5_go wyX5_go ({ frames := 0, cells := 0, slots := 0, locals := 0 }) (va_Pc [.ref tr, .int (zI q_), .int (zI nx_)] (fun U => U.heap.size = sz ∧ va_P (dC, dI) vwCl [(tr, .inr (5, [.ref tk, .ref gr, .ref tg, .int (zI tr_state), .int (zI tr_here), .int (zI tr_depth), .ref trf]))] U.heap ∧ va_K (dC, dI) vwCl [] U ∧ va_D (fun _ => True) [(tr, .inr (5, [.ref tk, .ref gr, .ref tg, .int (zI tr_state), .int (zI tr_here), .int (zI tr_depth), .ref trf]))])) (va_Qi (fun (rr : Int32) (r : Int) => rr = zI r) (fun r t => ∃ (st2_ : Int), ((r = 1 ∧ q_ = 0 ∧ st2_ = tr_state) ∨ (r = 0 ∧ q_ = 1 ∧ st2_ = nx_)) ∧ va_P (dC, dI) vwCl [(tr, .inr (5, [.ref tk, .ref gr, .ref tg, .int (zI st2_), .int (zI tr_here), .int (zI tr_depth), .ref trf]))] t.heap ∧ va_K (dC, dI) vwCl [] t ∧ va_D (va_A [(tr, .inr (5, [.ref tk, .ref gr, .ref tg, .int (zI tr_state), .int (zI tr_here), .int (zI tr_depth), .ref trf]))] sz) [(tr, .inr (5, [.ref tk, .ref gr, .ref tg, .int (zI st2_), .int (zI tr_here), .int (zI tr_depth), .ref trf]))]) (va_A [(tr, .inr (5, [.ref tk, .ref gr, .ref tg, .int (zI tr_state), .int (zI tr_here), .int (zI tr_depth), .ref trf]))] sz)) 0 0 (va_A [(tr, .inr (5, [.ref tk, .ref gr, .ref tg, .int (zI tr_state), .int (zI tr_here), .int (zI tr_depth), .ref trf]))] sz) := by
  refine Met.ofW (cc := cX5_go) (maxL := 3) (ret := (some .int)) (by decide) rfl ?_
  intro p e s m args below meth c s₁ B hml hv
  obtain ⟨rfl, hsz, hP, hK, hD0⟩ := hv
  have hx := B.exec
  have hb := B.bytes
  have hr := B.returns
  have hts := atoms_spec (ws := wyX5_go) B.pre
  have hg : ∀ w ∈ lw_G, w.before _ s = true := fun w h => hts w (List.mem_cons_of_mem _ h)
  have hown : s.vm.findClass RX5 = some m.cls := findClass_of_methodNamed B.named
  have hlocks := B.notSynchronized
  subst hsz
  have hD := hD0.self (sz := s.heap.size)
  generalize hAe : va_A [(tr, .inr (5, [.ref tk, .ref gr, .ref tg, .int (zI tr_state), .int (zI tr_here), .int (zI tr_depth), .ref trf]))] s.heap.size = A at hD ⊢
  have hA : ∀ q : Nat, s.heap.size ≤ q → A q := fun q h => by rw [← hAe]; exact Or.inr h
  have hS : va_S A s.heap s.heap [] := va_S.rf
  have hP : va_P (dC, dI) vwCl [(tr, .inr (5, [.ref tk, .ref gr, .ref tg, .int (zI tr_state), .int (zI tr_here), .int (zI tr_depth), .ref trf]))] s.heap := hP
  have hl := lv_entry ([.ref tr, .int (zI q_), .int (zI nx_)]) (n := 3) (Nat.le_of_ble_eq_true rfl)
  rw [lg_entry_eq]
  generalize (lg_sl ([.ref tr, .int (zI q_), .int (zI nx_)]) ++ List.replicate (3 - (lg_sl ([.ref tr, .int (zI q_), .int (zI nx_)])).length) Slot.unset).toArray = ls at hl ⊢
  have hl : lv_has ls 3 [(0, .ref tr), (1, .int (zI q_)), (2, .int (zI nx_))] := hl
  refine lv_iload_n hx hb dX5_go_0 rfl (lv_at hl 1 rfl) ?_
  refine zv_if_ne (tgt := 6) hx hb dX5_go_1 (by decide) (by omega) (fun c1 => ?_) (fun c1 => ?_)
  · refine lv_aload_n hx hb dX5_go_6 rfl (lv_at hl 0 rfl) ?_
    refine lv_iload_n hx hb dX5_go_7 rfl (lv_at hl 2 rfl) ?_
    refine va_put (D := (dC, dI)) (ci := 5) (v := .int (zI nx_)) (ty := .int) (C := RX5) (T := TX5) (N := 7) hx hb hg inG_X5 tyX5 tyX5_ok nmX5 hown hK hP hD hS 0 rfl rfl 3 (by decide) (hg (.fieldLink RX5 11 "AttributeDesk$TreeReader" "state" "I") gw_2_30) (fun _ h9 => h9) rfl (by decide +kernel) rfl rfl (Nat.le_of_ble_eq_true rfl) dX5_go_8 (fun H locs hP hD hS => ?_)
    have hP : va_P (dC, dI) vwCl [(tr, .inr (5, [.ref tk, .ref gr, .ref tg, .int (zI nx_), .int (zI tr_here), .int (zI tr_depth), .ref trf]))] H := hP
    have hD : va_D A [(tr, .inr (5, [.ref tk, .ref gr, .ref tg, .int (zI nx_), .int (zI tr_here), .int (zI tr_depth), .ref trf]))] := hD
    refine lv_iconst (v := zI 0) hx hb dX5_go_11 rfl ?_
    have hP9 := hP.sub (ws' := [(tr, .inr (5, [.ref tk, .ref gr, .ref tg, .int (zI nx_), .int (zI tr_here), .int (zI tr_depth), .ref trf]))]) [0] rfl
    have hD9 := hD.sub (ws' := [(tr, .inr (5, [.ref tk, .ref gr, .ref tg, .int (zI nx_), .int (zI tr_here), .int (zI tr_depth), .ref trf]))]) [0] (by decide) rfl
    have hK9 := hK.sub (tys' := []) [] rfl
    exact W.iret (v := zI 0) hx hb hr (fun t ht hW => ⟨⟨zI 0, 0, rfl, rfl, nx_, (by omega), by rw [ht]; exact hP9, va_K.moved hW.alike hK9, hD9⟩, hS.F ht⟩) hS.2.2 dX5_go_12
  · refine lv_iconst (v := zI 1) hx hb dX5_go_4 rfl ?_
    have hP9 := hP.sub (ws' := [(tr, .inr (5, [.ref tk, .ref gr, .ref tg, .int (zI tr_state), .int (zI tr_here), .int (zI tr_depth), .ref trf]))]) [0] rfl
    have hD9 := hD.sub (ws' := [(tr, .inr (5, [.ref tk, .ref gr, .ref tg, .int (zI tr_state), .int (zI tr_here), .int (zI tr_depth), .ref trf]))]) [0] (by decide) rfl
    have hK9 := hK.sub (tys' := []) [] rfl
    exact W.iret (v := zI 1) hx hb hr (fun t ht hW => ⟨⟨zI 1, 1, rfl, rfl, tr_state, (by omega), by rw [ht]; exact hP9, va_K.moved hW.alike hK9, hD9⟩, hS.F ht⟩) hS.2.2 dX5_go_5
