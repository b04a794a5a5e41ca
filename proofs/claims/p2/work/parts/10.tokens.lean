set_option maxHeartbeats 4000000 in
set_option maxRecDepth 100000 in
theorem c_X3_isLetter (l : Launch) (dC : Nat → ClassId) (dI : Nat → Nat → Nat) (sz : Nat) (c_ : Int) (h0 : -2147483648 ≤ c_ ∧ c_ < 2147483648) : Met l yX3_isLetter wyX3_isLetter ({ frames := 0, cells := 0, slots := 0, locals := 0 }) (va_Pc [.int (zI c_)] (fun U => U.heap.size = sz ∧ va_P (dC, dI) vwCl [] U.heap ∧ va_K (dC, dI) vwCl [] U ∧ va_D (fun _ => True) [])) (va_Qi (fun (rr : Int32) (r : Int) => rr = zI r) (fun r t => ((r = 1 ∧ (97 ≤ c_ ∧ c_ ≤ 122 ∨ 65 ≤ c_ ∧ c_ ≤ 90)) ∨ (r = 0 ∧ ¬ (97 ≤ c_ ∧ c_ ≤ 122 ∨ 65 ≤ c_ ∧ c_ ≤ 90))) ∧ va_P (dC, dI) vwCl [] t.heap ∧ va_K (dC, dI) vwCl [] t ∧ va_D (va_A [] sz) []) (va_A [] sz)) 0 0 (va_A [] sz) := by
  refine Met.ofW (cc := cX3_isLetter) (maxL := 1) (ret := (some .boolean)) (by decide) rfl ?_
  intro p e s m args below meth c s₁ B hml hv
  obtain ⟨rfl, hsz, hP, hK, hD0⟩ := hv
  have hx := B.exec
  have hb := B.bytes
  have hr := B.returns
  have hts := atoms_spec (ws := wyX3_isLetter) B.pre
  have hg : ∀ w ∈ lw_G, w.before _ s = true := fun w h => hts w (List.mem_cons_of_mem _ h)
  have hown : s.vm.findClass RX3 = some m.cls := findClass_of_methodNamed B.named
  have hlocks := B.notSynchronized
  subst hsz
  have hD := hD0.self (sz := s.heap.size)
  generalize hAe : va_A [] s.heap.size = A at hD ⊢
  have hA : ∀ q : Nat, s.heap.size ≤ q → A q := fun q h => by rw [← hAe]; exact Or.inr h
  have hS : va_S A s.heap s.heap [] := va_S.rf
  have hP : va_P (dC, dI) vwCl [] s.heap := hP
  have hl := lv_entry ([.int (zI c_)]) (n := 1) (Nat.le_of_ble_eq_true rfl)
  rw [lg_entry_eq]
  generalize (lg_sl ([.int (zI c_)]) ++ List.replicate (1 - (lg_sl ([.int (zI c_)])).length) Slot.unset).toArray = ls at hl ⊢
  have hl : lv_has ls 1 [(0, .int (zI c_))] := hl
  refine lv_iload_n hx hb dX3_isLetter_0 rfl (lv_at hl 0 rfl) ?_
  refine lv_bipush (v := zI 97) hx hb dX3_isLetter_1 (by decide) ?_
  refine zv_icmp_lt (tgt := 12) hx hb dX3_isLetter_3 (by decide) (by omega) (by decide) (fun c1 => ?_) (fun c1 => ?_)
  · refine lv_iload_n hx hb dX3_isLetter_12 rfl (lv_at hl 0 rfl) ?_
    refine lv_bipush (v := zI 65) hx hb dX3_isLetter_13 (by decide) ?_
    refine zv_icmp_lt (tgt := 28) hx hb dX3_isLetter_15 (by decide) (by omega) (by decide) (fun c2 => ?_) (fun c2 => ?_)
    · refine lv_iconst (v := zI 0) hx hb dX3_isLetter_28 rfl ?_
      have hP9 := hP.sub (ws' := []) [] rfl
      have hD9 := hD.sub (ws' := []) [] (by decide) rfl
      have hK9 := hK.sub (tys' := []) [] rfl
      exact W.zret (v := zI 0) hx hb hr (by decide) (fun t ht hW => ⟨⟨zI 0, 0, rfl, rfl, (by omega), by rw [ht]; exact hP9, va_K.moved hW.alike hK9, hD9⟩, hS.F ht⟩) hS.2.2 dX3_isLetter_29
    · refine lv_iload_n hx hb dX3_isLetter_18 rfl (lv_at hl 0 rfl) ?_
      refine lv_bipush (v := zI 90) hx hb dX3_isLetter_19 (by decide) ?_
      refine zv_icmp_gt (tgt := 28) hx hb dX3_isLetter_21 (by decide) (by omega) (by decide) (fun c3 => ?_) (fun c3 => ?_)
      · refine lv_iconst (v := zI 0) hx hb dX3_isLetter_28 rfl ?_
        have hP9 := hP.sub (ws' := []) [] rfl
        have hD9 := hD.sub (ws' := []) [] (by decide) rfl
        have hK9 := hK.sub (tys' := []) [] rfl
        exact W.zret (v := zI 0) hx hb hr (by decide) (fun t ht hW => ⟨⟨zI 0, 0, rfl, rfl, (by omega), by rw [ht]; exact hP9, va_K.moved hW.alike hK9, hD9⟩, hS.F ht⟩) hS.2.2 dX3_isLetter_29
      · refine lv_iconst (v := zI 1) hx hb dX3_isLetter_24 rfl ?_
        refine lv_goto (tgt := 29) hx hb dX3_isLetter_25 (by decide) ?_
        have hP9 := hP.sub (ws' := []) [] rfl
        have hD9 := hD.sub (ws' := []) [] (by decide) rfl
        have hK9 := hK.sub (tys' := []) [] rfl
        exact W.zret (v := zI 1) hx hb hr (by decide) (fun t ht hW => ⟨⟨zI 1, 1, rfl, rfl, (by omega), by rw [ht]; exact hP9, va_K.moved hW.alike hK9, hD9⟩, hS.F ht⟩) hS.2.2 dX3_isLetter_29
  · refine lv_iload_n hx hb dX3_isLetter_6 rfl (lv_at hl 0 rfl) ?_
    refine lv_bipush (v := zI 122) hx hb dX3_isLetter_7 (by decide) ?_
    refine zv_icmp_le (tgt := 24) hx hb dX3_isLetter_9 (by decide) (by omega) (by decide) (fun c4 => ?_) (fun c4 => ?_)
    · refine lv_iconst (v := zI 1) hx hb dX3_isLetter_24 rfl ?_
      refine lv_goto (tgt := 29) hx hb dX3_isLetter_25 (by decide) ?_
      have hP9 := hP.sub (ws' := []) [] rfl
      have hD9 := hD.sub (ws' := []) [] (by decide) rfl
      have hK9 := hK.sub (tys' := []) [] rfl
      exact W.zret (v := zI 1) hx hb hr (by decide) (fun t ht hW => ⟨⟨zI 1, 1, rfl, rfl, (by omega), by rw [ht]; exact hP9, va_K.moved hW.alike hK9, hD9⟩, hS.F ht⟩) hS.2.2 dX3_isLetter_29
    · refine lv_iload_n hx hb dX3_isLetter_12 rfl (lv_at hl 0 rfl) ?_
      refine lv_bipush (v := zI 65) hx hb dX3_isLetter_13 (by decide) ?_
      refine zv_icmp_lt (tgt := 28) hx hb dX3_isLetter_15 (by decide) (by omega) (by decide) (fun c5 => ?_) (fun c5 => ?_)
      · refine lv_iconst (v := zI 0) hx hb dX3_isLetter_28 rfl ?_
        have hP9 := hP.sub (ws' := []) [] rfl
        have hD9 := hD.sub (ws' := []) [] (by decide) rfl
        have hK9 := hK.sub (tys' := []) [] rfl
        exact W.zret (v := zI 0) hx hb hr (by decide) (fun t ht hW => ⟨⟨zI 0, 0, rfl, rfl, (by omega), by rw [ht]; exact hP9, va_K.moved hW.alike hK9, hD9⟩, hS.F ht⟩) hS.2.2 dX3_isLetter_29
      · refine lv_iload_n hx hb dX3_isLetter_18 rfl (lv_at hl 0 rfl) ?_
        refine lv_bipush (v := zI 90) hx hb dX3_isLetter_19 (by decide) ?_
        refine zv_icmp_gt (tgt := 28) hx hb dX3_isLetter_21 (by decide) (by omega) (by decide) (fun c6 => ?_) (fun c6 => ?_)
        · refine lv_iconst (v := zI 0) hx hb dX3_isLetter_28 rfl ?_
          have hP9 := hP.sub (ws' := []) [] rfl
          have hD9 := hD.sub (ws' := []) [] (by decide) rfl
          have hK9 := hK.sub (tys' := []) [] rfl
          exact W.zret (v := zI 0) hx hb hr (by decide) (fun t ht hW => ⟨⟨zI 0, 0, rfl, rfl, (by omega), by rw [ht]; exact hP9, va_K.moved hW.alike hK9, hD9⟩, hS.F ht⟩) hS.2.2 dX3_isLetter_29
        · refine lv_iconst (v := zI 1) hx hb dX3_isLetter_24 rfl ?_
          refine lv_goto (tgt := 29) hx hb dX3_isLetter_25 (by decide) ?_
          have hP9 := hP.sub (ws' := []) [] rfl
          have hD9 := hD.sub (ws' := []) [] (by decide) rfl
          have hK9 := hK.sub (tys' := []) [] rfl
          exact W.zret (v := zI 1) hx hb hr (by decide) (fun t ht hW => ⟨⟨zI 1, 1, rfl, rfl, (by omega), by rw [ht]; exact hP9, va_K.moved hW.alike hK9, hD9⟩, hS.F ht⟩) hS.2.2 dX3_isLetter_29

set_option maxHeartbeats 4000000 in
set_option maxRecDepth 100000 in
theorem c_X3_isDigit (l : Launch) (dC : Nat → ClassId) (dI : Nat → Nat → Nat) (sz : Nat) (c_ : Int) (h0 : -2147483648 ≤ c_ ∧ c_ < 2147483648) : Met l yX3_isDigit wyX3_isDigit ({ frames := 0, cells := 0, slots := 0, locals := 0 }) (va_Pc [.int (zI c_)] (fun U => U.heap.size = sz ∧ va_P (dC, dI) vwCl [] U.heap ∧ va_K (dC, dI) vwCl [] U ∧ va_D (fun _ => True) [])) (va_Qi (fun (rr : Int32) (r : Int) => rr = zI r) (fun r t => ((r = 1 ∧ (48 ≤ c_ ∧ c_ ≤ 57)) ∨ (r = 0 ∧ ¬ (48 ≤ c_ ∧ c_ ≤ 57))) ∧ va_P (dC, dI) vwCl [] t.heap ∧ va_K (dC, dI) vwCl [] t ∧ va_D (va_A [] sz) []) (va_A [] sz)) 0 0 (va_A [] sz) := by
  refine Met.ofW (cc := cX3_isDigit) (maxL := 1) (ret := (some .boolean)) (by decide) rfl ?_
  intro p e s m args below meth c s₁ B hml hv
  obtain ⟨rfl, hsz, hP, hK, hD0⟩ := hv
  have hx := B.exec
  have hb := B.bytes
  have hr := B.returns
  have hts := atoms_spec (ws := wyX3_isDigit) B.pre
  have hg : ∀ w ∈ lw_G, w.before _ s = true := fun w h => hts w (List.mem_cons_of_mem _ h)
  have hown : s.vm.findClass RX3 = some m.cls := findClass_of_methodNamed B.named
  have hlocks := B.notSynchronized
  subst hsz
  have hD := hD0.self (sz := s.heap.size)
  generalize hAe : va_A [] s.heap.size = A at hD ⊢
  have hA : ∀ q : Nat, s.heap.size ≤ q → A q := fun q h => by rw [← hAe]; exact Or.inr h
  have hS : va_S A s.heap s.heap [] := va_S.rf
  have hP : va_P (dC, dI) vwCl [] s.heap := hP
  have hl := lv_entry ([.int (zI c_)]) (n := 1) (Nat.le_of_ble_eq_true rfl)
  rw [lg_entry_eq]
  generalize (lg_sl ([.int (zI c_)]) ++ List.replicate (1 - (lg_sl ([.int (zI c_)])).length) Slot.unset).toArray = ls at hl ⊢
  have hl : lv_has ls 1 [(0, .int (zI c_))] := hl
  refine lv_iload_n hx hb dX3_isDigit_0 rfl (lv_at hl 0 rfl) ?_
  refine lv_bipush (v := zI 48) hx hb dX3_isDigit_1 (by decide) ?_
  refine zv_icmp_lt (tgt := 16) hx hb dX3_isDigit_3 (by decide) (by omega) (by decide) (fun c1 => ?_) (fun c1 => ?_)
  · refine lv_iconst (v := zI 0) hx hb dX3_isDigit_16 rfl ?_
    have hP9 := hP.sub (ws' := []) [] rfl
    have hD9 := hD.sub (ws' := []) [] (by decide) rfl
    have hK9 := hK.sub (tys' := []) [] rfl
    exact W.zret (v := zI 0) hx hb hr (by decide) (fun t ht hW => ⟨⟨zI 0, 0, rfl, rfl, (by omega), by rw [ht]; exact hP9, va_K.moved hW.alike hK9, hD9⟩, hS.F ht⟩) hS.2.2 dX3_isDigit_17
  · refine lv_iload_n hx hb dX3_isDigit_6 rfl (lv_at hl 0 rfl) ?_
    refine lv_bipush (v := zI 57) hx hb dX3_isDigit_7 (by decide) ?_
    refine zv_icmp_gt (tgt := 16) hx hb dX3_isDigit_9 (by decide) (by omega) (by decide) (fun c2 => ?_) (fun c2 => ?_)
    · refine lv_iconst (v := zI 0) hx hb dX3_isDigit_16 rfl ?_
      have hP9 := hP.sub (ws' := []) [] rfl
      have hD9 := hD.sub (ws' := []) [] (by decide) rfl
      have hK9 := hK.sub (tys' := []) [] rfl
      exact W.zret (v := zI 0) hx hb hr (by decide) (fun t ht hW => ⟨⟨zI 0, 0, rfl, rfl, (by omega), by rw [ht]; exact hP9, va_K.moved hW.alike hK9, hD9⟩, hS.F ht⟩) hS.2.2 dX3_isDigit_17
    · refine lv_iconst (v := zI 1) hx hb dX3_isDigit_12 rfl ?_
      refine lv_goto (tgt := 17) hx hb dX3_isDigit_13 (by decide) ?_
      have hP9 := hP.sub (ws' := []) [] rfl
      have hD9 := hD.sub (ws' := []) [] (by decide) rfl
      have hK9 := hK.sub (tys' := []) [] rfl
      exact W.zret (v := zI 1) hx hb hr (by decide) (fun t ht hW => ⟨⟨zI 1, 1, rfl, rfl, (by omega), by rw [ht]; exact hP9, va_K.moved hW.alike hK9, hD9⟩, hS.F ht⟩) hS.2.2 dX3_isDigit_17

set_option maxHeartbeats 4000000 in
set_option maxRecDepth 100000 in
theorem c_X3_isSign (l : Launch) (dC : Nat → ClassId) (dI : Nat → Nat → Nat) (sz : Nat) (c_ : Int) (h0 : -2147483648 ≤ c_ ∧ c_ < 2147483648) : Met l yX3_isSign wyX3_isSign ({ frames := 0, cells := 0, slots := 0, locals := 0 }) (va_Pc [.int (zI c_)] (fun U => U.heap.size = sz ∧ va_P (dC, dI) vwCl [] U.heap ∧ va_K (dC, dI) vwCl [] U ∧ va_D (fun _ => True) [])) (va_Qi (fun (rr : Int32) (r : Int) => rr = zI r) (fun r t => ((r = 1 ∧ (c_ = 37 ∨ c_ = 40 ∨ c_ = 41 ∨ c_ = 42 ∨ c_ = 43 ∨ c_ = 45 ∨ c_ = 46 ∨ c_ = 47 ∨ c_ = 58 ∨ c_ = 59 ∨ c_ = 60 ∨ c_ = 61)) ∨ (r = 0 ∧ ¬ (c_ = 37 ∨ c_ = 40 ∨ c_ = 41 ∨ c_ = 42 ∨ c_ = 43 ∨ c_ = 45 ∨ c_ = 46 ∨ c_ = 47 ∨ c_ = 58 ∨ c_ = 59 ∨ c_ = 60 ∨ c_ = 61))) ∧ va_P (dC, dI) vwCl [] t.heap ∧ va_K (dC, dI) vwCl [] t ∧ va_D (va_A [] sz) []) (va_A [] sz)) 0 0 (va_A [] sz) := by
  refine Met.ofW (cc := cX3_isSign) (maxL := 1) (ret := (some .boolean)) (by decide) rfl ?_
  intro p e s m args below meth c s₁ B hml hv
  obtain ⟨rfl, hsz, hP, hK, hD0⟩ := hv
  have hx := B.exec
  have hb := B.bytes
  have hr := B.returns
  have hts := atoms_spec (ws := wyX3_isSign) B.pre
  have hg : ∀ w ∈ lw_G, w.before _ s = true := fun w h => hts w (List.mem_cons_of_mem _ h)
  have hown : s.vm.findClass RX3 = some m.cls := findClass_of_methodNamed B.named
  have hlocks := B.notSynchronized
  subst hsz
  have hD := hD0.self (sz := s.heap.size)
  generalize hAe : va_A [] s.heap.size = A at hD ⊢
  have hA : ∀ q : Nat, s.heap.size ≤ q → A q := fun q h => by rw [← hAe]; exact Or.inr h
  have hS : va_S A s.heap s.heap [] := va_S.rf
  have hP : va_P (dC, dI) vwCl [] s.heap := hP
  have hl := lv_entry ([.int (zI c_)]) (n := 1) (Nat.le_of_ble_eq_true rfl)
  rw [lg_entry_eq]
  generalize (lg_sl ([.int (zI c_)]) ++ List.replicate (1 - (lg_sl ([.int (zI c_)])).length) Slot.unset).toArray = ls at hl ⊢
  have hl : lv_has ls 1 [(0, .int (zI c_))] := hl
  refine lv_iload_n hx hb dX3_isSign_0 rfl (lv_at hl 0 rfl) ?_
  by_cases s1 : c_ = 37
  · refine zv_tableIn (k0 := 37) (off := 115) (tgt := 116) hx hb dX3_isSign_1 s1 (by decide) (by decide) (by decide) (by decide) (by decide) ?_
    refine lv_iconst (v := zI 1) hx hb dX3_isSign_116 rfl ?_
    have hP9 := hP.sub (ws' := []) [] rfl
    have hD9 := hD.sub (ws' := []) [] (by decide) rfl
    have hK9 := hK.sub (tys' := []) [] rfl
    exact W.zret (v := zI 1) hx hb hr (by decide) (fun t ht hW => ⟨⟨zI 1, 1, rfl, rfl, (by omega), by rw [ht]; exact hP9, va_K.moved hW.alike hK9, hD9⟩, hS.F ht⟩) hS.2.2 dX3_isSign_117
  by_cases s2 : c_ = 38
  · refine zv_tableIn (k0 := 38) (off := 117) (tgt := 118) hx hb dX3_isSign_1 s2 (by decide) (by decide) (by decide) (by decide) (by decide) ?_
    refine lv_iconst (v := zI 0) hx hb dX3_isSign_118 rfl ?_
    have hP9 := hP.sub (ws' := []) [] rfl
    have hD9 := hD.sub (ws' := []) [] (by decide) rfl
    have hK9 := hK.sub (tys' := []) [] rfl
    exact W.zret (v := zI 0) hx hb hr (by decide) (fun t ht hW => ⟨⟨zI 0, 0, rfl, rfl, (by omega), by rw [ht]; exact hP9, va_K.moved hW.alike hK9, hD9⟩, hS.F ht⟩) hS.2.2 dX3_isSign_119
  by_cases s3 : c_ = 39
  · refine zv_tableIn (k0 := 39) (off := 117) (tgt := 118) hx hb dX3_isSign_1 s3 (by decide) (by decide) (by decide) (by decide) (by decide) ?_
    refine lv_iconst (v := zI 0) hx hb dX3_isSign_118 rfl ?_
    have hP9 := hP.sub (ws' := []) [] rfl
    have hD9 := hD.sub (ws' := []) [] (by decide) rfl
    have hK9 := hK.sub (tys' := []) [] rfl
    exact W.zret (v := zI 0) hx hb hr (by decide) (fun t ht hW => ⟨⟨zI 0, 0, rfl, rfl, (by omega), by rw [ht]; exact hP9, va_K.moved hW.alike hK9, hD9⟩, hS.F ht⟩) hS.2.2 dX3_isSign_119
  by_cases s4 : c_ = 40
  · refine zv_tableIn (k0 := 40) (off := 115) (tgt := 116) hx hb dX3_isSign_1 s4 (by decide) (by decide) (by decide) (by decide) (by decide) ?_
    refine lv_iconst (v := zI 1) hx hb dX3_isSign_116 rfl ?_
    have hP9 := hP.sub (ws' := []) [] rfl
    have hD9 := hD.sub (ws' := []) [] (by decide) rfl
    have hK9 := hK.sub (tys' := []) [] rfl
    exact W.zret (v := zI 1) hx hb hr (by decide) (fun t ht hW => ⟨⟨zI 1, 1, rfl, rfl, (by omega), by rw [ht]; exact hP9, va_K.moved hW.alike hK9, hD9⟩, hS.F ht⟩) hS.2.2 dX3_isSign_117
  by_cases s5 : c_ = 41
  · refine zv_tableIn (k0 := 41) (off := 115) (tgt := 116) hx hb dX3_isSign_1 s5 (by decide) (by decide) (by decide) (by decide) (by decide) ?_
    refine lv_iconst (v := zI 1) hx hb dX3_isSign_116 rfl ?_
    have hP9 := hP.sub (ws' := []) [] rfl
    have hD9 := hD.sub (ws' := []) [] (by decide) rfl
    have hK9 := hK.sub (tys' := []) [] rfl
    exact W.zret (v := zI 1) hx hb hr (by decide) (fun t ht hW => ⟨⟨zI 1, 1, rfl, rfl, (by omega), by rw [ht]; exact hP9, va_K.moved hW.alike hK9, hD9⟩, hS.F ht⟩) hS.2.2 dX3_isSign_117
  by_cases s6 : c_ = 42
  · refine zv_tableIn (k0 := 42) (off := 115) (tgt := 116) hx hb dX3_isSign_1 s6 (by decide) (by decide) (by decide) (by decide) (by decide) ?_
    refine lv_iconst (v := zI 1) hx hb dX3_isSign_116 rfl ?_
    have hP9 := hP.sub (ws' := []) [] rfl
    have hD9 := hD.sub (ws' := []) [] (by decide) rfl
    have hK9 := hK.sub (tys' := []) [] rfl
    exact W.zret (v := zI 1) hx hb hr (by decide) (fun t ht hW => ⟨⟨zI 1, 1, rfl, rfl, (by omega), by rw [ht]; exact hP9, va_K.moved hW.alike hK9, hD9⟩, hS.F ht⟩) hS.2.2 dX3_isSign_117
  by_cases s7 : c_ = 43
  · refine zv_tableIn (k0 := 43) (off := 115) (tgt := 116) hx hb dX3_isSign_1 s7 (by decide) (by decide) (by decide) (by decide) (by decide) ?_
    refine lv_iconst (v := zI 1) hx hb dX3_isSign_116 rfl ?_
    have hP9 := hP.sub (ws' := []) [] rfl
    have hD9 := hD.sub (ws' := []) [] (by decide) rfl
    have hK9 := hK.sub (tys' := []) [] rfl
    exact W.zret (v := zI 1) hx hb hr (by decide) (fun t ht hW => ⟨⟨zI 1, 1, rfl, rfl, (by omega), by rw [ht]; exact hP9, va_K.moved hW.alike hK9, hD9⟩, hS.F ht⟩) hS.2.2 dX3_isSign_117
  by_cases s8 : c_ = 44
  · refine zv_tableIn (k0 := 44) (off := 117) (tgt := 118) hx hb dX3_isSign_1 s8 (by decide) (by decide) (by decide) (by decide) (by decide) ?_
    refine lv_iconst (v := zI 0) hx hb dX3_isSign_118 rfl ?_
    have hP9 := hP.sub (ws' := []) [] rfl
    have hD9 := hD.sub (ws' := []) [] (by decide) rfl
    have hK9 := hK.sub (tys' := []) [] rfl
    exact W.zret (v := zI 0) hx hb hr (by decide) (fun t ht hW => ⟨⟨zI 0, 0, rfl, rfl, (by omega), by rw [ht]; exact hP9, va_K.moved hW.alike hK9, hD9⟩, hS.F ht⟩) hS.2.2 dX3_isSign_119
  by_cases s9 : c_ = 45
  · refine zv_tableIn (k0 := 45) (off := 115) (tgt := 116) hx hb dX3_isSign_1 s9 (by decide) (by decide) (by decide) (by decide) (by decide) ?_
    refine lv_iconst (v := zI 1) hx hb dX3_isSign_116 rfl ?_
    have hP9 := hP.sub (ws' := []) [] rfl
    have hD9 := hD.sub (ws' := []) [] (by decide) rfl
    have hK9 := hK.sub (tys' := []) [] rfl
    exact W.zret (v := zI 1) hx hb hr (by decide) (fun t ht hW => ⟨⟨zI 1, 1, rfl, rfl, (by omega), by rw [ht]; exact hP9, va_K.moved hW.alike hK9, hD9⟩, hS.F ht⟩) hS.2.2 dX3_isSign_117
  by_cases s10 : c_ = 46
  · refine zv_tableIn (k0 := 46) (off := 115) (tgt := 116) hx hb dX3_isSign_1 s10 (by decide) (by decide) (by decide) (by decide) (by decide) ?_
    refine lv_iconst (v := zI 1) hx hb dX3_isSign_116 rfl ?_
    have hP9 := hP.sub (ws' := []) [] rfl
    have hD9 := hD.sub (ws' := []) [] (by decide) rfl
    have hK9 := hK.sub (tys' := []) [] rfl
    exact W.zret (v := zI 1) hx hb hr (by decide) (fun t ht hW => ⟨⟨zI 1, 1, rfl, rfl, (by omega), by rw [ht]; exact hP9, va_K.moved hW.alike hK9, hD9⟩, hS.F ht⟩) hS.2.2 dX3_isSign_117
  by_cases s11 : c_ = 47
  · refine zv_tableIn (k0 := 47) (off := 115) (tgt := 116) hx hb dX3_isSign_1 s11 (by decide) (by decide) (by decide) (by decide) (by decide) ?_
    refine lv_iconst (v := zI 1) hx hb dX3_isSign_116 rfl ?_
    have hP9 := hP.sub (ws' := []) [] rfl
    have hD9 := hD.sub (ws' := []) [] (by decide) rfl
    have hK9 := hK.sub (tys' := []) [] rfl
    exact W.zret (v := zI 1) hx hb hr (by decide) (fun t ht hW => ⟨⟨zI 1, 1, rfl, rfl, (by omega), by rw [ht]; exact hP9, va_K.moved hW.alike hK9, hD9⟩, hS.F ht⟩) hS.2.2 dX3_isSign_117
  by_cases s12 : c_ = 48
  · refine zv_tableIn (k0 := 48) (off := 117) (tgt := 118) hx hb dX3_isSign_1 s12 (by decide) (by decide) (by decide) (by decide) (by decide) ?_
    refine lv_iconst (v := zI 0) hx hb dX3_isSign_118 rfl ?_
    have hP9 := hP.sub (ws' := []) [] rfl
    have hD9 := hD.sub (ws' := []) [] (by decide) rfl
    have hK9 := hK.sub (tys' := []) [] rfl
    exact W.zret (v := zI 0) hx hb hr (by decide) (fun t ht hW => ⟨⟨zI 0, 0, rfl, rfl, (by omega), by rw [ht]; exact hP9, va_K.moved hW.alike hK9, hD9⟩, hS.F ht⟩) hS.2.2 dX3_isSign_119
  by_cases s13 : c_ = 49
  · refine zv_tableIn (k0 := 49) (off := 117) (tgt := 118) hx hb dX3_isSign_1 s13 (by decide) (by decide) (by decide) (by decide) (by decide) ?_
    refine lv_iconst (v := zI 0) hx hb dX3_isSign_118 rfl ?_
    have hP9 := hP.sub (ws' := []) [] rfl
    have hD9 := hD.sub (ws' := []) [] (by decide) rfl
    have hK9 := hK.sub (tys' := []) [] rfl
    exact W.zret (v := zI 0) hx hb hr (by decide) (fun t ht hW => ⟨⟨zI 0, 0, rfl, rfl, (by omega), by rw [ht]; exact hP9, va_K.moved hW.alike hK9, hD9⟩, hS.F ht⟩) hS.2.2 dX3_isSign_119
  by_cases s14 : c_ = 50
  · refine zv_tableIn (k0 := 50) (off := 117) (tgt := 118) hx hb dX3_isSign_1 s14 (by decide) (by decide) (by decide) (by decide) (by decide) ?_
    refine lv_iconst (v := zI 0) hx hb dX3_isSign_118 rfl ?_
    have hP9 := hP.sub (ws' := []) [] rfl
    have hD9 := hD.sub (ws' := []) [] (by decide) rfl
    have hK9 := hK.sub (tys' := []) [] rfl
    exact W.zret (v := zI 0) hx hb hr (by decide) (fun t ht hW => ⟨⟨zI 0, 0, rfl, rfl, (by omega), by rw [ht]; exact hP9, va_K.moved hW.alike hK9, hD9⟩, hS.F ht⟩) hS.2.2 dX3_isSign_119
  by_cases s15 : c_ = 51
  · refine zv_tableIn (k0 := 51) (off := 117) (tgt := 118) hx hb dX3_isSign_1 s15 (by decide) (by decide) (by decide) (by decide) (by decide) ?_
    refine lv_iconst (v := zI 0) hx hb dX3_isSign_118 rfl ?_
    have hP9 := hP.sub (ws' := []) [] rfl
    have hD9 := hD.sub (ws' := []) [] (by decide) rfl
    have hK9 := hK.sub (tys' := []) [] rfl
    exact W.zret (v := zI 0) hx hb hr (by decide) (fun t ht hW => ⟨⟨zI 0, 0, rfl, rfl, (by omega), by rw [ht]; exact hP9, va_K.moved hW.alike hK9, hD9⟩, hS.F ht⟩) hS.2.2 dX3_isSign_119
  by_cases s16 : c_ = 52
  · refine zv_tableIn (k0 := 52) (off := 117) (tgt := 118) hx hb dX3_isSign_1 s16 (by decide) (by decide) (by decide) (by decide) (by decide) ?_
    refine lv_iconst (v := zI 0) hx hb dX3_isSign_118 rfl ?_
    have hP9 := hP.sub (ws' := []) [] rfl
    have hD9 := hD.sub (ws' := []) [] (by decide) rfl
    have hK9 := hK.sub (tys' := []) [] rfl
    exact W.zret (v := zI 0) hx hb hr (by decide) (fun t ht hW => ⟨⟨zI 0, 0, rfl, rfl, (by omega), by rw [ht]; exact hP9, va_K.moved hW.alike hK9, hD9⟩, hS.F ht⟩) hS.2.2 dX3_isSign_119
  by_cases s17 : c_ = 53
  · refine zv_tableIn (k0 := 53) (off := 117) (tgt := 118) hx hb dX3_isSign_1 s17 (by decide) (by decide) (by decide) (by decide) (by decide) ?_
    refine lv_iconst (v := zI 0) hx hb dX3_isSign_118 rfl ?_
    have hP9 := hP.sub (ws' := []) [] rfl
    have hD9 := hD.sub (ws' := []) [] (by decide) rfl
    have hK9 := hK.sub (tys' := []) [] rfl
    exact W.zret (v := zI 0) hx hb hr (by decide) (fun t ht hW => ⟨⟨zI 0, 0, rfl, rfl, (by omega), by rw [ht]; exact hP9, va_K.moved hW.alike hK9, hD9⟩, hS.F ht⟩) hS.2.2 dX3_isSign_119
  by_cases s18 : c_ = 54
  · refine zv_tableIn (k0 := 54) (off := 117) (tgt := 118) hx hb dX3_isSign_1 s18 (by decide) (by decide) (by decide) (by decide) (by decide) ?_
    refine lv_iconst (v := zI 0) hx hb dX3_isSign_118 rfl ?_
    have hP9 := hP.sub (ws' := []) [] rfl
    have hD9 := hD.sub (ws' := []) [] (by decide) rfl
    have hK9 := hK.sub (tys' := []) [] rfl
    exact W.zret (v := zI 0) hx hb hr (by decide) (fun t ht hW => ⟨⟨zI 0, 0, rfl, rfl, (by omega), by rw [ht]; exact hP9, va_K.moved hW.alike hK9, hD9⟩, hS.F ht⟩) hS.2.2 dX3_isSign_119
  by_cases s19 : c_ = 55
  · refine zv_tableIn (k0 := 55) (off := 117) (tgt := 118) hx hb dX3_isSign_1 s19 (by decide) (by decide) (by decide) (by decide) (by decide) ?_
    refine lv_iconst (v := zI 0) hx hb dX3_isSign_118 rfl ?_
    have hP9 := hP.sub (ws' := []) [] rfl
    have hD9 := hD.sub (ws' := []) [] (by decide) rfl
    have hK9 := hK.sub (tys' := []) [] rfl
    exact W.zret (v := zI 0) hx hb hr (by decide) (fun t ht hW => ⟨⟨zI 0, 0, rfl, rfl, (by omega), by rw [ht]; exact hP9, va_K.moved hW.alike hK9, hD9⟩, hS.F ht⟩) hS.2.2 dX3_isSign_119
  by_cases s20 : c_ = 56
  · refine zv_tableIn (k0 := 56) (off := 117) (tgt := 118) hx hb dX3_isSign_1 s20 (by decide) (by decide) (by decide) (by decide) (by decide) ?_
    refine lv_iconst (v := zI 0) hx hb dX3_isSign_118 rfl ?_
    have hP9 := hP.sub (ws' := []) [] rfl
    have hD9 := hD.sub (ws' := []) [] (by decide) rfl
    have hK9 := hK.sub (tys' := []) [] rfl
    exact W.zret (v := zI 0) hx hb hr (by decide) (fun t ht hW => ⟨⟨zI 0, 0, rfl, rfl, (by omega), by rw [ht]; exact hP9, va_K.moved hW.alike hK9, hD9⟩, hS.F ht⟩) hS.2.2 dX3_isSign_119
  by_cases s21 : c_ = 57
  · refine zv_tableIn (k0 := 57) (off := 117) (tgt := 118) hx hb dX3_isSign_1 s21 (by decide) (by decide) (by decide) (by decide) (by decide) ?_
    refine lv_iconst (v := zI 0) hx hb dX3_isSign_118 rfl ?_
    have hP9 := hP.sub (ws' := []) [] rfl
    have hD9 := hD.sub (ws' := []) [] (by decide) rfl
    have hK9 := hK.sub (tys' := []) [] rfl
    exact W.zret (v := zI 0) hx hb hr (by decide) (fun t ht hW => ⟨⟨zI 0, 0, rfl, rfl, (by omega), by rw [ht]; exact hP9, va_K.moved hW.alike hK9, hD9⟩, hS.F ht⟩) hS.2.2 dX3_isSign_119
  by_cases s22 : c_ = 58
  · refine zv_tableIn (k0 := 58) (off := 115) (tgt := 116) hx hb dX3_isSign_1 s22 (by decide) (by decide) (by decide) (by decide) (by decide) ?_
    refine lv_iconst (v := zI 1) hx hb dX3_isSign_116 rfl ?_
    have hP9 := hP.sub (ws' := []) [] rfl
    have hD9 := hD.sub (ws' := []) [] (by decide) rfl
    have hK9 := hK.sub (tys' := []) [] rfl
    exact W.zret (v := zI 1) hx hb hr (by decide) (fun t ht hW => ⟨⟨zI 1, 1, rfl, rfl, (by omega), by rw [ht]; exact hP9, va_K.moved hW.alike hK9, hD9⟩, hS.F ht⟩) hS.2.2 dX3_isSign_117
  by_cases s23 : c_ = 59
  · refine zv_tableIn (k0 := 59) (off := 115) (tgt := 116) hx hb dX3_isSign_1 s23 (by decide) (by decide) (by decide) (by decide) (by decide) ?_
    refine lv_iconst (v := zI 1) hx hb dX3_isSign_116 rfl ?_
    have hP9 := hP.sub (ws' := []) [] rfl
    have hD9 := hD.sub (ws' := []) [] (by decide) rfl
    have hK9 := hK.sub (tys' := []) [] rfl
    exact W.zret (v := zI 1) hx hb hr (by decide) (fun t ht hW => ⟨⟨zI 1, 1, rfl, rfl, (by omega), by rw [ht]; exact hP9, va_K.moved hW.alike hK9, hD9⟩, hS.F ht⟩) hS.2.2 dX3_isSign_117
  by_cases s24 : c_ = 60
  · refine zv_tableIn (k0 := 60) (off := 115) (tgt := 116) hx hb dX3_isSign_1 s24 (by decide) (by decide) (by decide) (by decide) (by decide) ?_
    refine lv_iconst (v := zI 1) hx hb dX3_isSign_116 rfl ?_
    have hP9 := hP.sub (ws' := []) [] rfl
    have hD9 := hD.sub (ws' := []) [] (by decide) rfl
    have hK9 := hK.sub (tys' := []) [] rfl
    exact W.zret (v := zI 1) hx hb hr (by decide) (fun t ht hW => ⟨⟨zI 1, 1, rfl, rfl, (by omega), by rw [ht]; exact hP9, va_K.moved hW.alike hK9, hD9⟩, hS.F ht⟩) hS.2.2 dX3_isSign_117
  by_cases s25 : c_ = 61
  · refine zv_tableIn (k0 := 61) (off := 115) (tgt := 116) hx hb dX3_isSign_1 s25 (by decide) (by decide) (by decide) (by decide) (by decide) ?_
    refine lv_iconst (v := zI 1) hx hb dX3_isSign_116 rfl ?_
    have hP9 := hP.sub (ws' := []) [] rfl
    have hD9 := hD.sub (ws' := []) [] (by decide) rfl
    have hK9 := hK.sub (tys' := []) [] rfl
    exact W.zret (v := zI 1) hx hb hr (by decide) (fun t ht hW => ⟨⟨zI 1, 1, rfl, rfl, (by omega), by rw [ht]; exact hP9, va_K.moved hW.alike hK9, hD9⟩, hS.F ht⟩) hS.2.2 dX3_isSign_117
  refine zv_tableOut (tgt := 118) hx hb dX3_isSign_1 (by omega) (by omega) (by decide) ?_
  refine lv_iconst (v := zI 0) hx hb dX3_isSign_118 rfl ?_
  have hP9 := hP.sub (ws' := []) [] rfl
  have hD9 := hD.sub (ws' := []) [] (by decide) rfl
  have hK9 := hK.sub (tys' := []) [] rfl
  exact W.zret (v := zI 0) hx hb hr (by decide) (fun t ht hW => ⟨⟨zI 0, 0, rfl, rfl, (by omega), by rw [ht]; exact hP9, va_K.moved hW.alike hK9, hD9⟩, hS.F ht⟩) hS.2.2 dX3_isSign_119

set_option maxHeartbeats 4000000 in
set_option maxRecDepth 100000 in
theorem c_X3_skipBlanks (l : Launch) (dC : Nat → ClassId) (dI : Nat → Nat → Nat) (tk tp : Nat) (cB : ClassId) (sz : Nat) (tk_size : Int) (tk_behind : Int) (tk_kind : Int) (tk_at : Int) (tk_name : Int) (tk_number : Int) (t : Int → Int) (from_ : Int) (ht : ∀ j : Int, 0 ≤ j ∧ j < 3000 → -128 ≤ t j ∧ t j < 128) (hf : 0 ≤ from_ ∧ from_ ≤ tk_size) (hs : tk_size ≤ 3000) : Met l yX3_skipBlanks wyX3_skipBlanks ({ frames := 0, cells := 0, slots := 0, locals := 0 }) (va_Pc [.ref tk, .int (zI from_)] (fun U => U.heap.size = sz ∧ va_P (dC, dI) vwCl [(tk, .inr (3, [.ref tp, .int (zI tk_size), .int (zI tk_behind), .int (zI tk_kind), .int (zI tk_at), .long (lI tk_name), .long (lI tk_number)])), (tp, .inl (cB, 3000, .inl (zF t)))] U.heap ∧ va_K (dC, dI) vwCl [(cB, .byte)] U ∧ va_D (fun _ => True) [(tk, .inr (3, [.ref tp, .int (zI tk_size), .int (zI tk_behind), .int (zI tk_kind), .int (zI tk_at), .long (lI tk_name), .long (lI tk_number)])), (tp, .inl (cB, 3000, .inl (zF t)))])) (va_Qi (fun (rr : Int32) (r : Int) => rr = zI r) (fun r t => (from_ ≤ r ∧ r ≤ tk_size) ∧ (∀ j : Int, from_ ≤ j ∧ j < r → t j = 32 ∨ t j = 10) ∧ (r < tk_size → ¬ (t r = 32 ∨ t r = 10)) ∧ va_P (dC, dI) vwCl [(tk, .inr (3, [.ref tp, .int (zI tk_size), .int (zI tk_behind), .int (zI tk_kind), .int (zI tk_at), .long (lI tk_name), .long (lI tk_number)])), (tp, .inl (cB, 3000, .inl (zF t)))] t.heap ∧ va_K (dC, dI) vwCl [(cB, .byte)] t ∧ va_D (va_A [(tk, .inr (3, [.ref tp, .int (zI tk_size), .int (zI tk_behind), .int (zI tk_kind), .int (zI tk_at), .long (lI tk_name), .long (lI tk_number)])), (tp, .inl (cB, 3000, .inl (zF t)))] sz) [(tk, .inr (3, [.ref tp, .int (zI tk_size), .int (zI tk_behind), .int (zI tk_kind), .int (zI tk_at), .long (lI tk_name), .long (lI tk_number)])), (tp, .inl (cB, 3000, .inl (zF t)))]) (va_A [(tk, .inr (3, [.ref tp, .int (zI tk_size), .int (zI tk_behind), .int (zI tk_kind), .int (zI tk_at), .long (lI tk_name), .long (lI tk_number)])), (tp, .inl (cB, 3000, .inl (zF t)))] sz)) 0 0 (va_A [(tk, .inr (3, [.ref tp, .int (zI tk_size), .int (zI tk_behind), .int (zI tk_kind), .int (zI tk_at), .long (lI tk_name), .long (lI tk_number)])), (tp, .inl (cB, 3000, .inl (zF t)))] sz) := by
  refine Met.ofW (cc := cX3_skipBlanks) (maxL := 3) (ret := (some .int)) (by decide) rfl ?_
  intro p e s m args below meth c s₁ B hml hv
  obtain ⟨rfl, hsz, hP, hK, hD0⟩ := hv
  have hx := B.exec
  have hb := B.bytes
  have hr := B.returns
  have hts := atoms_spec (ws := wyX3_skipBlanks) B.pre
  have hg : ∀ w ∈ lw_G, w.before _ s = true := fun w h => hts w (List.mem_cons_of_mem _ h)
  have hown : s.vm.findClass RX3 = some m.cls := findClass_of_methodNamed B.named
  have hlocks := B.notSynchronized
  subst hsz
  have hD := hD0.self (sz := s.heap.size)
  generalize hAe : va_A [(tk, .inr (3, [.ref tp, .int (zI tk_size), .int (zI tk_behind), .int (zI tk_kind), .int (zI tk_at), .long (lI tk_name), .long (lI tk_number)])), (tp, .inl (cB, 3000, .inl (zF t)))] s.heap.size = A at hD ⊢
  have hA : ∀ q : Nat, s.heap.size ≤ q → A q := fun q h => by rw [← hAe]; exact Or.inr h
  have hS : va_S A s.heap s.heap [] := va_S.rf
  have hP : va_P (dC, dI) vwCl [(tk, .inr (3, [.ref tp, .int (zI tk_size), .int (zI tk_behind), .int (zI tk_kind), .int (zI tk_at), .long (lI tk_name), .long (lI tk_number)])), (tp, .inl (cB, 3000, .inl (zF t)))] s.heap := hP
  have hl := lv_entry ([.ref tk, .int (zI from_)]) (n := 3) (Nat.le_of_ble_eq_true rfl)
  rw [lg_entry_eq]
  generalize (lg_sl ([.ref tk, .int (zI from_)]) ++ List.replicate (3 - (lg_sl ([.ref tk, .int (zI from_)])).length) Slot.unset).toArray = ls at hl ⊢
  have hl : lv_has ls 3 [(0, .ref tk), (1, .int (zI from_))] := hl
  refine zv_q (fun Q hQ => ?_)
  refine lv_iload_n hx hb dX3_skipBlanks_0 rfl (lv_at hl 1 rfl) ?_
  refine lv_istore_n (lv' := [(2, .int (zI from_)), (0, .ref tk), (1, .int (zI from_))]) hx hb dX3_skipBlanks_1 rfl hl (by decide) rfl (fun ls hl => ?_)
  have lp2 : ∀ (n : Nat) (i : Int), (from_ ≤ i ∧ i ≤ tk_size) → (∀ j : Int, from_ ≤ j ∧ j < i → t j = 32 ∨ t j = 10) → tk_size - i < (n : Int) → ∀ (H : Heap) (locs : List Loc), va_P (dC, dI) vwCl [(tk, .inr (3, [.ref tp, .int (zI tk_size), .int (zI tk_behind), .int (zI tk_kind), .int (zI tk_at), .long (lI tk_name), .long (lI tk_number)])), (tp, .inl (cB, 3000, .inl (zF t)))] H → va_D A [(tk, .inr (3, [.ref tp, .int (zI tk_size), .int (zI tk_behind), .int (zI tk_kind), .int (zI tk_at), .long (lI tk_name), .long (lI tk_number)])), (tp, .inl (cB, 3000, .inl (zF t)))] → va_S A s.heap H locs → ∀ (ls : Array Slot), lv_has ls 3 [(2, .int (zI i)), (0, .ref tk), (1, .int (zI from_))] → W p l e ({ frames := 0, cells := 0, slots := 0, locals := 0 } : Room) s m ([.ref tk, .int (zI from_)] : List Value).toArray below meth c H locs 0 0 Q (F0 m 2 ls []) := by
    intro n
    induction n with
    | zero => intro i hi hb_ hM; exact absurd hM (by omega)
    | succ n ih2 =>
      intro i hi hb_ hM2 H locs hP hD hS ls hl
      refine lv_iload_n hx hb dX3_skipBlanks_2 rfl (lv_at hl 0 rfl) ?_
      refine lv_aload_n hx hb dX3_skipBlanks_3 rfl (lv_at hl 1 rfl) ?_
      refine va_get (D := (dC, dI)) (ci := 3) (v := .int (zI tk_size)) (C := RX3) (T := TX3) (N := 7) hx hb hg inG_X3 hown hK hP 0 rfl rfl 1 (by decide) (hg (.fieldLink RX3 9 "AttributeDesk$Tokens" "size" "I") gw_1_161) (fun _ h9 => h9) rfl dX3_skipBlanks_4 ?_
      refine zv_icmp_ge (tgt := 38) hx hb dX3_skipBlanks_7 (by decide) (by omega) (by omega) (fun c1 => ?_) (fun c1 => ?_)
      · refine lv_iload_n hx hb dX3_skipBlanks_38 rfl (lv_at hl 0 rfl) ?_
        have hP9 := hP.sub (ws' := [(tk, .inr (3, [.ref tp, .int (zI tk_size), .int (zI tk_behind), .int (zI tk_kind), .int (zI tk_at), .long (lI tk_name), .long (lI tk_number)])), (tp, .inl (cB, 3000, .inl (zF t)))]) [0, 1] rfl
        have hD9 := hD.sub (ws' := [(tk, .inr (3, [.ref tp, .int (zI tk_size), .int (zI tk_behind), .int (zI tk_kind), .int (zI tk_at), .long (lI tk_name), .long (lI tk_number)])), (tp, .inl (cB, 3000, .inl (zF t)))]) [0, 1] (by decide) rfl
        have hK9 := hK.sub (tys' := [(cB, .byte)]) [0] rfl
        subst hQ
        exact W.iret (v := zI i) hx hb hr (fun t ht hW => ⟨⟨zI i, i, rfl, rfl, (by omega), hb_, (fun _ => by omega), by rw [ht]; exact hP9, va_K.moved hW.alike hK9, hD9⟩, hS.F ht⟩) hS.2.2 dX3_skipBlanks_39
      · refine lv_aload_n hx hb dX3_skipBlanks_10 rfl (lv_at hl 1 rfl) ?_
        refine va_get (D := (dC, dI)) (ci := 3) (v := .ref tp) (C := RX3) (T := TX3) (N := 7) hx hb hg inG_X3 hown hK hP 0 rfl rfl 0 (by decide) (hg (.fieldLink RX3 31 "AttributeDesk$Tokens" "text" "[B") gw_1_160) (fun _ h9 => h9) rfl dX3_skipBlanks_11 ?_
        refine lv_iload_n hx hb dX3_skipBlanks_14 rfl (lv_at hl 0 rfl) ?_
        refine zv_bald (D := (dC, dI)) hx hb hK hP 1 0 rfl rfl (by omega) (Nat.le_of_ble_eq_true rfl) dX3_skipBlanks_15 ?_
        refine lv_bipush (v := zI 32) hx hb dX3_skipBlanks_16 (by decide) ?_
        refine zv_icmp_eq (tgt := 32) hx hb dX3_skipBlanks_18 (by decide) (by omega) (by decide) (fun c2 => ?_) (fun c2 => ?_)
        · refine lv_iinc (v := zI (i + 1)) (lv' := [(2, .int (zI (i + 1))), (0, .ref tk), (1, .int (zI from_))]) hx hb dX3_skipBlanks_32 hl (k := 0) rfl (by rw [show Int32.ofInt (1) = zI (1) from rfl, zI_add]; exact congrArg zI (by omega)) (by decide) rfl (fun ls hl => ?_)
          refine lv_goto (tgt := 2) hx hb dX3_skipBlanks_35 (by decide) ?_
          exact ih2 (i + 1) (by omega) (fun j hj => by rcases (show j < i ∨ j = i by omega) with q | q; exact hb_ j (by omega); subst q; omega) (by omega) _ _ hP hD hS _ (lv_sub hl [0, 1, 2] rfl)
        · refine lv_aload_n hx hb dX3_skipBlanks_21 rfl (lv_at hl 1 rfl) ?_
          refine va_get (D := (dC, dI)) (ci := 3) (v := .ref tp) (C := RX3) (T := TX3) (N := 7) hx hb hg inG_X3 hown hK hP 0 rfl rfl 0 (by decide) (hg (.fieldLink RX3 31 "AttributeDesk$Tokens" "text" "[B") gw_1_160) (fun _ h9 => h9) rfl dX3_skipBlanks_22 ?_
          refine lv_iload_n hx hb dX3_skipBlanks_25 rfl (lv_at hl 0 rfl) ?_
          refine zv_bald (D := (dC, dI)) hx hb hK hP 1 0 rfl rfl (by omega) (Nat.le_of_ble_eq_true rfl) dX3_skipBlanks_26 ?_
          refine lv_bipush (v := zI 10) hx hb dX3_skipBlanks_27 (by decide) ?_
          refine zv_icmp_ne (tgt := 38) hx hb dX3_skipBlanks_29 (by decide) (by omega) (by decide) (fun c3 => ?_) (fun c3 => ?_)
          · refine lv_iload_n hx hb dX3_skipBlanks_38 rfl (lv_at hl 0 rfl) ?_
            have hP9 := hP.sub (ws' := [(tk, .inr (3, [.ref tp, .int (zI tk_size), .int (zI tk_behind), .int (zI tk_kind), .int (zI tk_at), .long (lI tk_name), .long (lI tk_number)])), (tp, .inl (cB, 3000, .inl (zF t)))]) [0, 1] rfl
            have hD9 := hD.sub (ws' := [(tk, .inr (3, [.ref tp, .int (zI tk_size), .int (zI tk_behind), .int (zI tk_kind), .int (zI tk_at), .long (lI tk_name), .long (lI tk_number)])), (tp, .inl (cB, 3000, .inl (zF t)))]) [0, 1] (by decide) rfl
            have hK9 := hK.sub (tys' := [(cB, .byte)]) [0] rfl
            subst hQ
            exact W.iret (v := zI i) hx hb hr (fun t ht hW => ⟨⟨zI i, i, rfl, rfl, (by omega), hb_, (fun _ => by omega), by rw [ht]; exact hP9, va_K.moved hW.alike hK9, hD9⟩, hS.F ht⟩) hS.2.2 dX3_skipBlanks_39
          · refine lv_iinc (v := zI (i + 1)) (lv' := [(2, .int (zI (i + 1))), (0, .ref tk), (1, .int (zI from_))]) hx hb dX3_skipBlanks_32 hl (k := 0) rfl (by rw [show Int32.ofInt (1) = zI (1) from rfl, zI_add]; exact congrArg zI (by omega)) (by decide) rfl (fun ls hl => ?_)
            refine lv_goto (tgt := 2) hx hb dX3_skipBlanks_35 (by decide) ?_
            exact ih2 (i + 1) (by omega) (fun j hj => by rcases (show j < i ∨ j = i by omega) with q | q; exact hb_ j (by omega); subst q; omega) (by omega) _ _ hP hD hS _ (lv_sub hl [0, 1, 2] rfl)
  exact lp2 ((tk_size - from_).toNat + 1) from_ (by omega) (fun j hj => by omega) (by omega) _ _ hP hD hS _ (lv_sub hl [0, 1, 2] rfl)
