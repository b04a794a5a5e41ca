set_option maxHeartbeats 4000000 in
set_option maxRecDepth 100000 in
theorem c_X3_isLetter (l : Launch) (dC : Nat → ClassId) (dI : Nat → Nat → Nat) (sz : Nat) (c_ : Int) (h0 : -2147483648 ≤ c_ ∧ c_ < 2147483648) : Met l yX3_isLetter wyX3_isLetter ({ frames := 0, cells := 0, slots := 0, locals := 0 }) (va_Pc [.int (zI c_)] (fun U => U.heap.size = sz ∧ va_P (dC, dI) vwCl [] U.heap ∧ va_K (dC, dI) vwCl [] U ∧ va_D (fun _ => True) [])) (va_Qi (fun (rr : Int32) (r : Int) => rr = zI r) (fun r t => ((r = 1 ∧ (97 ≤ c_ ∧ c_ ≤ 122 ∨ 65 ≤ c_ ∧ c_ ≤ 90)) ∨ (r = 0 ∧ ¬ (97 ≤ c_ ∧ c_ ≤ 122 ∨ 65 ≤ c_ ∧ c_ ≤ 90))) ∧ va_P (dC, dI) vwCl [] t.heap ∧ va_K (dC, dI) vwCl [] t ∧ va_D (va_A [] sz) []) (va_A [] sz)) 0 0 (va_A [] sz) := by
  refine Met.ofW (cc := cX3_isLetter) (maxL := 1) (ret := (some .boolean)) (by decide) rfl ?_
  intro p e s m args below meth c s₁ B hml hv
  obtain ⟨rfl, hsz, hP, hK, hD0⟩ := hv
  have hx := B.exec
  have hb := B.bytes
  have hr := B.returns
  have hts := atoms_spec (ws := wyX3_isLetter) B.pre
  have hg : ∀ w ∈ lw_G, w.before _ s = true := fun w h => hts w (List.mem_cons_of_mem _ h)
  have hown : s.vm.findClass RX3 = some m.cls := findClass_of_methodNamed B.named
  have hlocks := B.notSynchronized
  subst hsz
  have hD := hD0.self (sz := s.heap.size)
  generalize hAe : va_A [] s.heap.size = A at hD ⊢
  have hA : ∀ q : Nat, s.heap.size ≤ q → A q := fun q h => by rw [← hAe]; exact Or.inr h
  have hS : va_S A s.heap s.heap [] := va_S.rf
  have hP : va_P (dC, dI) vwCl [] s.heap := hP
  have hl := lv_entry ([.int (zI c_)]) (n := 1) (Nat.le_of_ble_eq_true rfl)
  rw [lg_entry_eq]
  generalize (lg_sl ([.int (zI c_)]) ++ List.replicate (1 - (lg_sl ([.int (zI c_)])).length) Slot.unset).toArray = ls at hl ⊢
  have hl : lv_has ls 1 [(0, .int (zI c_))] := hl
  refine lv_iload_n hx hb dX3_isLetter_0 rfl (lv_at hl 0 rfl) ?_
  refine lv_bipush (v := zI 97) hx hb dX3_isLetter_1 (by decide) ?_
  refine zv_icmp_lt (tgt := 12) hx hb dX3_isLetter_3 (by decide) (by omega) (by decide) (fun c1 => ?_) (fun c1 => ?_)
  · refine lv_iload_n hx hb dX3_isLetter_12 rfl (lv_at hl 0 rfl) ?_
    refine lv_bipush (v := zI 65) hx hb dX3_isLetter_13 (by decide) ?_
    refine zv_icmp_lt (tgt := 28) hx hb dX3_isLetter_15 (by decide) (by omega) (by decide) (fun c2 => ?_) (fun c2 => ?_)
    · refine lv_iconst (v := zI 0) hx hb dX3_isLetter_28 rfl ?_
      have hP9 := hP.sub (ws' := []) [] rfl
      have hD9 := hD.sub (ws' := []) [] (by decide) rfl
      have hK9 := hK.sub (tys' := []) [] rfl
      exact W.zret (v := zI 0) hx hb hr (by decide) (fun t ht hW => ⟨⟨zI 0, 0, rfl, rfl, (by omega), by rw [ht]; exact hP9, va_K.moved hW.alike hK9, hD9⟩, hS.F ht⟩) hS.2.2 dX3_isLetter_29
    · refine lv_iload_n hx hb dX3_isLetter_18 rfl (lv_at hl 0 rfl) ?_
      refine lv_bipush (v := zI 90) hx hb dX3_isLetter_19 (by decide) ?_
      refine zv_icmp_gt (tgt := 28) hx hb dX3_isLetter_21 (by decide) (by omega) (by decide) (fun c3 => ?_) (fun c3 => ?_)
      · refine lv_iconst (v := zI 0) hx hb dX3_isLetter_28 rfl ?_
        have hP9 := hP.sub (ws' := []) [] rfl
        have hD9 := hD.sub (ws' := []) [] (by decide) rfl
        have hK9 := hK.sub (tys' := []) [] rfl
        exact W.zret (v := zI 0) hx hb hr (by decide) (fun t ht hW => ⟨⟨zI 0, 0, rfl, rfl, (by omega), by rw [ht]; exact hP9, va_K.moved hW.alike hK9, hD9⟩, hS.F ht⟩) hS.2.2 dX3_isLetter_29
      · refine lv_iconst (v := zI 1) hx hb dX3_isLetter_24 rfl ?_
        refine lv_goto (tgt := 29) hx hb dX3_isLetter_25 (by decide) ?_
        have hP9 := hP.sub (ws' := []) [] rfl
        have hD9 := hD.sub (ws' := []) [] (by decide) rfl
        have hK9 := hK.sub (tys' := []) [] rfl
        exact W.zret (v := zI 1) hx hb hr (by decide) (fun t ht hW => ⟨⟨zI 1, 1, rfl, rfl, (by omega), by rw [ht]; exact hP9, va_K.moved hW.alike hK9, hD9⟩, hS.F ht⟩) hS.2.2 dX3_isLetter_29
  · refine lv_iload_n hx hb dX3_isLetter_6 rfl (lv_at hl 0 rfl) ?_
    refine lv_bipush (v := zI 122) hx hb dX3_isLetter_7 (by decide) ?_
    refine zv_icmp_le (tgt := 24) hx hb dX3_isLetter_9 (by decide) (by omega) (by decide) (fun c4 => ?_) (fun c4 => ?_)
    · refine lv_iconst (v := zI 1) hx hb dX3_isLetter_24 rfl ?_
      refine lv_goto (tgt := 29) hx hb dX3_isLetter_25 (by decide) ?_
      have hP9 := hP.sub (ws' := []) [] rfl
      have hD9 := hD.sub (ws' := []) [] (by decide) rfl
      have hK9 := hK.sub (tys' := []) [] rfl
      exact W.zret (v := zI 1) hx hb hr (by decide) (fun t ht hW => ⟨⟨zI 1, 1, rfl, rfl, (by omega), by rw [ht]; exact hP9, va_K.moved hW.alike hK9, hD9⟩, hS.F ht⟩) hS.2.2 dX3_isLetter_29
    · refine lv_iload_n hx hb dX3_isLetter_12 rfl (lv_at hl 0 rfl) ?_
      refine lv_bipush (v := zI 65) hx hb dX3_isLetter_13 (by decide) ?_
      refine zv_icmp_lt (tgt := 28) hx hb dX3_isLetter_15 (by decide) (by omega) (by decide) (fun c5 => ?_) (fun c5 => ?_)
      · refine lv_iconst (v := zI 0) hx hb dX3_isLetter_28 rfl ?_
        have hP9 := hP.sub (ws' := []) [] rfl
        have hD9 := hD.sub (ws' := []) [] (by decide) rfl
        have hK9 := hK.sub (tys' := []) [] rfl
        exact W.zret (v := zI 0) hx hb hr (by decide) (fun t ht hW => ⟨⟨zI 0, 0, rfl, rfl, (by omega), by rw [ht]; exact hP9, va_K.moved hW.alike hK9, hD9⟩, hS.F ht⟩) hS.2.2 dX3_isLetter_29
      · refine lv_iload_n hx hb dX3_isLetter_18 rfl (lv_at hl 0 rfl) ?_
        refine lv_bipush (v := zI 90) hx hb dX3_isLetter_19 (by decide) ?_
        refine zv_icmp_gt (tgt := 28) hx hb dX3_isLetter_21 (by decide) (by omega) (by decide) (fun c6 => ?_) (fun c6 => ?_)
        · refine lv_iconst (v := zI 0) hx hb dX3_isLetter_28 rfl ?_
          have hP9 := hP.sub (ws' := []) [] rfl
          have hD9 := hD.sub (ws' := []) [] (by decide) rfl
          have hK9 := hK.sub (tys' := []) [] rfl
          exact W.zret (v := zI 0) hx hb hr (by decide) (fun t ht hW => ⟨⟨zI 0, 0, rfl, rfl, (by omega), by rw [ht]; exact hP9, va_K.moved hW.alike hK9, hD9⟩, hS.F ht⟩) hS.2.2 dX3_isLetter_29
        · refine lv_iconst (v := zI 1) hx hb dX3_isLetter_24 rfl ?_
          refine lv_goto (tgt := 29) hx hb dX3_isLetter_25 (by decide) ?_
          have hP9 := hP.sub (ws' := []) [] rfl
          have hD9 := hD.sub (ws' := []) [] (by decide) rfl
          have hK9 := hK.sub (tys' := []) [] rfl
          exact W.zret (v := zI 1) hx hb hr (by decide) (fun t ht hW => ⟨⟨zI 1, 1, rfl, rfl, (by omega), by rw [ht]; exact hP9, va_K.moved hW.alike hK9, hD9⟩, hS.F ht⟩) hS.2.2 dX3_isLetter_29

set_option maxHeartbeats 4000000 in
set_option maxRecDepth 100000 in
theorem c_X3_isDigit (l : Launch) (dC : Nat → ClassId) (dI : Nat → Nat → Nat) (sz : Nat) (c_ : Int) (h0 : -2147483648 ≤ c_ ∧ c_ < 2147483648) : Met l yX3_isDigit wyX3_isDigit ({ frames := 0, cells := 0, slots := 0, locals := 0 }) (va_Pc [.int (zI c_)] (fun U => U.heap.size = sz ∧ va_P (dC, dI) vwCl [] U.heap ∧ va_K (dC, dI) vwCl [] U ∧ va_D (fun _ => True) [])) (va_Qi (fun (rr : Int32) (r : Int) => rr = zI r) (fun r t => ((r = 1 ∧ (48 ≤ c_ ∧ c_ ≤ 57)) ∨ (r = 0 ∧ ¬ (48 ≤ c_ ∧ c_ ≤ 57))) ∧ va_P (dC, dI) vwCl [] t.heap ∧ va_K (dC, dI) vwCl [] t ∧ va_D (va_A [] sz) []) (va_A [] sz)) 0 0 (va_A [] sz) := by
  refine Met.ofW (cc := cX3_isDigit) (maxL := 1) (ret := (some .boolean)) (by decide) rfl ?_
  intro p e s m args below meth c s₁ B hml hv
  obtain ⟨rfl, hsz, hP, hK, hD0⟩ := hv
  have hx := B.exec
  have hb := B.bytes
  have hr := B.returns
  have hts := atoms_spec (ws := wyX3_isDigit) B.pre
  have hg : ∀ w ∈ lw_G, w.before _ s = true := fun w h => hts w (List.mem_cons_of_mem _ h)
  have hown : s.vm.findClass RX3 = some m.cls := findClass_of_methodNamed B.named
  have hlocks := B.notSynchronized
  subst hsz
  have hD := hD0.self (sz := s.heap.size)
  generalize hAe : va_A [] s.heap.size = A at hD ⊢
  have hA : ∀ q : Nat, s.heap.size ≤ q → A q := fun q h => by rw [← hAe]; exact Or.inr h
  have hS : va_S A s.heap s.heap [] := va_S.rf
  have hP : va_P (dC, dI) vwCl [] s.heap := hP
  have hl := lv_entry ([.int (zI c_)]) (n := 1) (Nat.le_of_ble_eq_true rfl)
  rw [lg_entry_eq]
  generalize (lg_sl ([.int (zI c_)]) ++ List.replicate (1 - (lg_sl ([.int (zI c_)])).length) Slot.unset).toArray = ls at hl ⊢
  have hl : lv_has ls 1 [(0, .int (zI c_))] := hl
  refine lv_iload_n hx hb dX3_isDigit_0 rfl (lv_at hl 0 rfl) ?_
  refine lv_bipush (v := zI 48) hx hb dX3_isDigit_1 (by decide) ?_
  refine zv_icmp_lt (tgt := 16) hx hb dX3_isDigit_3 (by decide) (by omega) (by decide) (fun c1 => ?_) (fun c1 => ?_)
  · refine lv_iconst (v := zI 0) hx hb dX3_isDigit_16 rfl ?_
    have hP9 := hP.sub (ws' := []) [] rfl
    have hD9 := hD.sub (ws' := []) [] (by decide) rfl
    have hK9 := hK.sub (tys' := []) [] rfl
    exact W.zret (v := zI 0) hx hb hr (by decide) (fun t ht hW => ⟨⟨zI 0, 0, rfl, rfl, (by omega), by rw [ht]; exact hP9, va_K.moved hW.alike hK9, hD9⟩, hS.F ht⟩) hS.2.2 dX3_isDigit_17
  · refine lv_iload_n hx hb dX3_isDigit_6 rfl (lv_at hl 0 rfl) ?_
    refine lv_bipush (v := zI 57) hx hb dX3_isDigit_7 (by decide) ?_
    refine zv_icmp_gt (tgt := 16) hx hb dX3_isDigit_9 (by decide) (by omega) (by decide) (fun c2 => ?_) (fun c2 => ?_)
    · refine lv_iconst (v := zI 0) hx hb dX3_isDigit_16 rfl ?_
      have hP9 := hP.sub (ws' := []) [] rfl
      have hD9 := hD.sub (ws' := []) [] (by decide) rfl
      have hK9 := hK.sub (tys' := []) [] rfl
      exact W.zret (v := zI 0) hx hb hr (by decide) (fun t ht hW => ⟨⟨zI 0, 0, rfl, rfl, (by omega), by rw [ht]; exact hP9, va_K.moved hW.alike hK9, hD9⟩, hS.F ht⟩) hS.2.2 dX3_isDigit_17
    · refine lv_iconst (v := zI 1) hx hb dX3_isDigit_12 rfl ?_
      refine lv_goto (tgt := 17) hx hb dX3_isDigit_13 (by decide) ?_
      have hP9 := hP.sub (ws' := []) [] rfl
      have hD9 := hD.sub (ws' := []) [] (by decide) rfl
      have hK9 := hK.sub (tys' := []) [] rfl
      exact W.zret (v := zI 1) hx hb hr (by decide) (fun t ht hW => ⟨⟨zI 1, 1, rfl, rfl, (by omega), by rw [ht]; exact hP9, va_K.moved hW.alike hK9, hD9⟩, hS.F ht⟩) hS.2.2 dX3_isDigit_17

set_option maxHeartbeats 4000000 in
set_option maxRecDepth 100000 in
theorem c_X3_isSign (l : Launch) (dC : Nat → ClassId) (dI : Nat → Nat → Nat) (sz : Nat) (c_ : Int) (h0 : -2147483648 ≤ c_ ∧ c_ < 2147483648) : Met l yX3_isSign wyX3_isSign ({ frames := 0, cells := 0, slots := 0, locals := 0 }) (va_Pc [.int (zI c_)] (fun U => U.heap.size = sz ∧ va_P (dC, dI) vwCl [] U.heap ∧ va_K (dC, dI) vwCl [] U ∧ va_D (fun _ => True) [])) (va_Qi (fun (rr : Int32) (r : Int) => rr = zI r) (fun r t => ((r = 1 ∧ (c_ = 37 ∨ c_ = 40 ∨ c_ = 41 ∨ c_ = 42 ∨ c_ = 43 ∨ c_ = 45 ∨ c_ = 46 ∨ c_ = 47 ∨ c_ = 58 ∨ c_ = 59 ∨ c_ = 60 ∨ c_ = 61)) ∨ (r = 0 ∧ ¬ (c_ = 37 ∨ c_ = 40 ∨ c_ = 41 ∨ c_ = 42 ∨ c_ = 43 ∨ c_ = 45 ∨ c_ = 46 ∨ c_ = 47 ∨ c_ = 58 ∨ c_ = 59 ∨ c_ = 60 ∨ c_ = 61))) ∧ va_P (dC, dI) vwCl [] t.heap ∧ va_K (dC, dI) vwCl [] t ∧ va_D (va_A [] sz) []) (va_A [] sz)) 0 0 (va_A [] sz) := by
  refine Met.ofW (cc := cX3_isSign) (maxL := 1) (ret := (some .boolean)) (by decide) rfl ?_
  intro p e s m args below meth c s₁ B hml hv
  obtain ⟨rfl, hsz, hP, hK, hD0⟩ := hv
  have hx := B.exec
  have hb := B.bytes
  have hr := B.returns
  have hts := atoms_spec (ws := wyX3_isSign) B.pre
  have hg : ∀ w ∈ lw_G, w.before _ s = true := fun w h => hts w (List.mem_cons_of_mem _ h)
  have hown : s.vm.findClass RX3 = some m.cls := findClass_of_methodNamed B.named
  have hlocks := B.notSynchronized
  subst hsz
  have hD := hD0.self (sz := s.heap.size)
  generalize hAe : va_A [] s.heap.size = A at hD ⊢
  have hA : ∀ q : Nat, s.heap.size ≤ q → A q := fun q h => by rw [← hAe]; exact Or.inr h
  have hS : va_S A s.heap s.heap [] := va_S.rf
  have hP : va_P (dC, dI) vwCl [] s.heap := hP
  have hl := lv_entry ([.int (zI c_)]) (n := 1) (Nat.le_of_ble_eq_true rfl)
  rw [lg_entry_eq]
  generalize (lg_sl ([.int (zI c_)]) ++ List.replicate (1 - (lg_sl ([.int (zI c_)])).length) Slot.unset).toArray = ls at hl ⊢
  have hl : lv_has ls 1 [(0, .int (zI c_))] := hl
  refine lv_iload_n hx hb dX3_isSign_0 rfl (lv_at hl 0 rfl) ?_
  by_cases s1 : c_ = 37
  · refine zv_tableIn (k0 := 37) (off := 115) (tgt := 116) hx hb dX3_isSign_1 s1 (by decide) (by decide) (by decide) (by decide) (by decide) ?_
    refine lv_iconst (v := zI 1) hx hb dX3_isSign_116 rfl ?_
    have hP9 := hP.sub (ws' := []) [] rfl
    have hD9 := hD.sub (ws' := []) [] (by decide) rfl
    have hK9 := hK.sub (tys' := []) [] rfl
    exact W.zret (v := zI 1) hx hb hr (by decide) (fun t ht hW => ⟨⟨zI 1, 1, rfl, rfl, (by omega), by rw [ht]; exact hP9, va_K.moved hW.alike hK9, hD9⟩, hS.F ht⟩) hS.2.2 dX3_isSign_117
  by_cases s2 : c_ = 38
  · refine zv_tableIn (k0 := 38) (off := 117) (tgt := 118) hx hb dX3_isSign_1 s2 (by decide) (by decide) (by decide) (by decide) (by decide) ?_
    refine lv_iconst (v := zI 0) hx hb dX3_isSign_118 rfl ?_
    have hP9 := hP.sub (ws' := []) [] rfl
    have hD9 := hD.sub (ws' := []) [] (by decide) rfl
    have hK9 := hK.sub (tys' := []) [] rfl
    exact W.zret (v := zI 0) hx hb hr (by decide) (fun t ht hW => ⟨⟨zI 0, 0, rfl, rfl, (by omega), by rw [ht]; exact hP9, va_K.moved hW.alike hK9, hD9⟩, hS.F ht⟩) hS.2.2 dX3_isSign_119
  by_cases s3 : c_ = 39
  · refine zv_tableIn (k0 := 39) (off := 117) (tgt := 118) hx hb dX3_isSign_1 s3 (by decide) (by decide) (by decide) (by decide) (by decide) ?_
    refine lv_iconst (v := zI 0) hx hb dX3_isSign_118 rfl ?_
    have hP9 := hP.sub (ws' := []) [] rfl
    have hD9 := hD.sub (ws' := []) [] (by decide) rfl
    have hK9 := hK.sub (tys' := []) [] rfl
    exact W.zret (v := zI 0) hx hb hr (by decide) (fun t ht hW => ⟨⟨zI 0, 0, rfl, rfl, (by omega), by rw [ht]; exact hP9, va_K.moved hW.alike hK9, hD9⟩, hS.F ht⟩) hS.2.2 dX3_isSign_119
  by_cases s4 : c_ = 40
  · refine zv_tableIn (k0 := 40) (off := 115) (tgt := 116) hx hb dX3_isSign_1 s4 (by decide) (by decide) (by decide) (by decide) (by decide) ?_
    refine lv_iconst (v := zI 1) hx hb dX3_isSign_116 rfl ?_
    have hP9 := hP.sub (ws' := []) [] rfl
    have hD9 := hD.sub (ws' := []) [] (by decide) rfl
    have hK9 := hK.sub (tys' := []) [] rfl
    exact W.zret (v := zI 1) hx hb hr (by decide) (fun t ht hW => ⟨⟨zI 1, 1, rfl, rfl, (by omega), by rw [ht]; exact hP9, va_K.moved hW.alike hK9, hD9⟩, hS.F ht⟩) hS.2.2 dX3_isSign_117
  by_cases s5 : c_ = 41
  · refine zv_tableIn (k0 := 41) (off := 115) (tgt := 116) hx hb dX3_isSign_1 s5 (by decide) (by decide) (by decide) (by decide) (by decide) ?_
    refine lv_iconst (v := zI 1) hx hb dX3_isSign_116 rfl ?_
    have hP9 := hP.sub (ws' := []) [] rfl
    have hD9 := hD.sub (ws' := []) [] (by decide) rfl
    have hK9 := hK.sub (tys' := []) [] rfl
    exact W.zret (v := zI 1) hx hb hr (by decide) (fun t ht hW => ⟨⟨zI 1, 1, rfl, rfl, (by omega), by rw [ht]; exact hP9, va_K.moved hW.alike hK9, hD9⟩, hS.F ht⟩) hS.2.2 dX3_isSign_117
  by_cases s6 : c_ = 42
  · refine zv_tableIn (k0 := 42) (off := 115) (tgt := 116) hx hb dX3_isSign_1 s6 (by decide) (by decide) (by decide) (by decide) (by decide) ?_
    refine lv_iconst (v := zI 1) hx hb dX3_isSign_116 rfl ?_
    have hP9 := hP.sub (ws' := []) [] rfl
    have hD9 := hD.sub (ws' := []) [] (by decide) rfl
    have hK9 := hK.sub (tys' := []) [] rfl
    exact W.zret (v := zI 1) hx hb hr (by decide) (fun t ht hW => ⟨⟨zI 1, 1, rfl, rfl, (by omega), by rw [ht]; exact hP9, va_K.moved hW.alike hK9, hD9⟩, hS.F ht⟩) hS.2.2 dX3_isSign_117
  by_cases s7 : c_ = 43
  · refine zv_tableIn (k0 := 43) (off := 115) (tgt := 116) hx hb dX3_isSign_1 s7 (by decide) (by decide) (by decide) (by decide) (by decide) ?_
    refine lv_iconst (v := zI 1) hx hb dX3_isSign_116 rfl ?_
    have hP9 := hP.sub (ws' := []) [] rfl
    have hD9 := hD.sub (ws' := []) [] (by decide) rfl
    have hK9 := hK.sub (tys' := []) [] rfl
    exact W.zret (v := zI 1) hx hb hr (by decide) (fun t ht hW => ⟨⟨zI 1, 1, rfl, rfl, (by omega), by rw [ht]; exact hP9, va_K.moved hW.alike hK9, hD9⟩, hS.F ht⟩) hS.2.2 dX3_isSign_117
  by_cases s8 : c_ = 44
  · refine zv_tableIn (k0 := 44) (off := 117) (tgt := 118) hx hb dX3_isSign_1 s8 (by decide) (by decide) (by decide) (by decide) (by decide) ?_
    refine lv_iconst (v := zI 0) hx hb dX3_isSign_118 rfl ?_
    have hP9 := hP.sub (ws' := []) [] rfl
    have hD9 := hD.sub (ws' := []) [] (by decide) rfl
    have hK9 := hK.sub (tys' := []) [] rfl
    exact W.zret (v := zI 0) hx hb hr (by decide) (fun t ht hW => ⟨⟨zI 0, 0, rfl, rfl, (by omega), by rw [ht]; exact hP9, va_K.moved hW.alike hK9, hD9⟩, hS.F ht⟩) hS.2.2 dX3_isSign_119
  by_cases s9 : c_ = 45
  · refine zv_tableIn (k0 := 45) (off := 115) (tgt := 116) hx hb dX3_isSign_1 s9 (by decide) (by decide) (by decide) (by decide) (by decide) ?_
    refine lv_iconst (v := zI 1) hx hb dX3_isSign_116 rfl ?_
    have hP9 := hP.sub (ws' := []) [] rfl
    have hD9 := hD.sub (ws' := []) [] (by decide) rfl
    have hK9 := hK.sub (tys' := []) [] rfl
    exact W.zret (v := zI 1) hx hb hr (by decide) (fun t ht hW => ⟨⟨zI 1, 1, rfl, rfl, (by omega), by rw [ht]; exact hP9, va_K.moved hW.alike hK9, hD9⟩, hS.F ht⟩) hS.2.2 dX3_isSign_117
  by_cases s10 : c_ = 46
  · refine zv_tableIn (k0 := 46) (off := 115) (tgt := 116) hx hb dX3_isSign_1 s10 (by decide) (by decide) (by decide) (by decide) (by decide) ?_
    refine lv_iconst (v := zI 1) hx hb dX3_isSign_116 rfl ?_
    have hP9 := hP.sub (ws' := []) [] rfl
    have hD9 := hD.sub (ws' := []) [] (by decide) rfl
    have hK9 := hK.sub (tys' := []) [] rfl
    exact W.zret (v := zI 1) hx hb hr (by decide) (fun t ht hW => ⟨⟨zI 1, 1, rfl, rfl, (by omega), by rw [ht]; exact hP9, va_K.moved hW.alike hK9, hD9⟩, hS.F ht⟩) hS.2.2 dX3_isSign_117
  by_cases s11 : c_ = 47
  · refine zv_tableIn (k0 := 47) (off := 115) (tgt := 116) hx hb dX3_isSign_1 s11 (by decide) (by decide) (by decide) (by decide) (by decide) ?_
    refine lv_iconst (v := zI 1) hx hb dX3_isSign_116 rfl ?_
    have hP9 := hP.sub (ws' := []) [] rfl
    have hD9 := hD.sub (ws' := []) [] (by decide) rfl
    have hK9 := hK.sub (tys' := []) [] rfl
    exact W.zret (v := zI 1) hx hb hr (by decide) (fun t ht hW => ⟨⟨zI 1, 1, rfl, rfl, (by omega), by rw [ht]; exact hP9, va_K.moved hW.alike hK9, hD9⟩, hS.F ht⟩) hS.2.2 dX3_isSign_117
  by_cases s12 : c_ = 48
  · refine zv_tableIn (k0 := 48) (off := 117) (tgt := 118) hx hb dX3_isSign_1 s12 (by decide) (by decide) (by decide) (by decide) (by decide) ?_
    refine lv_iconst (v := zI 0) hx hb dX3_isSign_118 rfl ?_
    have hP9 := hP.sub (ws' := []) [] rfl
    have hD9 := hD.sub (ws' := []) [] (by decide) rfl
    have hK9 := hK.sub (tys' := []) [] rfl
    exact W.zret (v := zI 0) hx hb hr (by decide) (fun t ht hW => ⟨⟨zI 0, 0, rfl, rfl, (by omega), by rw [ht]; exact hP9, va_K.moved hW.alike hK9, hD9⟩, hS.F ht⟩) hS.2.2 dX3_isSign_119
  by_cases s13 : c_ = 49
  · refine zv_tableIn (k0 := 49) (off := 117) (tgt := 118) hx hb dX3_isSign_1 s13 (by decide) (by decide) (by decide) (by decide) (by decide) ?_
    refine lv_iconst (v := zI 0) hx hb dX3_isSign_118 rfl ?_
    have hP9 := hP.sub (ws' := []) [] rfl
    have hD9 := hD.sub (ws' := []) [] (by decide) rfl
    have hK9 := hK.sub (tys' := []) [] rfl
    exact W.zret (v := zI 0) hx hb hr (by decide) (fun t ht hW => ⟨⟨zI 0, 0, rfl, rfl, (by omega), by rw [ht]; exact hP9, va_K.moved hW.alike hK9, hD9⟩, hS.F ht⟩) hS.2.2 dX3_isSign_119
  by_cases s14 : c_ = 50
  · refine zv_tableIn (k0 := 50) (off := 117) (tgt := 118) hx hb dX3_isSign_1 s14 (by decide) (by decide) (by decide) (by decide) (by decide) ?_
    refine lv_iconst (v := zI 0) hx hb dX3_isSign_118 rfl ?_
    have hP9 := hP.sub (ws' := []) [] rfl
    have hD9 := hD.sub (ws' := []) [] (by decide) rfl
    have hK9 := hK.sub (tys' := []) [] rfl
    exact W.zret (v := zI 0) hx hb hr (by decide) (fun t ht hW => ⟨⟨zI 0, 0, rfl, rfl, (by omega), by rw [ht]; exact hP9, va_K.moved hW.alike hK9, hD9⟩, hS.F ht⟩) hS.2.2 dX3_isSign_119
  by_cases s15 : c_ = 51
  · refine zv_tableIn (k0 := 51) (off := 117) (tgt := 118) hx hb dX3_isSign_1 s15 (by decide) (by decide) (by decide) (by decide) (by decide) ?_
    refine lv_iconst (v := zI 0) hx hb dX3_isSign_118 rfl ?_
    have hP9 := hP.sub (ws' := []) [] rfl
    have hD9 := hD.sub (ws' := []) [] (by decide) rfl
    have hK9 := hK.sub (tys' := []) [] rfl
    exact W.zret (v := zI 0) hx hb hr (by decide) (fun t ht hW => ⟨⟨zI 0, 0, rfl, rfl, (by omega), by rw [ht]; exact hP9, va_K.moved hW.alike hK9, hD9⟩, hS.F ht⟩) hS.2.2 dX3_isSign_119
  by_cases s16 : c_ = 52
  · refine zv_tableIn (k0 := 52) (off := 117) (tgt := 118) hx hb dX3_isSign_1 s16 (by decide) (by decide) (by decide) (by decide) (by decide) ?_
    refine lv_iconst (v := zI 0) hx hb dX3_isSign_118 rfl ?_
    have hP9 := hP.sub (ws' := []) [] rfl
    have hD9 := hD.sub (ws' := []) [] (by decide) rfl
    have hK9 := hK.sub (tys' := []) [] rfl
    exact W.zret (v := zI 0) hx hb hr (by decide) (fun t ht hW => ⟨⟨zI 0, 0, rfl, rfl, (by omega), by rw [ht]; exact hP9, va_K.moved hW.alike hK9, hD9⟩, hS.F ht⟩) hS.2.2 dX3_isSign_119
  by_cases s17 : c_ = 53
  · refine zv_tableIn (k0 := 53) (off := 117) (tgt := 118) hx hb dX3_isSign_1 s17 (by decide) (by decide) (by decide) (by decide) (by decide) ?_
    refine lv_iconst (v := zI 0) hx hb dX3_isSign_118 rfl ?_
    have hP9 := hP.sub (ws' := []) [] rfl
    have hD9 := hD.sub (ws' := []) [] (by decide) rfl
    have hK9 := hK.sub (tys' := []) [] rfl
    exact W.zret (v := zI 0) hx hb hr (by decide) (fun t ht hW => ⟨⟨zI 0, 0, rfl, rfl, (by omega), by rw [ht]; exact hP9, va_K.moved hW.alike hK9, hD9⟩, hS.F ht⟩) hS.2.2 dX3_isSign_119
  by_cases s18 : c_ = 54
  · refine zv_tableIn (k0 := 54) (off := 117) (tgt := 118) hx hb dX3_isSign_1 s18 (by decide) (by decide) (by decide) (by decide) (by decide) ?_
    refine lv_iconst (v := zI 0) hx hb dX3_isSign_118 rfl ?_
    have hP9 := hP.sub (ws' := []) [] rfl
    have hD9 := hD.sub (ws' := []) [] (by decide) rfl
    have hK9 := hK.sub (tys' := []) [] rfl
    exact W.zret (v := zI 0) hx hb hr (by decide) (fun t ht hW => ⟨⟨zI 0, 0, rfl, rfl, (by omega), by rw [ht]; exact hP9, va_K.moved hW.alike hK9, hD9⟩, hS.F ht⟩) hS.2.2 dX3_isSign_119
  by_cases s19 : c_ = 55
  · refine zv_tableIn (k0 := 55) (off := 117) (tgt := 118) hx hb dX3_isSign_1 s19 (by decide) (by decide) (by decide) (by decide) (by decide) ?_
    refine lv_iconst (v := zI 0) hx hb dX3_isSign_118 rfl ?_
    have hP9 := hP.sub (ws' := []) [] rfl
    have hD9 := hD.sub (ws' := []) [] (by decide) rfl
    have hK9 := hK.sub (tys' := []) [] rfl
    exact W.zret (v := zI 0) hx hb hr (by decide) (fun t ht hW => ⟨⟨zI 0, 0, rfl, rfl, (by omega), by rw [ht]; exact hP9, va_K.moved hW.alike hK9, hD9⟩, hS.F ht⟩) hS.2.2 dX3_isSign_119
  by_cases s20 : c_ = 56
  · refine zv_tableIn (k0 := 56) (off := 117) (tgt := 118) hx hb dX3_isSign_1 s20 (by decide) (by decide) (by decide) (by decide) (by decide) ?_
    refine lv_iconst (v := zI 0) hx hb dX3_isSign_118 rfl ?_
    have hP9 := hP.sub (ws' := []) [] rfl
    have hD9 := hD.sub (ws' := []) [] (by decide) rfl
    have hK9 := hK.sub (tys' := []) [] rfl
    exact W.zret (v := zI 0) hx hb hr (by decide) (fun t ht hW => ⟨⟨zI 0, 0, rfl, rfl, (by omega), by rw [ht]; exact hP9, va_K.moved hW.alike hK9, hD9⟩, hS.F ht⟩) hS.2.2 dX3_isSign_119
  by_cases s21 : c_ = 57
  · refine zv_tableIn (k0 := 57) (off := 117) (tgt := 118) hx hb dX3_isSign_1 s21 (by decide) (by decide) (by decide) (by decide) (by decide) ?_
    refine lv_iconst (v := zI 0) hx hb dX3_isSign_118 rfl ?_
    have hP9 := hP.sub (ws' := []) [] rfl
    have hD9 := hD.sub (ws' := []) [] (by decide) rfl
    have hK9 := hK.sub (tys' := []) [] rfl
    exact W.zret (v := zI 0) hx hb hr (by decide) (fun t ht hW => ⟨⟨zI 0, 0, rfl, rfl, (by omega), by rw [ht]; exact hP9, va_K.moved hW.alike hK9, hD9⟩, hS.F ht⟩) hS.2.2 dX3_isSign_119
  by_cases s22 : c_ = 58
  · refine zv_tableIn (k0 := 58) (off := 115) (tgt := 116) hx hb dX3_isSign_1 s22 (by decide) (by decide) (by decide) (by decide) (by decide) ?_
    refine lv_iconst (v := zI 1) hx hb dX3_isSign_116 rfl ?_
    have hP9 := hP.sub (ws' := []) [] rfl
    have hD9 := hD.sub (ws' := []) [] (by decide) rfl
    have hK9 := hK.sub (tys' := []) [] rfl
    exact W.zret (v := zI 1) hx hb hr (by decide) (fun t ht hW => ⟨⟨zI 1, 1, rfl, rfl, (by omega), by rw [ht]; exact hP9, va_K.moved hW.alike hK9, hD9⟩, hS.F ht⟩) hS.2.2 dX3_isSign_117
  by_cases s23 : c_ = 59
  · refine zv_tableIn (k0 := 59) (off := 115) (tgt := 116) hx hb dX3_isSign_1 s23 (by decide) (by decide) (by decide) (by decide) (by decide) ?_
    refine lv_iconst (v := zI 1) hx hb dX3_isSign_116 rfl ?_
    have hP9 := hP.sub (ws' := []) [] rfl
    have hD9 := hD.sub (ws' := []) [] (by decide) rfl
    have hK9 := hK.sub (tys' := []) [] rfl
    exact W.zret (v := zI 1) hx hb hr (by decide) (fun t ht hW => ⟨⟨zI 1, 1, rfl, rfl, (by omega), by rw [ht]; exact hP9, va_K.moved hW.alike hK9, hD9⟩, hS.F ht⟩) hS.2.2 dX3_isSign_117
  by_cases s24 : c_ = 60
  · refine zv_tableIn (k0 := 60) (off := 115) (tgt := 116) hx hb dX3_isSign_1 s24 (by decide) (by decide) (by decide) (by decide) (by decide) ?_
    refine lv_iconst (v := zI 1) hx hb dX3_isSign_116 rfl ?_
    have hP9 := hP.sub (ws' := []) [] rfl
    have hD9 := hD.sub (ws' := []) [] (by decide) rfl
    have hK9 := hK.sub (tys' := []) [] rfl
    exact W.zret (v := zI 1) hx hb hr (by decide) (fun t ht hW => ⟨⟨zI 1, 1, rfl, rfl, (by omega), by rw [ht]; exact hP9, va_K.moved hW.alike hK9, hD9⟩, hS.F ht⟩) hS.2.2 dX3_isSign_117
  by_cases s25 : c_ = 61
  · refine zv_tableIn (k0 := 61) (off := 115) (tgt := 116) hx hb dX3_isSign_1 s25 (by decide) (by decide) (by decide) (by decide) (by decide) ?_
    refine lv_iconst (v := zI 1) hx hb dX3_isSign_116 rfl ?_
    have hP9 := hP.sub (ws' := []) [] rfl
    have hD9 := hD.sub (ws' := []) [] (by decide) rfl
    have hK9 := hK.sub (tys' := []) [] rfl
    exact W.zret (v := zI 1) hx hb hr (by decide) (fun t ht hW => ⟨⟨zI 1, 1, rfl, rfl, (by omega), by rw [ht]; exact hP9, va_K.moved hW.alike hK9, hD9⟩, hS.F ht⟩) hS.2.2 dX3_isSign_117
  refine zv_tableOut (tgt := 118) hx hb dX3_isSign_1 (by omega) (by omega) (by decide) ?_
  refine lv_iconst (v := zI 0) hx hb dX3_isSign_118 rfl ?_
  have hP9 := hP.sub (ws' := []) [] rfl
  have hD9 := hD.sub (ws' := []) [] (by decide) rfl
  have hK9 := hK.sub (tys' := []) [] rfl
  exact W.zret (v := zI 0) hx hb hr (by decide) (fun t ht hW => ⟨⟨zI 0, 0, rfl, rfl, (by omega), by rw [ht]; exact hP9, va_K.moved hW.alike hK9, hD9⟩, hS.F ht⟩) hS.2.2 dX3_isSign_119

set_option maxHeartbeats 4000000 in
set_option maxRecDepth 100000 in
theorem c_X3_keywordOrName (l : Launch) (dC : Nat → ClassId) (dI : Nat → Nat → Nat) (sz : Nat) (c_ : Int) (h0 : -2147483648 ≤ c_ ∧ c_ < 2147483648) : Met l yX3_keywordOrName wyX3_keywordOrName ({ frames := 0, cells := 0, slots := 0, locals := 0 }) (va_Pc [.int (zI c_)] (fun U => U.heap.size = sz ∧ va_P (dC, dI) vwCl [] U.heap ∧ va_K (dC, dI) vwCl [] U ∧ va_D (fun _ => True) [])) (va_Qi (fun (rr : Int32) (_ : Unit) => rr = zI (kKw c_)) (fun _ t => va_P (dC, dI) vwCl [] t.heap ∧ va_K (dC, dI) vwCl [] t ∧ va_D (va_A [] sz) []) (va_A [] sz)) 0 0 (va_A [] sz) := by
  refine Met.ofW (cc := cX3_keywordOrName) (maxL := 1) (ret := (some .int)) (by decide) rfl ?_
  intro p e s m args below meth c s₁ B hml hv
  obtain ⟨rfl, hsz, hP, hK, hD0⟩ := hv
  have hx := B.exec
  have hb := B.bytes
  have hr := B.returns
  have hts := atoms_spec (ws := wyX3_keywordOrName) B.pre
  have hg : ∀ w ∈ lw_G, w.before _ s = true := fun w h => hts w (List.mem_cons_of_mem _ h)
  have hown : s.vm.findClass RX3 = some m.cls := findClass_of_methodNamed B.named
  have hlocks := B.notSynchronized
  subst hsz
  have hD := hD0.self (sz := s.heap.size)
  generalize hAe : va_A [] s.heap.size = A at hD ⊢
  have hA : ∀ q : Nat, s.heap.size ≤ q → A q := fun q h => by rw [← hAe]; exact Or.inr h
  have hS : va_S A s.heap s.heap [] := va_S.rf
  have hP : va_P (dC, dI) vwCl [] s.heap := hP
  have hl := lv_entry ([.int (zI c_)]) (n := 1) (Nat.le_of_ble_eq_true rfl)
  rw [lg_entry_eq]
  generalize (lg_sl ([.int (zI c_)]) ++ List.replicate (1 - (lg_sl ([.int (zI c_)])).length) Slot.unset).toArray = ls at hl ⊢
  have hl : lv_has ls 1 [(0, .int (zI c_))] := hl
  refine lv_iload_n hx hb dX3_keywordOrName_0 rfl (lv_at hl 0 rfl) ?_
  by_cases s1 : c_ = 26982
  · refine zv_lookup (off := 98) (tgt := 99) hx hb dX3_keywordOrName_1 (by decide) (by omega) (by rw [s1]; decide) (by decide) ?_
    refine lv_bipush (v := zI 9) hx hb dX3_keywordOrName_99 (by decide) ?_
    have hP9 := hP.sub (ws' := []) [] rfl
    have hD9 := hD.sub (ws' := []) [] (by decide) rfl
    have hK9 := hK.sub (tys' := []) [] rfl
    exact W.iret (v := zI 9) hx hb hr (fun t ht hW => ⟨⟨zI 9, (), rfl, congrArg zI (by rw [s1]; decide), by rw [ht]; exact hP9, va_K.moved hW.alike hK9, hD9⟩, hS.F ht⟩) hS.2.2 dX3_keywordOrName_101
  by_cases s2 : c_ = 6647396
  · refine zv_lookup (off := 92) (tgt := 93) hx hb dX3_keywordOrName_1 (by decide) (by omega) (by rw [s2]; decide) (by decide) ?_
    refine lv_bipush (v := zI 7) hx hb dX3_keywordOrName_93 (by decide) ?_
    have hP9 := hP.sub (ws' := []) [] rfl
    have hD9 := hD.sub (ws' := []) [] (by decide) rfl
    have hK9 := hK.sub (tys' := []) [] rfl
    exact W.iret (v := zI 7) hx hb hr (fun t ht hW => ⟨⟨zI 7, (), rfl, congrArg zI (by rw [s2]; decide), by rw [ht]; exact hP9, va_K.moved hW.alike hK9, hD9⟩, hS.F ht⟩) hS.2.2 dX3_keywordOrName_95
  by_cases s3 : c_ = 6909544
  · refine zv_lookup (off := 85) (tgt := 86) hx hb dX3_keywordOrName_1 (by decide) (by omega) (by rw [s3]; decide) (by decide) ?_
    refine lv_iconst (v := zI 4) hx hb dX3_keywordOrName_86 rfl ?_
    have hP9 := hP.sub (ws' := []) [] rfl
    have hD9 := hD.sub (ws' := []) [] (by decide) rfl
    have hK9 := hK.sub (tys' := []) [] rfl
    exact W.iret (v := zI 4) hx hb hr (fun t ht hW => ⟨⟨zI 4, (), rfl, congrArg zI (by rw [s3]; decide), by rw [ht]; exact hP9, va_K.moved hW.alike hK9, hD9⟩, hS.F ht⟩) hS.2.2 dX3_keywordOrName_87
  by_cases s4 : c_ = 7305070
  · refine zv_lookup (off := 95) (tgt := 96) hx hb dX3_keywordOrName_1 (by decide) (by omega) (by rw [s4]; decide) (by decide) ?_
    refine lv_bipush (v := zI 8) hx hb dX3_keywordOrName_96 (by decide) ?_
    have hP9 := hP.sub (ws' := []) [] rfl
    have hD9 := hD.sub (ws' := []) [] (by decide) rfl
    have hK9 := hK.sub (tys' := []) [] rfl
    exact W.iret (v := zI 8) hx hb hr (fun t ht hW => ⟨⟨zI 8, (), rfl, congrArg zI (by rw [s4]; decide), by rw [ht]; exact hP9, va_K.moved hW.alike hK9, hD9⟩, hS.F ht⟩) hS.2.2 dX3_keywordOrName_98
  by_cases s5 : c_ = 7567725
  · refine zv_lookup (off := 83) (tgt := 84) hx hb dX3_keywordOrName_1 (by decide) (by omega) (by rw [s5]; decide) (by decide) ?_
    refine lv_iconst (v := zI 3) hx hb dX3_keywordOrName_84 rfl ?_
    have hP9 := hP.sub (ws' := []) [] rfl
    have hD9 := hD.sub (ws' := []) [] (by decide) rfl
    have hK9 := hK.sub (tys' := []) [] rfl
    exact W.iret (v := zI 3) hx hb hr (fun t ht hW => ⟨⟨zI 3, (), rfl, congrArg zI (by rw [s5]; decide), by rw [ht]; exact hP9, va_K.moved hW.alike hK9, hD9⟩, hS.F ht⟩) hS.2.2 dX3_keywordOrName_85
  by_cases s6 : c_ = 7567726
  · refine zv_lookup (off := 87) (tgt := 88) hx hb dX3_keywordOrName_1 (by decide) (by omega) (by rw [s6]; decide) (by decide) ?_
    refine lv_iconst (v := zI 5) hx hb dX3_keywordOrName_88 rfl ?_
    have hP9 := hP.sub (ws' := []) [] rfl
    have hD9 := hD.sub (ws' := []) [] (by decide) rfl
    have hK9 := hK.sub (tys' := []) [] rfl
    exact W.iret (v := zI 5) hx hb hr (fun t ht hW => ⟨⟨zI 5, (), rfl, congrArg zI (by rw [s6]; decide), by rw [ht]; exact hP9, va_K.moved hW.alike hK9, hD9⟩, hS.F ht⟩) hS.2.2 dX3_keywordOrName_89
  by_cases s7 : c_ = 1701606245
  · refine zv_lookup (off := 104) (tgt := 105) hx hb dX3_keywordOrName_1 (by decide) (by omega) (by rw [s7]; decide) (by decide) ?_
    refine lv_bipush (v := zI 11) hx hb dX3_keywordOrName_105 (by decide) ?_
    have hP9 := hP.sub (ws' := []) [] rfl
    have hD9 := hD.sub (ws' := []) [] (by decide) rfl
    have hK9 := hK.sub (tys' := []) [] rfl
    exact W.iret (v := zI 11) hx hb hr (fun t ht hW => ⟨⟨zI 11, (), rfl, congrArg zI (by rw [s7]; decide), by rw [ht]; exact hP9, va_K.moved hW.alike hK9, hD9⟩, hS.F ht⟩) hS.2.2 dX3_keywordOrName_107
  by_cases s8 : c_ = 1920298085
  · refine zv_lookup (off := 89) (tgt := 90) hx hb dX3_keywordOrName_1 (by decide) (by omega) (by rw [s8]; decide) (by decide) ?_
    refine lv_bipush (v := zI 6) hx hb dX3_keywordOrName_90 (by decide) ?_
    have hP9 := hP.sub (ws' := []) [] rfl
    have hD9 := hD.sub (ws' := []) [] (by decide) rfl
    have hK9 := hK.sub (tys' := []) [] rfl
    exact W.iret (v := zI 6) hx hb hr (fun t ht hW => ⟨⟨zI 6, (), rfl, congrArg zI (by rw [s8]; decide), by rw [ht]; exact hP9, va_K.moved hW.alike hK9, hD9⟩, hS.F ht⟩) hS.2.2 dX3_keywordOrName_92
  by_cases s9 : c_ = 1952998766
  · refine zv_lookup (off := 101) (tgt := 102) hx hb dX3_keywordOrName_1 (by decide) (by omega) (by rw [s9]; decide) (by decide) ?_
    refine lv_bipush (v := zI 10) hx hb dX3_keywordOrName_102 (by decide) ?_
    have hP9 := hP.sub (ws' := []) [] rfl
    have hD9 := hD.sub (ws' := []) [] (by decide) rfl
    have hK9 := hK.sub (tys' := []) [] rfl
    exact W.iret (v := zI 10) hx hb hr (fun t ht hW => ⟨⟨zI 10, (), rfl, congrArg zI (by rw [s9]; decide), by rw [ht]; exact hP9, va_K.moved hW.alike hK9, hD9⟩, hS.F ht⟩) hS.2.2 dX3_keywordOrName_104
  refine zv_lookup (off := 107) (tgt := 108) hx hb dX3_keywordOrName_1 (by decide) (by omega) (by simp [Op.lookupswitch.offset, List.find?, *]; try omega) (by decide) ?_
  refine lv_iconst (v := zI 1) hx hb dX3_keywordOrName_108 rfl ?_
  have hP9 := hP.sub (ws' := []) [] rfl
  have hD9 := hD.sub (ws' := []) [] (by decide) rfl
  have hK9 := hK.sub (tys' := []) [] rfl
  exact W.iret (v := zI 1) hx hb hr (fun t ht hW => ⟨⟨zI 1, (), rfl, congrArg zI (by unfold kKw; repeat rw [if_neg (by assumption)]), by rw [ht]; exact hP9, va_K.moved hW.alike hK9, hD9⟩, hS.F ht⟩) hS.2.2 dX3_keywordOrName_109

set_option maxHeartbeats 4000000 in
set_option maxRecDepth 100000 in
theorem c_X3_skipBlanks (l : Launch) (dC : Nat → ClassId) (dI : Nat → Nat → Nat) (tk tp : Nat) (cB : ClassId) (sz : Nat) (tk_size : Int) (tk_behind : Int) (tk_kind : Int) (tk_at : Int) (tk_name : Int) (tk_number : Int) (tx : Int → Int) (from_ : Int) (hTx : ∀ j : Int, 0 ≤ j ∧ j < 3000 → -128 ≤ tx j ∧ tx j < 128) (hf : 0 ≤ from_ ∧ from_ ≤ tk_size) (hs : tk_size ≤ 3000) : Met l yX3_skipBlanks wyX3_skipBlanks ({ frames := 0, cells := 0, slots := 0, locals := 0 }) (va_Pc [.ref tk, .int (zI from_)] (fun U => U.heap.size = sz ∧ va_P (dC, dI) vwCl [(tk, .inr (3, [.ref tp, .int (zI tk_size), .int (zI tk_behind), .int (zI tk_kind), .int (zI tk_at), .long (lI tk_name), .long (lI tk_number)])), (tp, .inl (cB, 3000, .inl (zF tx)))] U.heap ∧ va_K (dC, dI) vwCl [(cB, .byte)] U ∧ va_D (fun _ => True) [(tk, .inr (3, [.ref tp, .int (zI tk_size), .int (zI tk_behind), .int (zI tk_kind), .int (zI tk_at), .long (lI tk_name), .long (lI tk_number)])), (tp, .inl (cB, 3000, .inl (zF tx)))])) (va_Qi (fun (rr : Int32) (_ : Unit) => rr = zI (kRun isBl tx tk_size from_)) (fun _ t => va_P (dC, dI) vwCl [(tk, .inr (3, [.ref tp, .int (zI tk_size), .int (zI tk_behind), .int (zI tk_kind), .int (zI tk_at), .long (lI tk_name), .long (lI tk_number)])), (tp, .inl (cB, 3000, .inl (zF tx)))] t.heap ∧ va_K (dC, dI) vwCl [(cB, .byte)] t ∧ va_D (va_A [(tk, .inr (3, [.ref tp, .int (zI tk_size), .int (zI tk_behind), .int (zI tk_kind), .int (zI tk_at), .long (lI tk_name), .long (lI tk_number)])), (tp, .inl (cB, 3000, .inl (zF tx)))] sz) [(tk, .inr (3, [.ref tp, .int (zI tk_size), .int (zI tk_behind), .int (zI tk_kind), .int (zI tk_at), .long (lI tk_name), .long (lI tk_number)])), (tp, .inl (cB, 3000, .inl (zF tx)))]) (va_A [(tk, .inr (3, [.ref tp, .int (zI tk_size), .int (zI tk_behind), .int (zI tk_kind), .int (zI tk_at), .long (lI tk_name), .long (lI tk_number)])), (tp, .inl (cB, 3000, .inl (zF tx)))] sz)) 0 0 (va_A [(tk, .inr (3, [.ref tp, .int (zI tk_size), .int (zI tk_behind), .int (zI tk_kind), .int (zI tk_at), .long (lI tk_name), .long (lI tk_number)])), (tp, .inl (cB, 3000, .inl (zF tx)))] sz) := by
  refine Met.ofW (cc := cX3_skipBlanks) (maxL := 3) (ret := (some .int)) (by decide) rfl ?_
  intro p e s m args below meth c s₁ B hml hv
  obtain ⟨rfl, hsz, hP, hK, hD0⟩ := hv
  have hx := B.exec
  have hb := B.bytes
  have hr := B.returns
  have hts := atoms_spec (ws := wyX3_skipBlanks) B.pre
  have hg : ∀ w ∈ lw_G, w.before _ s = true := fun w h => hts w (List.mem_cons_of_mem _ h)
  have hown : s.vm.findClass RX3 = some m.cls := findClass_of_methodNamed B.named
  have hlocks := B.notSynchronized
  subst hsz
  have hD := hD0.self (sz := s.heap.size)
  generalize hAe : va_A [(tk, .inr (3, [.ref tp, .int (zI tk_size), .int (zI tk_behind), .int (zI tk_kind), .int (zI tk_at), .long (lI tk_name), .long (lI tk_number)])), (tp, .inl (cB, 3000, .inl (zF tx)))] s.heap.size = A at hD ⊢
  have hA : ∀ q : Nat, s.heap.size ≤ q → A q := fun q h => by rw [← hAe]; exact Or.inr h
  have hS : va_S A s.heap s.heap [] := va_S.rf
  have hP : va_P (dC, dI) vwCl [(tk, .inr (3, [.ref tp, .int (zI tk_size), .int (zI tk_behind), .int (zI tk_kind), .int (zI tk_at), .long (lI tk_name), .long (lI tk_number)])), (tp, .inl (cB, 3000, .inl (zF tx)))] s.heap := hP
  have hl := lv_entry ([.ref tk, .int (zI from_)]) (n := 3) (Nat.le_of_ble_eq_true rfl)
  rw [lg_entry_eq]
  generalize (lg_sl ([.ref tk, .int (zI from_)]) ++ List.replicate (3 - (lg_sl ([.ref tk, .int (zI from_)])).length) Slot.unset).toArray = ls at hl ⊢
  have hl : lv_has ls 3 [(0, .ref tk), (1, .int (zI from_))] := hl
  refine zv_q (fun Q hQ => ?_)
  refine lv_iload_n hx hb dX3_skipBlanks_0 rfl (lv_at hl 1 rfl) ?_
  refine lv_istore_n (lv' := [(2, .int (zI from_)), (0, .ref tk), (1, .int (zI from_))]) hx hb dX3_skipBlanks_1 rfl hl (by decide) rfl (fun ls hl => ?_)
  have lp2 : ∀ (n : Nat) (i : Int), (from_ ≤ i ∧ i ≤ tk_size) → (kRun isBl tx tk_size from_ = kRun isBl tx tk_size i) → tk_size - i < (n : Int) → ∀ (H : Heap) (locs : List Loc), va_P (dC, dI) vwCl [(tk, .inr (3, [.ref tp, .int (zI tk_size), .int (zI tk_behind), .int (zI tk_kind), .int (zI tk_at), .long (lI tk_name), .long (lI tk_number)])), (tp, .inl (cB, 3000, .inl (zF tx)))] H → va_D A [(tk, .inr (3, [.ref tp, .int (zI tk_size), .int (zI tk_behind), .int (zI tk_kind), .int (zI tk_at), .long (lI tk_name), .long (lI tk_number)])), (tp, .inl (cB, 3000, .inl (zF tx)))] → va_S A s.heap H locs → ∀ (ls : Array Slot), lv_has ls 3 [(2, .int (zI i)), (0, .ref tk), (1, .int (zI from_))] → W p l e ({ frames := 0, cells := 0, slots := 0, locals := 0 } : Room) s m ([.ref tk, .int (zI from_)] : List Value).toArray below meth c H locs 0 0 Q (F0 m 2 ls []) := by
    intro n
    induction n with
    | zero => intro i hi hr_ hM; exact absurd hM (by omega)
    | succ n ih2 =>
      intro i hi hr_ hM2 H locs hP hD hS ls hl
      refine lv_iload_n hx hb dX3_skipBlanks_2 rfl (lv_at hl 0 rfl) ?_
      refine lv_aload_n hx hb dX3_skipBlanks_3 rfl (lv_at hl 1 rfl) ?_
      refine va_get (D := (dC, dI)) (ci := 3) (v := .int (zI tk_size)) (C := RX3) (T := TX3) (N := 7) hx hb hg inG_X3 hown hK hP 0 rfl rfl 1 (by decide) (hg (.fieldLink RX3 9 "AttributeDesk$Tokens" "size" "I") gw_1_161) (fun _ h9 => h9) rfl dX3_skipBlanks_4 ?_
      refine zv_icmp_ge (tgt := 38) hx hb dX3_skipBlanks_7 (by decide) (by omega) (by omega) (fun c1 => ?_) (fun c1 => ?_)
      · refine lv_iload_n hx hb dX3_skipBlanks_38 rfl (lv_at hl 0 rfl) ?_
        have hP9 := hP.sub (ws' := [(tk, .inr (3, [.ref tp, .int (zI tk_size), .int (zI tk_behind), .int (zI tk_kind), .int (zI tk_at), .long (lI tk_name), .long (lI tk_number)])), (tp, .inl (cB, 3000, .inl (zF tx)))]) [0, 1] rfl
        have hD9 := hD.sub (ws' := [(tk, .inr (3, [.ref tp, .int (zI tk_size), .int (zI tk_behind), .int (zI tk_kind), .int (zI tk_at), .long (lI tk_name), .long (lI tk_number)])), (tp, .inl (cB, 3000, .inl (zF tx)))]) [0, 1] (by decide) rfl
        have hK9 := hK.sub (tys' := [(cB, .byte)]) [0] rfl
        subst hQ
        exact W.iret (v := zI i) hx hb hr (fun t ht hW => ⟨⟨zI i, (), rfl, congrArg zI ((hr_.trans (kRun_f (fun h => by have z := isBl_t.mp h.2; omega))).symm), by rw [ht]; exact hP9, va_K.moved hW.alike hK9, hD9⟩, hS.F ht⟩) hS.2.2 dX3_skipBlanks_39
      · refine lv_aload_n hx hb dX3_skipBlanks_10 rfl (lv_at hl 1 rfl) ?_
        refine va_get (D := (dC, dI)) (ci := 3) (v := .ref tp) (C := RX3) (T := TX3) (N := 7) hx hb hg inG_X3 hown hK hP 0 rfl rfl 0 (by decide) (hg (.fieldLink RX3 31 "AttributeDesk$Tokens" "text" "[B") gw_1_160) (fun _ h9 => h9) rfl dX3_skipBlanks_11 ?_
        refine lv_iload_n hx hb dX3_skipBlanks_14 rfl (lv_at hl 0 rfl) ?_
        refine zv_bald (D := (dC, dI)) hx hb hK hP 1 0 rfl rfl (by omega) (Nat.le_of_ble_eq_true rfl) dX3_skipBlanks_15 ?_
        have hv2 := hTx i (by omega)
        refine lv_bipush (v := zI 32) hx hb dX3_skipBlanks_16 (by decide) ?_
        refine zv_icmp_eq (tgt := 32) hx hb dX3_skipBlanks_18 (by decide) (by omega) (by decide) (fun c3 => ?_) (fun c3 => ?_)
        · refine lv_iinc (v := zI (i + 1)) (lv' := [(2, .int (zI (i + 1))), (0, .ref tk), (1, .int (zI from_))]) hx hb dX3_skipBlanks_32 hl (k := 0) rfl (zI_inc (1) (by omega)) (by decide) rfl (fun ls hl => ?_)
          refine lv_goto (tgt := 2) hx hb dX3_skipBlanks_35 (by decide) ?_
          exact ih2 (i + 1) (by omega) (hr_.trans (kRun_t (by omega) (isBl_t.mpr (by omega)))) (by omega) _ _ hP hD hS _ (lv_sub hl [0, 1, 2] rfl)
        · refine lv_aload_n hx hb dX3_skipBlanks_21 rfl (lv_at hl 1 rfl) ?_
          refine va_get (D := (dC, dI)) (ci := 3) (v := .ref tp) (C := RX3) (T := TX3) (N := 7) hx hb hg inG_X3 hown hK hP 0 rfl rfl 0 (by decide) (hg (.fieldLink RX3 31 "AttributeDesk$Tokens" "text" "[B") gw_1_160) (fun _ h9 => h9) rfl dX3_skipBlanks_22 ?_
          refine lv_iload_n hx hb dX3_skipBlanks_25 rfl (lv_at hl 0 rfl) ?_
          refine zv_bald (D := (dC, dI)) hx hb hK hP 1 0 rfl rfl (by omega) (Nat.le_of_ble_eq_true rfl) dX3_skipBlanks_26 ?_
          have hv4 := hTx i (by omega)
          refine lv_bipush (v := zI 10) hx hb dX3_skipBlanks_27 (by decide) ?_
          refine zv_icmp_ne (tgt := 38) hx hb dX3_skipBlanks_29 (by decide) (by omega) (by decide) (fun c5 => ?_) (fun c5 => ?_)
          · refine lv_iload_n hx hb dX3_skipBlanks_38 rfl (lv_at hl 0 rfl) ?_
            have hP9 := hP.sub (ws' := [(tk, .inr (3, [.ref tp, .int (zI tk_size), .int (zI tk_behind), .int (zI tk_kind), .int (zI tk_at), .long (lI tk_name), .long (lI tk_number)])), (tp, .inl (cB, 3000, .inl (zF tx)))]) [0, 1] rfl
            have hD9 := hD.sub (ws' := [(tk, .inr (3, [.ref tp, .int (zI tk_size), .int (zI tk_behind), .int (zI tk_kind), .int (zI tk_at), .long (lI tk_name), .long (lI tk_number)])), (tp, .inl (cB, 3000, .inl (zF tx)))]) [0, 1] (by decide) rfl
            have hK9 := hK.sub (tys' := [(cB, .byte)]) [0] rfl
            subst hQ
            exact W.iret (v := zI i) hx hb hr (fun t ht hW => ⟨⟨zI i, (), rfl, congrArg zI ((hr_.trans (kRun_f (fun h => by have z := isBl_t.mp h.2; omega))).symm), by rw [ht]; exact hP9, va_K.moved hW.alike hK9, hD9⟩, hS.F ht⟩) hS.2.2 dX3_skipBlanks_39
          · refine lv_iinc (v := zI (i + 1)) (lv' := [(2, .int (zI (i + 1))), (0, .ref tk), (1, .int (zI from_))]) hx hb dX3_skipBlanks_32 hl (k := 0) rfl (zI_inc (1) (by omega)) (by decide) rfl (fun ls hl => ?_)
            refine lv_goto (tgt := 2) hx hb dX3_skipBlanks_35 (by decide) ?_
            exact ih2 (i + 1) (by omega) (hr_.trans (kRun_t (by omega) (isBl_t.mpr (by omega)))) (by omega) _ _ hP hD hS _ (lv_sub hl [0, 1, 2] rfl)
  exact lp2 ((tk_size - from_ : Int).toNat + 1) from_ (by omega) rfl (by omega) _ _ hP hD hS _ (lv_sub hl [0, 1, 2] rfl)

set_option maxHeartbeats 4000000 in
set_option maxRecDepth 100000 in
theorem c_X3_takeLetters (l : Launch) (dC : Nat → ClassId) (dI : Nat → Nat → Nat) (tk tp : Nat) (cB : ClassId) (sz : Nat) (tk_size : Int) (tk_behind : Int) (tk_kind : Int) (tk_at : Int) (tk_name : Int) (tk_number : Int) (tx : Int → Int) (hTx : ∀ j : Int, 0 ≤ j ∧ j < 3000 → -128 ≤ tx j ∧ tx j < 128) (hf : 0 ≤ tk_at ∧ tk_at ≤ tk_size) (hs : tk_size ≤ 3000) : Met l yX3_takeLetters wyX3_takeLetters ({ frames := 1, cells := 0, slots := 0, locals := 20 }) (va_Pc [.ref tk] (fun U => U.heap.size = sz ∧ va_P (dC, dI) vwCl [(tk, .inr (3, [.ref tp, .int (zI tk_size), .int (zI tk_behind), .int (zI tk_kind), .int (zI tk_at), .long (lI tk_name), .long (lI tk_number)])), (tp, .inl (cB, 3000, .inl (zF tx)))] U.heap ∧ va_K (dC, dI) vwCl [(cB, .byte)] U ∧ va_D (fun _ => True) [(tk, .inr (3, [.ref tp, .int (zI tk_size), .int (zI tk_behind), .int (zI tk_kind), .int (zI tk_at), .long (lI tk_name), .long (lI tk_number)])), (tp, .inl (cB, 3000, .inl (zF tx)))])) (va_Qv (fun _ : Unit => True) (fun _ t => ∃ (kd : Int), ∃ (nm : Int), (kd = kLk ((kRun isLt tx tk_size tk_at) - tk_at) (kCv tx tk_size tk_at 0)) ∧ ((kRun isLt tx tk_size tk_at) - tk_at ≤ 8 → nm = (kCv tx tk_size tk_at 0)) ∧ (-9223372036854775808 ≤ nm ∧ nm < 9223372036854775808) ∧ va_P (dC, dI) vwCl [(tk, .inr (3, [.ref tp, .int (zI tk_size), .int (zI (kRun isLt tx tk_size tk_at)), .int (zI kd), .int (zI tk_at), .long (lI nm), .long (lI tk_number)])), (tp, .inl (cB, 3000, .inl (zF tx)))] t.heap ∧ va_K (dC, dI) vwCl [(cB, .byte)] t ∧ va_D (va_A [(tk, .inr (3, [.ref tp, .int (zI tk_size), .int (zI tk_behind), .int (zI tk_kind), .int (zI tk_at), .long (lI tk_name), .long (lI tk_number)])), (tp, .inl (cB, 3000, .inl (zF tx)))] sz) [(tk, .inr (3, [.ref tp, .int (zI tk_size), .int (zI (kRun isLt tx tk_size tk_at)), .int (zI kd), .int (zI tk_at), .long (lI nm), .long (lI tk_number)])), (tp, .inl (cB, 3000, .inl (zF tx)))]) (va_A [(tk, .inr (3, [.ref tp, .int (zI tk_size), .int (zI tk_behind), .int (zI tk_kind), .int (zI tk_at), .long (lI tk_name), .long (lI tk_number)])), (tp, .inl (cB, 3000, .inl (zF tx)))] sz)) 0 0 (va_A [(tk, .inr (3, [.ref tp, .int (zI tk_size), .int (zI tk_behind), .int (zI tk_kind), .int (zI tk_at), .long (lI tk_name), .long (lI tk_number)])), (tp, .inl (cB, 3000, .inl (zF tx)))] sz) := by
  refine Met.ofW (cc := cX3_takeLetters) (maxL := 5) (ret := none) (by decide) rfl ?_
  intro p e s m args below meth c s₁ B hml hv
  obtain ⟨rfl, hsz, hP, hK, hD0⟩ := hv
  have hx := B.exec
  have hb := B.bytes
  have hr := B.returns
  have hts := atoms_spec (ws := wyX3_takeLetters) B.pre
  have hg : ∀ w ∈ lw_G, w.before _ s = true := fun w h => hts w (List.mem_cons_of_mem _ h)
  have hown : s.vm.findClass RX3 = some m.cls := findClass_of_methodNamed B.named
  have hlocks := B.notSynchronized
  subst hsz
  have hD := hD0.self (sz := s.heap.size)
  generalize hAe : va_A [(tk, .inr (3, [.ref tp, .int (zI tk_size), .int (zI tk_behind), .int (zI tk_kind), .int (zI tk_at), .long (lI tk_name), .long (lI tk_number)])), (tp, .inl (cB, 3000, .inl (zF tx)))] s.heap.size = A at hD ⊢
  have hA : ∀ q : Nat, s.heap.size ≤ q → A q := fun q h => by rw [← hAe]; exact Or.inr h
  have hS : va_S A s.heap s.heap [] := va_S.rf
  have hP : va_P (dC, dI) vwCl [(tk, .inr (3, [.ref tp, .int (zI tk_size), .int (zI tk_behind), .int (zI tk_kind), .int (zI tk_at), .long (lI tk_name), .long (lI tk_number)])), (tp, .inl (cB, 3000, .inl (zF tx)))] s.heap := hP
  have hl := lv_entry ([.ref tk]) (n := 5) (Nat.le_of_ble_eq_true rfl)
  rw [lg_entry_eq]
  generalize (lg_sl ([.ref tk]) ++ List.replicate (5 - (lg_sl ([.ref tk])).length) Slot.unset).toArray = ls at hl ⊢
  have hl : lv_has ls 5 [(0, .ref tk)] := hl
  refine zv_q (fun Q hQ => ?_)
  refine lv_lconst (v := lI 0) hx hb dX3_takeLetters_0 rfl ?_
  refine lv_lstore_n (lv' := [(1, .long (lI 0)), (0, .ref tk)]) hx hb dX3_takeLetters_1 rfl hl (by decide) rfl (fun ls hl => ?_)
  refine lv_aload_n hx hb dX3_takeLetters_2 rfl (lv_at hl 1 rfl) ?_
  refine va_get (D := (dC, dI)) (ci := 3) (v := .int (zI tk_at)) (C := RX3) (T := TX3) (N := 7) hx hb hg inG_X3 hown hK hP 0 rfl rfl 4 (by decide) (hg (.fieldLink RX3 21 "AttributeDesk$Tokens" "at" "I") gw_1_167) (fun _ h9 => h9) rfl dX3_takeLetters_3 ?_
  refine lv_istore_n (lv' := [(3, .int (zI tk_at)), (1, .long (lI 0)), (0, .ref tk)]) hx hb dX3_takeLetters_6 rfl hl (by decide) rfl (fun ls hl => ?_)
  have lp7 : ∀ (n : Nat) (i : Int) (lt_ : Int), (tk_at ≤ i ∧ i ≤ tk_size) → (-9223372036854775808 ≤ lt_ ∧ lt_ < 9223372036854775808) → (i - tk_at ≤ 8 → (0 ≤ lt_ ∧ 2 * lt_ < p256 (i - tk_at) ∧ kCv tx tk_size tk_at 0 = kCv tx tk_size i lt_)) → (kRun isLt tx tk_size tk_at = kRun isLt tx tk_size i) → tk_size - i < (n : Int) → ∀ (H : Heap) (locs : List Loc), va_P (dC, dI) vwCl [(tk, .inr (3, [.ref tp, .int (zI tk_size), .int (zI tk_behind), .int (zI tk_kind), .int (zI tk_at), .long (lI tk_name), .long (lI tk_number)])), (tp, .inl (cB, 3000, .inl (zF tx)))] H → va_D A [(tk, .inr (3, [.ref tp, .int (zI tk_size), .int (zI tk_behind), .int (zI tk_kind), .int (zI tk_at), .long (lI tk_name), .long (lI tk_number)])), (tp, .inl (cB, 3000, .inl (zF tx)))] → va_S A s.heap H locs → ∀ (ls : Array Slot), lv_has ls 5 [(3, .int (zI i)), (1, .long (lI lt_)), (0, .ref tk)] → W p l e ({ frames := 1, cells := 0, slots := 0, locals := 20 } : Room) s m ([.ref tk] : List Value).toArray below meth c H locs 0 0 Q (F0 m 7 ls []) := by
    intro n
    induction n with
    | zero => intro i lt_ hi hv hc hr_ hM; exact absurd hM (by omega)
    | succ n ih7 =>
      intro i lt_ hi hv hc hr_ hM7 H locs hP hD hS ls hl
      refine lv_iload_n hx hb dX3_takeLetters_7 rfl (lv_at hl 0 rfl) ?_
      refine lv_aload_n hx hb dX3_takeLetters_8 rfl (lv_at hl 2 rfl) ?_
      refine va_get (D := (dC, dI)) (ci := 3) (v := .int (zI tk_size)) (C := RX3) (T := TX3) (N := 7) hx hb hg inG_X3 hown hK hP 0 rfl rfl 1 (by decide) (hg (.fieldLink RX3 9 "AttributeDesk$Tokens" "size" "I") gw_1_161) (fun _ h9 => h9) rfl dX3_takeLetters_9 ?_
      refine zv_icmp_ge (tgt := 46) hx hb dX3_takeLetters_12 (by decide) (by omega) (by omega) (fun c1 => ?_) (fun c1 => ?_)
      · have hE : kRun isLt tx tk_size tk_at = i := hr_.trans (kRun_f (fun h => by have z := isLt_t.mp h.2; omega))
        have hV : i - tk_at ≤ 8 → kCv tx tk_size tk_at 0 = lt_ := fun h => (hc h).2.2.trans (kCv_f (fun h => by have z := isLt_t.mp h.2; omega))
        refine lv_aload_n hx hb dX3_takeLetters_46 rfl (lv_at hl 2 rfl) ?_
        refine lv_iload_n hx hb dX3_takeLetters_47 rfl (lv_at hl 0 rfl) ?_
        refine va_put (D := (dC, dI)) (ci := 3) (v := .int (zI i)) (ty := .int) (C := RX3) (T := TX3) (N := 7) hx hb hg inG_X3 tyX3 tyX3_ok nmX3 hown hK hP hD hS 0 rfl rfl 2 (by decide) (hg (.fieldLink RX3 15 "AttributeDesk$Tokens" "behind" "I") gw_1_162) (fun _ h9 => h9) rfl (by decide +kernel) rfl rfl (Nat.le_of_ble_eq_true rfl) dX3_takeLetters_48 (fun H locs hP hD hS => ?_)
        have hP : va_P (dC, dI) vwCl [(tk, .inr (3, [.ref tp, .int (zI tk_size), .int (zI i), .int (zI tk_kind), .int (zI tk_at), .long (lI tk_name), .long (lI tk_number)])), (tp, .inl (cB, 3000, .inl (zF tx)))] H := hP
        have hD : va_D A [(tk, .inr (3, [.ref tp, .int (zI tk_size), .int (zI i), .int (zI tk_kind), .int (zI tk_at), .long (lI tk_name), .long (lI tk_number)])), (tp, .inl (cB, 3000, .inl (zF tx)))] := hD
        refine lv_aload_n hx hb dX3_takeLetters_51 rfl (lv_at hl 2 rfl) ?_
        refine lv_lload_n hx hb dX3_takeLetters_52 rfl (lv_at hl 1 rfl) ?_
        refine va_put (D := (dC, dI)) (ci := 3) (v := .long (lI lt_)) (ty := .long) (C := RX3) (T := TX3) (N := 7) hx hb hg inG_X3 tyX3 tyX3_ok nmX3 hown hK hP hD hS 0 rfl rfl 5 (by decide) (hg (.fieldLink RX3 24 "AttributeDesk$Tokens" "name" "J") gw_1_169) (fun _ h9 => h9) rfl (by decide +kernel) rfl rfl (Nat.le_of_ble_eq_true rfl) dX3_takeLetters_53 (fun H locs hP hD hS => ?_)
        have hP : va_P (dC, dI) vwCl [(tk, .inr (3, [.ref tp, .int (zI tk_size), .int (zI i), .int (zI tk_kind), .int (zI tk_at), .long (lI lt_), .long (lI tk_number)])), (tp, .inl (cB, 3000, .inl (zF tx)))] H := hP
        have hD : va_D A [(tk, .inr (3, [.ref tp, .int (zI tk_size), .int (zI i), .int (zI tk_kind), .int (zI tk_at), .long (lI lt_), .long (lI tk_number)])), (tp, .inl (cB, 3000, .inl (zF tx)))] := hD
        refine lv_iload_n hx hb dX3_takeLetters_56 rfl (lv_at hl 0 rfl) ?_
        refine lv_aload_n hx hb dX3_takeLetters_57 rfl (lv_at hl 2 rfl) ?_
        refine va_get (D := (dC, dI)) (ci := 3) (v := .int (zI tk_at)) (C := RX3) (T := TX3) (N := 7) hx hb hg inG_X3 hown hK hP 0 rfl rfl 4 (by decide) (hg (.fieldLink RX3 21 "AttributeDesk$Tokens" "at" "I") gw_1_167) (fun _ h9 => h9) rfl dX3_takeLetters_58 ?_
        refine zv_isub (r := i - tk_at) hx hb dX3_takeLetters_61 (by omega) ?_
        refine lv_istore (lv' := [(4, .int (zI (i - tk_at))), (3, .int (zI i)), (1, .long (lI lt_)), (0, .ref tk)]) hx hb dX3_takeLetters_62 hl (by decide) rfl (fun ls hl => ?_)
        refine lv_aload_n hx hb dX3_takeLetters_64 rfl (lv_at hl 3 rfl) ?_
        refine lv_iload hx hb dX3_takeLetters_65 (lv_at hl 0 rfl) ?_
        refine lv_bipush (v := zI 8) hx hb dX3_takeLetters_67 (by decide) ?_
        refine zv_icmp_le (tgt := 76) hx hb dX3_takeLetters_69 (by decide) (by omega) (by decide) (fun c2 => ?_) (fun c2 => ?_)
        · refine lv_iload hx hb dX3_takeLetters_76 (lv_at hl 0 rfl) ?_
          refine lv_iconst (v := zI 4) hx hb dX3_takeLetters_78 rfl ?_
          refine zv_icmp_le (tgt := 86) hx hb dX3_takeLetters_79 (by decide) (by omega) (by decide) (fun c3 => ?_) (fun c3 => ?_)
          · refine lv_lload_n hx hb dX3_takeLetters_86 rfl (lv_at hl 2 rfl) ?_
            have h44 := p256_4 (k := i - tk_at) (by omega)
            have hC4 := hc (by omega)
            refine zv_l2i hx hb dX3_takeLetters_87 (by omega) ?_
            have hPc := hP.sub (ws' := []) [] rfl
            have hDc := hD.sub (ws' := []) [] (by decide) rfl
            have hKc := hK.sub (tys' := []) [] rfl
            have hFc := va_free (wc := []) hD hS hA [] rfl
            refine va_calli (va_runS (As := [.int (zI lt_)]) (rest := [.ref tk]) ⟨hx, hb, hml, hown, hg⟩ (c_X3_keywordOrName l dC dI H.size lt_ (by omega)) (va_cwS 1 hg gc_X3_61 rfl rfl rfl (by decide +kernel) ⟨Nat.le_of_ble_eq_true rfl, Nat.le_of_ble_eq_true rfl⟩) ⟨fun a U g mk q => by obtain ⟨q0, q1, qP, qK, qD⟩ := q; exact ⟨q0, q1, qP, va_K.moved (u := U) (U := U.calling g mk a) (Vm.Alike.refl U.vm) qK, qD⟩, fun U hU hW => ⟨rfl, by rw [hU], by rw [hU]; exact hPc, va_K.moved hW.alike hKc, hDc.weaken (fun _ _ _ _ => trivial)⟩⟩ rfl rfl hl.1 rfl (lv_room (Nat.le_of_ble_eq_true rfl)) dX3_takeLetters_88 ⟨Nat.le_of_ble_eq_true rfl, Nat.le_of_ble_eq_true rfl⟩) hS (fun q _ h => hFc q h) hFc (fun r4 u4 t H1 locs ht hvm hw4 hB hz1 hk1 hS => ?_)
            obtain ⟨hP1, hK1, hD1⟩ := hB
            rw [ht] at hP1
            have hK1 := va_K.moved hvm.symm hK1
            obtain ⟨hP, hD⟩ := va_join (wr := [(tk, .inr (3, [.ref tp, .int (zI tk_size), .int (zI i), .int (zI tk_kind), .int (zI tk_at), .long (lI lt_), .long (lI tk_number)])), (tp, .inl (cB, 3000, .inl (zF tx)))]) (w1 := []) hP hD [] [0, 1] rfl rfl (by decide) (by decide) hk1 hFc hP1 hD1
            have hK := (hK.sub (tys' := [(cB, .byte)]) [0] rfl).app hK1
            generalize H1 = H at hP hS ⊢
            have hP : va_P (dC, dI) vwCl [(tk, .inr (3, [.ref tp, .int (zI tk_size), .int (zI i), .int (zI tk_kind), .int (zI tk_at), .long (lI lt_), .long (lI tk_number)])), (tp, .inl (cB, 3000, .inl (zF tx)))] H := hP
            have hD : va_D A [(tk, .inr (3, [.ref tp, .int (zI tk_size), .int (zI i), .int (zI tk_kind), .int (zI tk_at), .long (lI lt_), .long (lI tk_number)])), (tp, .inl (cB, 3000, .inl (zF tx)))] := hD
            have hK : va_K (dC, dI) vwCl [(cB, .byte)] s := hK
            obtain rfl : r4 = zI (kKw lt_) := hw4
            refine va_put (D := (dC, dI)) (ci := 3) (v := .int (zI (kKw lt_))) (ty := .int) (C := RX3) (T := TX3) (N := 7) hx hb hg inG_X3 tyX3 tyX3_ok nmX3 hown hK hP hD hS 0 rfl rfl 3 (by decide) (hg (.fieldLink RX3 18 "AttributeDesk$Tokens" "kind" "I") gw_1_163) (fun _ h9 => h9) rfl (by decide +kernel) rfl rfl (Nat.le_of_ble_eq_true rfl) dX3_takeLetters_91 (fun H locs hP hD hS => ?_)
            have hP : va_P (dC, dI) vwCl [(tk, .inr (3, [.ref tp, .int (zI tk_size), .int (zI i), .int (zI (kKw lt_)), .int (zI tk_at), .long (lI lt_), .long (lI tk_number)])), (tp, .inl (cB, 3000, .inl (zF tx)))] H := hP
            have hD : va_D A [(tk, .inr (3, [.ref tp, .int (zI tk_size), .int (zI i), .int (zI (kKw lt_)), .int (zI tk_at), .long (lI lt_), .long (lI tk_number)])), (tp, .inl (cB, 3000, .inl (zF tx)))] := hD
            have q5 : (kRun isLt tx tk_size tk_at) = i := by omega
            have hP9 : va_P (dC, dI) vwCl [(tk, .inr (3, [.ref tp, .int (zI tk_size), .int (zI (kRun isLt tx tk_size tk_at)), .int (zI (kKw lt_)), .int (zI tk_at), .long (lI lt_), .long (lI tk_number)])), (tp, .inl (cB, 3000, .inl (zF tx)))] H := by rw [q5]; exact hP.sub (ws' := [(tk, .inr (3, [.ref tp, .int (zI tk_size), .int (zI i), .int (zI (kKw lt_)), .int (zI tk_at), .long (lI lt_), .long (lI tk_number)])), (tp, .inl (cB, 3000, .inl (zF tx)))]) [0, 1] rfl
            have hD9 : va_D A [(tk, .inr (3, [.ref tp, .int (zI tk_size), .int (zI (kRun isLt tx tk_size tk_at)), .int (zI (kKw lt_)), .int (zI tk_at), .long (lI lt_), .long (lI tk_number)])), (tp, .inl (cB, 3000, .inl (zF tx)))] := by rw [q5]; exact hD.sub (ws' := [(tk, .inr (3, [.ref tp, .int (zI tk_size), .int (zI i), .int (zI (kKw lt_)), .int (zI tk_at), .long (lI lt_), .long (lI tk_number)])), (tp, .inl (cB, 3000, .inl (zF tx)))]) [0, 1] (by decide) rfl
            have hK9 := hK.sub (tys' := [(cB, .byte)]) [0] rfl
            subst hQ
            exact W.vret hx hb hr (fun t ht hW => ⟨⟨(), rfl, trivial, (kKw lt_), lt_, (by unfold kLk; rw [if_neg (by omega), if_neg (by omega), hV (by omega)]), (fun h => (hV (by omega)).symm), (by omega), by rw [ht]; exact hP9, va_K.moved hW.alike hK9, hD9⟩, hS.F ht⟩) hS.2.2 dX3_takeLetters_94
          · refine lv_iconst (v := zI 1) hx hb dX3_takeLetters_82 rfl ?_
            refine lv_goto (tgt := 91) hx hb dX3_takeLetters_83 (by decide) ?_
            refine va_put (D := (dC, dI)) (ci := 3) (v := .int (zI 1)) (ty := .int) (C := RX3) (T := TX3) (N := 7) hx hb hg inG_X3 tyX3 tyX3_ok nmX3 hown hK hP hD hS 0 rfl rfl 3 (by decide) (hg (.fieldLink RX3 18 "AttributeDesk$Tokens" "kind" "I") gw_1_163) (fun _ h9 => h9) rfl (by decide +kernel) rfl rfl (Nat.le_of_ble_eq_true rfl) dX3_takeLetters_91 (fun H locs hP hD hS => ?_)
            have hP : va_P (dC, dI) vwCl [(tk, .inr (3, [.ref tp, .int (zI tk_size), .int (zI i), .int (zI 1), .int (zI tk_at), .long (lI lt_), .long (lI tk_number)])), (tp, .inl (cB, 3000, .inl (zF tx)))] H := hP
            have hD : va_D A [(tk, .inr (3, [.ref tp, .int (zI tk_size), .int (zI i), .int (zI 1), .int (zI tk_at), .long (lI lt_), .long (lI tk_number)])), (tp, .inl (cB, 3000, .inl (zF tx)))] := hD
            have q6 : (kRun isLt tx tk_size tk_at) = i := by omega
            have hP9 : va_P (dC, dI) vwCl [(tk, .inr (3, [.ref tp, .int (zI tk_size), .int (zI (kRun isLt tx tk_size tk_at)), .int (zI 1), .int (zI tk_at), .long (lI lt_), .long (lI tk_number)])), (tp, .inl (cB, 3000, .inl (zF tx)))] H := by rw [q6]; exact hP.sub (ws' := [(tk, .inr (3, [.ref tp, .int (zI tk_size), .int (zI i), .int (zI 1), .int (zI tk_at), .long (lI lt_), .long (lI tk_number)])), (tp, .inl (cB, 3000, .inl (zF tx)))]) [0, 1] rfl
            have hD9 : va_D A [(tk, .inr (3, [.ref tp, .int (zI tk_size), .int (zI (kRun isLt tx tk_size tk_at)), .int (zI 1), .int (zI tk_at), .long (lI lt_), .long (lI tk_number)])), (tp, .inl (cB, 3000, .inl (zF tx)))] := by rw [q6]; exact hD.sub (ws' := [(tk, .inr (3, [.ref tp, .int (zI tk_size), .int (zI i), .int (zI 1), .int (zI tk_at), .long (lI lt_), .long (lI tk_number)])), (tp, .inl (cB, 3000, .inl (zF tx)))]) [0, 1] (by decide) rfl
            have hK9 := hK.sub (tys' := [(cB, .byte)]) [0] rfl
            subst hQ
            exact W.vret hx hb hr (fun t ht hW => ⟨⟨(), rfl, trivial, 1, lt_, (by unfold kLk; rw [if_neg (by omega), if_pos (by omega)]), (fun h => (hV (by omega)).symm), (by omega), by rw [ht]; exact hP9, va_K.moved hW.alike hK9, hD9⟩, hS.F ht⟩) hS.2.2 dX3_takeLetters_94
        · refine lv_iconst (v := zI (-1)) hx hb dX3_takeLetters_72 rfl ?_
          refine lv_goto (tgt := 91) hx hb dX3_takeLetters_73 (by decide) ?_
          refine va_put (D := (dC, dI)) (ci := 3) (v := .int (zI (-1))) (ty := .int) (C := RX3) (T := TX3) (N := 7) hx hb hg inG_X3 tyX3 tyX3_ok nmX3 hown hK hP hD hS 0 rfl rfl 3 (by decide) (hg (.fieldLink RX3 18 "AttributeDesk$Tokens" "kind" "I") gw_1_163) (fun _ h9 => h9) rfl (by decide +kernel) rfl rfl (Nat.le_of_ble_eq_true rfl) dX3_takeLetters_91 (fun H locs hP hD hS => ?_)
          have hP : va_P (dC, dI) vwCl [(tk, .inr (3, [.ref tp, .int (zI tk_size), .int (zI i), .int (zI (-1)), .int (zI tk_at), .long (lI lt_), .long (lI tk_number)])), (tp, .inl (cB, 3000, .inl (zF tx)))] H := hP
          have hD : va_D A [(tk, .inr (3, [.ref tp, .int (zI tk_size), .int (zI i), .int (zI (-1)), .int (zI tk_at), .long (lI lt_), .long (lI tk_number)])), (tp, .inl (cB, 3000, .inl (zF tx)))] := hD
          have q7 : (kRun isLt tx tk_size tk_at) = i := by omega
          have hP9 : va_P (dC, dI) vwCl [(tk, .inr (3, [.ref tp, .int (zI tk_size), .int (zI (kRun isLt tx tk_size tk_at)), .int (zI (-1)), .int (zI tk_at), .long (lI lt_), .long (lI tk_number)])), (tp, .inl (cB, 3000, .inl (zF tx)))] H := by rw [q7]; exact hP.sub (ws' := [(tk, .inr (3, [.ref tp, .int (zI tk_size), .int (zI i), .int (zI (-1)), .int (zI tk_at), .long (lI lt_), .long (lI tk_number)])), (tp, .inl (cB, 3000, .inl (zF tx)))]) [0, 1] rfl
          have hD9 : va_D A [(tk, .inr (3, [.ref tp, .int (zI tk_size), .int (zI (kRun isLt tx tk_size tk_at)), .int (zI (-1)), .int (zI tk_at), .long (lI lt_), .long (lI tk_number)])), (tp, .inl (cB, 3000, .inl (zF tx)))] := by rw [q7]; exact hD.sub (ws' := [(tk, .inr (3, [.ref tp, .int (zI tk_size), .int (zI i), .int (zI (-1)), .int (zI tk_at), .long (lI lt_), .long (lI tk_number)])), (tp, .inl (cB, 3000, .inl (zF tx)))]) [0, 1] (by decide) rfl
          have hK9 := hK.sub (tys' := [(cB, .byte)]) [0] rfl
          subst hQ
          exact W.vret hx hb hr (fun t ht hW => ⟨⟨(), rfl, trivial, (-1), lt_, (by unfold kLk; rw [if_pos (by omega)]), (fun h => (hV (by omega)).symm), (by omega), by rw [ht]; exact hP9, va_K.moved hW.alike hK9, hD9⟩, hS.F ht⟩) hS.2.2 dX3_takeLetters_94
      · refine lv_aload_n hx hb dX3_takeLetters_15 rfl (lv_at hl 2 rfl) ?_
        refine va_get (D := (dC, dI)) (ci := 3) (v := .ref tp) (C := RX3) (T := TX3) (N := 7) hx hb hg inG_X3 hown hK hP 0 rfl rfl 0 (by decide) (hg (.fieldLink RX3 31 "AttributeDesk$Tokens" "text" "[B") gw_1_160) (fun _ h9 => h9) rfl dX3_takeLetters_16 ?_
        refine lv_iload_n hx hb dX3_takeLetters_19 rfl (lv_at hl 0 rfl) ?_
        refine zv_bald (D := (dC, dI)) hx hb hK hP 1 0 rfl rfl (by omega) (Nat.le_of_ble_eq_true rfl) dX3_takeLetters_20 ?_
        have hv8 := hTx i (by omega)
        have hPc := hP.sub (ws' := []) [] rfl
        have hDc := hD.sub (ws' := []) [] (by decide) rfl
        have hKc := hK.sub (tys' := []) [] rfl
        have hFc := va_free (wc := []) hD hS hA [] rfl
        refine va_calli (va_runS (As := [.int (zI (tx i))]) (rest := []) ⟨hx, hb, hml, hown, hg⟩ (c_X3_isLetter l dC dI H.size (tx i) (by omega)) (va_cwS 1 hg gc_X3_45 rfl rfl rfl (by decide +kernel) ⟨Nat.le_of_ble_eq_true rfl, Nat.le_of_ble_eq_true rfl⟩) ⟨fun a U g mk q => by obtain ⟨q0, q1, qP, qK, qD⟩ := q; exact ⟨q0, q1, qP, va_K.moved (u := U) (U := U.calling g mk a) (Vm.Alike.refl U.vm) qK, qD⟩, fun U hU hW => ⟨rfl, by rw [hU], by rw [hU]; exact hPc, va_K.moved hW.alike hKc, hDc.weaken (fun _ _ _ _ => trivial)⟩⟩ rfl rfl hl.1 rfl (lv_room (Nat.le_of_ble_eq_true rfl)) dX3_takeLetters_21 ⟨Nat.le_of_ble_eq_true rfl, Nat.le_of_ble_eq_true rfl⟩) hS (fun q _ h => hFc q h) hFc (fun r9 u9 t H1 locs ht hvm hw9 hB hz1 hk1 hS => ?_)
        obtain ⟨p0_10, hP1, hK1, hD1⟩ := hB
        rw [ht] at hP1
        have hK1 := va_K.moved hvm.symm hK1
        obtain ⟨hP, hD⟩ := va_join (wr := [(tk, .inr (3, [.ref tp, .int (zI tk_size), .int (zI tk_behind), .int (zI tk_kind), .int (zI tk_at), .long (lI tk_name), .long (lI tk_number)])), (tp, .inl (cB, 3000, .inl (zF tx)))]) (w1 := []) hP hD [] [0, 1] rfl rfl (by decide) (by decide) hk1 hFc hP1 hD1
        have hK := (hK.sub (tys' := [(cB, .byte)]) [0] rfl).app hK1
        generalize H1 = H at hP hS ⊢
        have hP : va_P (dC, dI) vwCl [(tk, .inr (3, [.ref tp, .int (zI tk_size), .int (zI tk_behind), .int (zI tk_kind), .int (zI tk_at), .long (lI tk_name), .long (lI tk_number)])), (tp, .inl (cB, 3000, .inl (zF tx)))] H := hP
        have hD : va_D A [(tk, .inr (3, [.ref tp, .int (zI tk_size), .int (zI tk_behind), .int (zI tk_kind), .int (zI tk_at), .long (lI tk_name), .long (lI tk_number)])), (tp, .inl (cB, 3000, .inl (zF tx)))] := hD
        have hK : va_K (dC, dI) vwCl [(cB, .byte)] s := hK
        obtain rfl : r9 = zI u9 := hw9
        refine zv_if_eq (tgt := 46) hx hb dX3_takeLetters_24 (by decide) (by omega) (fun c11 => ?_) (fun c11 => ?_)
        · have hE : kRun isLt tx tk_size tk_at = i := hr_.trans (kRun_f (fun h => by have z := isLt_t.mp h.2; omega))
          have hV : i - tk_at ≤ 8 → kCv tx tk_size tk_at 0 = lt_ := fun h => (hc h).2.2.trans (kCv_f (fun h => by have z := isLt_t.mp h.2; omega))
          refine lv_aload_n hx hb dX3_takeLetters_46 rfl (lv_at hl 2 rfl) ?_
          refine lv_iload_n hx hb dX3_takeLetters_47 rfl (lv_at hl 0 rfl) ?_
          refine va_put (D := (dC, dI)) (ci := 3) (v := .int (zI i)) (ty := .int) (C := RX3) (T := TX3) (N := 7) hx hb hg inG_X3 tyX3 tyX3_ok nmX3 hown hK hP hD hS 0 rfl rfl 2 (by decide) (hg (.fieldLink RX3 15 "AttributeDesk$Tokens" "behind" "I") gw_1_162) (fun _ h9 => h9) rfl (by decide +kernel) rfl rfl (Nat.le_of_ble_eq_true rfl) dX3_takeLetters_48 (fun H locs hP hD hS => ?_)
          have hP : va_P (dC, dI) vwCl [(tk, .inr (3, [.ref tp, .int (zI tk_size), .int (zI i), .int (zI tk_kind), .int (zI tk_at), .long (lI tk_name), .long (lI tk_number)])), (tp, .inl (cB, 3000, .inl (zF tx)))] H := hP
          have hD : va_D A [(tk, .inr (3, [.ref tp, .int (zI tk_size), .int (zI i), .int (zI tk_kind), .int (zI tk_at), .long (lI tk_name), .long (lI tk_number)])), (tp, .inl (cB, 3000, .inl (zF tx)))] := hD
          refine lv_aload_n hx hb dX3_takeLetters_51 rfl (lv_at hl 2 rfl) ?_
          refine lv_lload_n hx hb dX3_takeLetters_52 rfl (lv_at hl 1 rfl) ?_
          refine va_put (D := (dC, dI)) (ci := 3) (v := .long (lI lt_)) (ty := .long) (C := RX3) (T := TX3) (N := 7) hx hb hg inG_X3 tyX3 tyX3_ok nmX3 hown hK hP hD hS 0 rfl rfl 5 (by decide) (hg (.fieldLink RX3 24 "AttributeDesk$Tokens" "name" "J") gw_1_169) (fun _ h9 => h9) rfl (by decide +kernel) rfl rfl (Nat.le_of_ble_eq_true rfl) dX3_takeLetters_53 (fun H locs hP hD hS => ?_)
          have hP : va_P (dC, dI) vwCl [(tk, .inr (3, [.ref tp, .int (zI tk_size), .int (zI i), .int (zI tk_kind), .int (zI tk_at), .long (lI lt_), .long (lI tk_number)])), (tp, .inl (cB, 3000, .inl (zF tx)))] H := hP
          have hD : va_D A [(tk, .inr (3, [.ref tp, .int (zI tk_size), .int (zI i), .int (zI tk_kind), .int (zI tk_at), .long (lI lt_), .long (lI tk_number)])), (tp, .inl (cB, 3000, .inl (zF tx)))] := hD
          refine lv_iload_n hx hb dX3_takeLetters_56 rfl (lv_at hl 0 rfl) ?_
          refine lv_aload_n hx hb dX3_takeLetters_57 rfl (lv_at hl 2 rfl) ?_
          refine va_get (D := (dC, dI)) (ci := 3) (v := .int (zI tk_at)) (C := RX3) (T := TX3) (N := 7) hx hb hg inG_X3 hown hK hP 0 rfl rfl 4 (by decide) (hg (.fieldLink RX3 21 "AttributeDesk$Tokens" "at" "I") gw_1_167) (fun _ h9 => h9) rfl dX3_takeLetters_58 ?_
          refine zv_isub (r := i - tk_at) hx hb dX3_takeLetters_61 (by omega) ?_
          refine lv_istore (lv' := [(4, .int (zI (i - tk_at))), (3, .int (zI i)), (1, .long (lI lt_)), (0, .ref tk)]) hx hb dX3_takeLetters_62 hl (by decide) rfl (fun ls hl => ?_)
          refine lv_aload_n hx hb dX3_takeLetters_64 rfl (lv_at hl 3 rfl) ?_
          refine lv_iload hx hb dX3_takeLetters_65 (lv_at hl 0 rfl) ?_
          refine lv_bipush (v := zI 8) hx hb dX3_takeLetters_67 (by decide) ?_
          refine zv_icmp_le (tgt := 76) hx hb dX3_takeLetters_69 (by decide) (by omega) (by decide) (fun c12 => ?_) (fun c12 => ?_)
          · refine lv_iload hx hb dX3_takeLetters_76 (lv_at hl 0 rfl) ?_
            refine lv_iconst (v := zI 4) hx hb dX3_takeLetters_78 rfl ?_
            refine zv_icmp_le (tgt := 86) hx hb dX3_takeLetters_79 (by decide) (by omega) (by decide) (fun c13 => ?_) (fun c13 => ?_)
            · refine lv_lload_n hx hb dX3_takeLetters_86 rfl (lv_at hl 2 rfl) ?_
              have h44 := p256_4 (k := i - tk_at) (by omega)
              have hC4 := hc (by omega)
              refine zv_l2i hx hb dX3_takeLetters_87 (by omega) ?_
              have hPc := hP.sub (ws' := []) [] rfl
              have hDc := hD.sub (ws' := []) [] (by decide) rfl
              have hKc := hK.sub (tys' := []) [] rfl
              have hFc := va_free (wc := []) hD hS hA [] rfl
              refine va_calli (va_runS (As := [.int (zI lt_)]) (rest := [.ref tk]) ⟨hx, hb, hml, hown, hg⟩ (c_X3_keywordOrName l dC dI H.size lt_ (by omega)) (va_cwS 1 hg gc_X3_61 rfl rfl rfl (by decide +kernel) ⟨Nat.le_of_ble_eq_true rfl, Nat.le_of_ble_eq_true rfl⟩) ⟨fun a U g mk q => by obtain ⟨q0, q1, qP, qK, qD⟩ := q; exact ⟨q0, q1, qP, va_K.moved (u := U) (U := U.calling g mk a) (Vm.Alike.refl U.vm) qK, qD⟩, fun U hU hW => ⟨rfl, by rw [hU], by rw [hU]; exact hPc, va_K.moved hW.alike hKc, hDc.weaken (fun _ _ _ _ => trivial)⟩⟩ rfl rfl hl.1 rfl (lv_room (Nat.le_of_ble_eq_true rfl)) dX3_takeLetters_88 ⟨Nat.le_of_ble_eq_true rfl, Nat.le_of_ble_eq_true rfl⟩) hS (fun q _ h => hFc q h) hFc (fun r14 u14 t H1 locs ht hvm hw14 hB hz1 hk1 hS => ?_)
              obtain ⟨hP1, hK1, hD1⟩ := hB
              rw [ht] at hP1
              have hK1 := va_K.moved hvm.symm hK1
              obtain ⟨hP, hD⟩ := va_join (wr := [(tk, .inr (3, [.ref tp, .int (zI tk_size), .int (zI i), .int (zI tk_kind), .int (zI tk_at), .long (lI lt_), .long (lI tk_number)])), (tp, .inl (cB, 3000, .inl (zF tx)))]) (w1 := []) hP hD [] [0, 1] rfl rfl (by decide) (by decide) hk1 hFc hP1 hD1
              have hK := (hK.sub (tys' := [(cB, .byte)]) [0] rfl).app hK1
              generalize H1 = H at hP hS ⊢
              have hP : va_P (dC, dI) vwCl [(tk, .inr (3, [.ref tp, .int (zI tk_size), .int (zI i), .int (zI tk_kind), .int (zI tk_at), .long (lI lt_), .long (lI tk_number)])), (tp, .inl (cB, 3000, .inl (zF tx)))] H := hP
              have hD : va_D A [(tk, .inr (3, [.ref tp, .int (zI tk_size), .int (zI i), .int (zI tk_kind), .int (zI tk_at), .long (lI lt_), .long (lI tk_number)])), (tp, .inl (cB, 3000, .inl (zF tx)))] := hD
              have hK : va_K (dC, dI) vwCl [(cB, .byte)] s := hK
              obtain rfl : r14 = zI (kKw lt_) := hw14
              refine va_put (D := (dC, dI)) (ci := 3) (v := .int (zI (kKw lt_))) (ty := .int) (C := RX3) (T := TX3) (N := 7) hx hb hg inG_X3 tyX3 tyX3_ok nmX3 hown hK hP hD hS 0 rfl rfl 3 (by decide) (hg (.fieldLink RX3 18 "AttributeDesk$Tokens" "kind" "I") gw_1_163) (fun _ h9 => h9) rfl (by decide +kernel) rfl rfl (Nat.le_of_ble_eq_true rfl) dX3_takeLetters_91 (fun H locs hP hD hS => ?_)
              have hP : va_P (dC, dI) vwCl [(tk, .inr (3, [.ref tp, .int (zI tk_size), .int (zI i), .int (zI (kKw lt_)), .int (zI tk_at), .long (lI lt_), .long (lI tk_number)])), (tp, .inl (cB, 3000, .inl (zF tx)))] H := hP
              have hD : va_D A [(tk, .inr (3, [.ref tp, .int (zI tk_size), .int (zI i), .int (zI (kKw lt_)), .int (zI tk_at), .long (lI lt_), .long (lI tk_number)])), (tp, .inl (cB, 3000, .inl (zF tx)))] := hD
              have q15 : (kRun isLt tx tk_size tk_at) = i := by omega
              have hP9 : va_P (dC, dI) vwCl [(tk, .inr (3, [.ref tp, .int (zI tk_size), .int (zI (kRun isLt tx tk_size tk_at)), .int (zI (kKw lt_)), .int (zI tk_at), .long (lI lt_), .long (lI tk_number)])), (tp, .inl (cB, 3000, .inl (zF tx)))] H := by rw [q15]; exact hP.sub (ws' := [(tk, .inr (3, [.ref tp, .int (zI tk_size), .int (zI i), .int (zI (kKw lt_)), .int (zI tk_at), .long (lI lt_), .long (lI tk_number)])), (tp, .inl (cB, 3000, .inl (zF tx)))]) [0, 1] rfl
              have hD9 : va_D A [(tk, .inr (3, [.ref tp, .int (zI tk_size), .int (zI (kRun isLt tx tk_size tk_at)), .int (zI (kKw lt_)), .int (zI tk_at), .long (lI lt_), .long (lI tk_number)])), (tp, .inl (cB, 3000, .inl (zF tx)))] := by rw [q15]; exact hD.sub (ws' := [(tk, .inr (3, [.ref tp, .int (zI tk_size), .int (zI i), .int (zI (kKw lt_)), .int (zI tk_at), .long (lI lt_), .long (lI tk_number)])), (tp, .inl (cB, 3000, .inl (zF tx)))]) [0, 1] (by decide) rfl
              have hK9 := hK.sub (tys' := [(cB, .byte)]) [0] rfl
              subst hQ
              exact W.vret hx hb hr (fun t ht hW => ⟨⟨(), rfl, trivial, (kKw lt_), lt_, (by unfold kLk; rw [if_neg (by omega), if_neg (by omega), hV (by omega)]), (fun h => (hV (by omega)).symm), (by omega), by rw [ht]; exact hP9, va_K.moved hW.alike hK9, hD9⟩, hS.F ht⟩) hS.2.2 dX3_takeLetters_94
            · refine lv_iconst (v := zI 1) hx hb dX3_takeLetters_82 rfl ?_
              refine lv_goto (tgt := 91) hx hb dX3_takeLetters_83 (by decide) ?_
              refine va_put (D := (dC, dI)) (ci := 3) (v := .int (zI 1)) (ty := .int) (C := RX3) (T := TX3) (N := 7) hx hb hg inG_X3 tyX3 tyX3_ok nmX3 hown hK hP hD hS 0 rfl rfl 3 (by decide) (hg (.fieldLink RX3 18 "AttributeDesk$Tokens" "kind" "I") gw_1_163) (fun _ h9 => h9) rfl (by decide +kernel) rfl rfl (Nat.le_of_ble_eq_true rfl) dX3_takeLetters_91 (fun H locs hP hD hS => ?_)
              have hP : va_P (dC, dI) vwCl [(tk, .inr (3, [.ref tp, .int (zI tk_size), .int (zI i), .int (zI 1), .int (zI tk_at), .long (lI lt_), .long (lI tk_number)])), (tp, .inl (cB, 3000, .inl (zF tx)))] H := hP
              have hD : va_D A [(tk, .inr (3, [.ref tp, .int (zI tk_size), .int (zI i), .int (zI 1), .int (zI tk_at), .long (lI lt_), .long (lI tk_number)])), (tp, .inl (cB, 3000, .inl (zF tx)))] := hD
              have q16 : (kRun isLt tx tk_size tk_at) = i := by omega
              have hP9 : va_P (dC, dI) vwCl [(tk, .inr (3, [.ref tp, .int (zI tk_size), .int (zI (kRun isLt tx tk_size tk_at)), .int (zI 1), .int (zI tk_at), .long (lI lt_), .long (lI tk_number)])), (tp, .inl (cB, 3000, .inl (zF tx)))] H := by rw [q16]; exact hP.sub (ws' := [(tk, .inr (3, [.ref tp, .int (zI tk_size), .int (zI i), .int (zI 1), .int (zI tk_at), .long (lI lt_), .long (lI tk_number)])), (tp, .inl (cB, 3000, .inl (zF tx)))]) [0, 1] rfl
              have hD9 : va_D A [(tk, .inr (3, [.ref tp, .int (zI tk_size), .int (zI (kRun isLt tx tk_size tk_at)), .int (zI 1), .int (zI tk_at), .long (lI lt_), .long (lI tk_number)])), (tp, .inl (cB, 3000, .inl (zF tx)))] := by rw [q16]; exact hD.sub (ws' := [(tk, .inr (3, [.ref tp, .int (zI tk_size), .int (zI i), .int (zI 1), .int (zI tk_at), .long (lI lt_), .long (lI tk_number)])), (tp, .inl (cB, 3000, .inl (zF tx)))]) [0, 1] (by decide) rfl
              have hK9 := hK.sub (tys' := [(cB, .byte)]) [0] rfl
              subst hQ
              exact W.vret hx hb hr (fun t ht hW => ⟨⟨(), rfl, trivial, 1, lt_, (by unfold kLk; rw [if_neg (by omega), if_pos (by omega)]), (fun h => (hV (by omega)).symm), (by omega), by rw [ht]; exact hP9, va_K.moved hW.alike hK9, hD9⟩, hS.F ht⟩) hS.2.2 dX3_takeLetters_94
          · refine lv_iconst (v := zI (-1)) hx hb dX3_takeLetters_72 rfl ?_
            refine lv_goto (tgt := 91) hx hb dX3_takeLetters_73 (by decide) ?_
            refine va_put (D := (dC, dI)) (ci := 3) (v := .int (zI (-1))) (ty := .int) (C := RX3) (T := TX3) (N := 7) hx hb hg inG_X3 tyX3 tyX3_ok nmX3 hown hK hP hD hS 0 rfl rfl 3 (by decide) (hg (.fieldLink RX3 18 "AttributeDesk$Tokens" "kind" "I") gw_1_163) (fun _ h9 => h9) rfl (by decide +kernel) rfl rfl (Nat.le_of_ble_eq_true rfl) dX3_takeLetters_91 (fun H locs hP hD hS => ?_)
            have hP : va_P (dC, dI) vwCl [(tk, .inr (3, [.ref tp, .int (zI tk_size), .int (zI i), .int (zI (-1)), .int (zI tk_at), .long (lI lt_), .long (lI tk_number)])), (tp, .inl (cB, 3000, .inl (zF tx)))] H := hP
            have hD : va_D A [(tk, .inr (3, [.ref tp, .int (zI tk_size), .int (zI i), .int (zI (-1)), .int (zI tk_at), .long (lI lt_), .long (lI tk_number)])), (tp, .inl (cB, 3000, .inl (zF tx)))] := hD
            have q17 : (kRun isLt tx tk_size tk_at) = i := by omega
            have hP9 : va_P (dC, dI) vwCl [(tk, .inr (3, [.ref tp, .int (zI tk_size), .int (zI (kRun isLt tx tk_size tk_at)), .int (zI (-1)), .int (zI tk_at), .long (lI lt_), .long (lI tk_number)])), (tp, .inl (cB, 3000, .inl (zF tx)))] H := by rw [q17]; exact hP.sub (ws' := [(tk, .inr (3, [.ref tp, .int (zI tk_size), .int (zI i), .int (zI (-1)), .int (zI tk_at), .long (lI lt_), .long (lI tk_number)])), (tp, .inl (cB, 3000, .inl (zF tx)))]) [0, 1] rfl
            have hD9 : va_D A [(tk, .inr (3, [.ref tp, .int (zI tk_size), .int (zI (kRun isLt tx tk_size tk_at)), .int (zI (-1)), .int (zI tk_at), .long (lI lt_), .long (lI tk_number)])), (tp, .inl (cB, 3000, .inl (zF tx)))] := by rw [q17]; exact hD.sub (ws' := [(tk, .inr (3, [.ref tp, .int (zI tk_size), .int (zI i), .int (zI (-1)), .int (zI tk_at), .long (lI lt_), .long (lI tk_number)])), (tp, .inl (cB, 3000, .inl (zF tx)))]) [0, 1] (by decide) rfl
            have hK9 := hK.sub (tys' := [(cB, .byte)]) [0] rfl
            subst hQ
            exact W.vret hx hb hr (fun t ht hW => ⟨⟨(), rfl, trivial, (-1), lt_, (by unfold kLk; rw [if_pos (by omega)]), (fun h => (hV (by omega)).symm), (by omega), by rw [ht]; exact hP9, va_K.moved hW.alike hK9, hD9⟩, hS.F ht⟩) hS.2.2 dX3_takeLetters_94
        · rcases Int.lt_or_le (i - tk_at) (8) with h8 | h8
          · have hLt : isLt (tx i) = true := isLt_t.mpr (by omega)
            refine lv_lload_n hx hb dX3_takeLetters_27 rfl (lv_at hl 1 rfl) ?_
            refine lv_bipush (v := zI 8) hx hb dX3_takeLetters_28 (by decide) ?_
            have hC7 := hc (by omega)
            have h77 := p256_7 (k := i - tk_at) (by omega)
            refine lv_lshl (v := lI (256 * lt_)) hx hb dX3_takeLetters_30 (lI_shl8 (by omega)) ?_
            refine lv_aload_n hx hb dX3_takeLetters_31 rfl (lv_at hl 2 rfl) ?_
            refine va_get (D := (dC, dI)) (ci := 3) (v := .ref tp) (C := RX3) (T := TX3) (N := 7) hx hb hg inG_X3 hown hK hP 0 rfl rfl 0 (by decide) (hg (.fieldLink RX3 31 "AttributeDesk$Tokens" "text" "[B") gw_1_160) (fun _ h9 => h9) rfl dX3_takeLetters_32 ?_
            refine lv_iload_n hx hb dX3_takeLetters_35 rfl (lv_at hl 0 rfl) ?_
            refine zv_bald (D := (dC, dI)) hx hb hK hP 1 0 rfl rfl (by omega) (Nat.le_of_ble_eq_true rfl) dX3_takeLetters_36 ?_
            have hv18 := hTx i (by omega)
            refine zv_i2l hx hb dX3_takeLetters_37 (by omega) ?_
            refine lv_lor hx hb dX3_takeLetters_38 ?_
            rw [lI_or8 (by omega) (by omega)]
            refine lv_lstore_n (lv' := [(1, .long (lI (256 * lt_ + (tx i)))), (3, .int (zI i)), (0, .ref tk)]) hx hb dX3_takeLetters_39 rfl hl (by decide) rfl (fun ls hl => ?_)
            refine lv_iinc (v := zI (i + 1)) (lv' := [(3, .int (zI (i + 1))), (1, .long (lI (256 * lt_ + (tx i)))), (0, .ref tk)]) hx hb dX3_takeLetters_40 hl (k := 1) rfl (zI_inc (1) (by omega)) (by decide) rfl (fun ls hl => ?_)
            refine lv_goto (tgt := 7) hx hb dX3_takeLetters_43 (by decide) ?_
            exact ih7 (i + 1) (256 * lt_ + (tx i)) (by omega) (by omega) (fun _ => ⟨by omega, by rw [show i + 1 - tk_at = (i - tk_at) + 1 by omega, p256_s (by omega)]; omega, hC7.2.2.trans (kCv_t (by omega) hLt)⟩) (hr_.trans (kRun_t (by omega) hLt)) (by omega) _ _ hP hD hS _ (lv_sub hl [0, 1, 2] rfl)
          · have hLt : isLt (tx i) = true := isLt_t.mpr (by omega)
            refine lv_lload_n hx hb dX3_takeLetters_27 rfl (lv_at hl 1 rfl) ?_
            refine lv_bipush (v := zI 8) hx hb dX3_takeLetters_28 (by decide) ?_
            refine lv_lshl hx hb dX3_takeLetters_30 rfl ?_
            refine zv_anyL (fun a19 ha19 ea19 => ?_)
            refine lv_aload_n hx hb dX3_takeLetters_31 rfl (lv_at hl 2 rfl) ?_
            refine va_get (D := (dC, dI)) (ci := 3) (v := .ref tp) (C := RX3) (T := TX3) (N := 7) hx hb hg inG_X3 hown hK hP 0 rfl rfl 0 (by decide) (hg (.fieldLink RX3 31 "AttributeDesk$Tokens" "text" "[B") gw_1_160) (fun _ h9 => h9) rfl dX3_takeLetters_32 ?_
            refine lv_iload_n hx hb dX3_takeLetters_35 rfl (lv_at hl 0 rfl) ?_
            refine zv_bald (D := (dC, dI)) hx hb hK hP 1 0 rfl rfl (by omega) (Nat.le_of_ble_eq_true rfl) dX3_takeLetters_36 ?_
            have hv20 := hTx i (by omega)
            refine zv_i2l hx hb dX3_takeLetters_37 (by omega) ?_
            refine lv_lor hx hb dX3_takeLetters_38 ?_
            refine zv_anyL (fun a21 ha21 ea21 => ?_)
            refine lv_lstore_n (lv' := [(1, .long (lI a21)), (3, .int (zI i)), (0, .ref tk)]) hx hb dX3_takeLetters_39 rfl hl (by decide) rfl (fun ls hl => ?_)
            refine lv_iinc (v := zI (i + 1)) (lv' := [(3, .int (zI (i + 1))), (1, .long (lI a21)), (0, .ref tk)]) hx hb dX3_takeLetters_40 hl (k := 1) rfl (zI_inc (1) (by omega)) (by decide) rfl (fun ls hl => ?_)
            refine lv_goto (tgt := 7) hx hb dX3_takeLetters_43 (by decide) ?_
            exact ih7 (i + 1) a21 (by omega) (by omega) (fun h => by omega) (hr_.trans (kRun_t (by omega) hLt)) (by omega) _ _ hP hD hS _ (lv_sub hl [0, 1, 2] rfl)
  exact lp7 ((tk_size - tk_at : Int).toNat + 1) tk_at 0 (by omega) (by omega) (fun _ => ⟨by omega, by rw [show tk_at - tk_at = 0 by omega, p256_0]; omega, rfl⟩) rfl (by omega) _ _ hP hD hS _ (lv_sub hl [0, 1, 2] rfl)

set_option maxHeartbeats 4000000 in
set_option maxRecDepth 100000 in
theorem c_X3_takeDigits (l : Launch) (dC : Nat → ClassId) (dI : Nat → Nat → Nat) (tk tp : Nat) (cB : ClassId) (sz : Nat) (tk_size : Int) (tk_behind : Int) (tk_kind : Int) (tk_at : Int) (tk_name : Int) (tk_number : Int) (tx : Int → Int) (hTx : ∀ j : Int, 0 ≤ j ∧ j < 3000 → -128 ≤ tx j ∧ tx j < 128) (hf : 0 ≤ tk_at ∧ tk_at ≤ tk_size) (hs : tk_size ≤ 3000) : Met l yX3_takeDigits wyX3_takeDigits ({ frames := 1, cells := 0, slots := 0, locals := 20 }) (va_Pc [.ref tk] (fun U => U.heap.size = sz ∧ va_P (dC, dI) vwCl [(tk, .inr (3, [.ref tp, .int (zI tk_size), .int (zI tk_behind), .int (zI tk_kind), .int (zI tk_at), .long (lI tk_name), .long (lI tk_number)])), (tp, .inl (cB, 3000, .inl (zF tx)))] U.heap ∧ va_K (dC, dI) vwCl [(cB, .byte)] U ∧ va_D (fun _ => True) [(tk, .inr (3, [.ref tp, .int (zI tk_size), .int (zI tk_behind), .int (zI tk_kind), .int (zI tk_at), .long (lI tk_name), .long (lI tk_number)])), (tp, .inl (cB, 3000, .inl (zF tx)))])) (va_Qv (fun _ : Unit => True) (fun _ t => (0 ≤ kDv tx tk_size tk_at 0 ∧ kDv tx tk_size tk_at 0 ≤ 21474836479) ∧ va_P (dC, dI) vwCl [(tk, .inr (3, [.ref tp, .int (zI tk_size), .int (zI (kRun isDg tx tk_size tk_at)), .int (zI 2), .int (zI tk_at), .long (lI tk_name), .long (lI (kDv tx tk_size tk_at 0))])), (tp, .inl (cB, 3000, .inl (zF tx)))] t.heap ∧ va_K (dC, dI) vwCl [(cB, .byte)] t ∧ va_D (va_A [(tk, .inr (3, [.ref tp, .int (zI tk_size), .int (zI tk_behind), .int (zI tk_kind), .int (zI tk_at), .long (lI tk_name), .long (lI tk_number)])), (tp, .inl (cB, 3000, .inl (zF tx)))] sz) [(tk, .inr (3, [.ref tp, .int (zI tk_size), .int (zI (kRun isDg tx tk_size tk_at)), .int (zI 2), .int (zI tk_at), .long (lI tk_name), .long (lI (kDv tx tk_size tk_at 0))])), (tp, .inl (cB, 3000, .inl (zF tx)))]) (va_A [(tk, .inr (3, [.ref tp, .int (zI tk_size), .int (zI tk_behind), .int (zI tk_kind), .int (zI tk_at), .long (lI tk_name), .long (lI tk_number)])), (tp, .inl (cB, 3000, .inl (zF tx)))] sz)) 0 0 (va_A [(tk, .inr (3, [.ref tp, .int (zI tk_size), .int (zI tk_behind), .int (zI tk_kind), .int (zI tk_at), .long (lI tk_name), .long (lI tk_number)])), (tp, .inl (cB, 3000, .inl (zF tx)))] sz) := by
  refine Met.ofW (cc := cX3_takeDigits) (maxL := 4) (ret := none) (by decide) rfl ?_
  intro p e s m args below meth c s₁ B hml hv
  obtain ⟨rfl, hsz, hP, hK, hD0⟩ := hv
  have hx := B.exec
  have hb := B.bytes
  have hr := B.returns
  have hts := atoms_spec (ws := wyX3_takeDigits) B.pre
  have hg : ∀ w ∈ lw_G, w.before _ s = true := fun w h => hts w (List.mem_cons_of_mem _ h)
  have hown : s.vm.findClass RX3 = some m.cls := findClass_of_methodNamed B.named
  have hlocks := B.notSynchronized
  subst hsz
  have hD := hD0.self (sz := s.heap.size)
  generalize hAe : va_A [(tk, .inr (3, [.ref tp, .int (zI tk_size), .int (zI tk_behind), .int (zI tk_kind), .int (zI tk_at), .long (lI tk_name), .long (lI tk_number)])), (tp, .inl (cB, 3000, .inl (zF tx)))] s.heap.size = A at hD ⊢
  have hA : ∀ q : Nat, s.heap.size ≤ q → A q := fun q h => by rw [← hAe]; exact Or.inr h
  have hS : va_S A s.heap s.heap [] := va_S.rf
  have hP : va_P (dC, dI) vwCl [(tk, .inr (3, [.ref tp, .int (zI tk_size), .int (zI tk_behind), .int (zI tk_kind), .int (zI tk_at), .long (lI tk_name), .long (lI tk_number)])), (tp, .inl (cB, 3000, .inl (zF tx)))] s.heap := hP
  have hl := lv_entry ([.ref tk]) (n := 4) (Nat.le_of_ble_eq_true rfl)
  rw [lg_entry_eq]
  generalize (lg_sl ([.ref tk]) ++ List.replicate (4 - (lg_sl ([.ref tk])).length) Slot.unset).toArray = ls at hl ⊢
  have hl : lv_has ls 4 [(0, .ref tk)] := hl
  refine zv_q (fun Q hQ => ?_)
  refine lv_lconst (v := lI 0) hx hb dX3_takeDigits_0 rfl ?_
  refine lv_lstore_n (lv' := [(1, .long (lI 0)), (0, .ref tk)]) hx hb dX3_takeDigits_1 rfl hl (by decide) rfl (fun ls hl => ?_)
  refine lv_aload_n hx hb dX3_takeDigits_2 rfl (lv_at hl 1 rfl) ?_
  refine va_get (D := (dC, dI)) (ci := 3) (v := .int (zI tk_at)) (C := RX3) (T := TX3) (N := 7) hx hb hg inG_X3 hown hK hP 0 rfl rfl 4 (by decide) (hg (.fieldLink RX3 21 "AttributeDesk$Tokens" "at" "I") gw_1_167) (fun _ h9 => h9) rfl dX3_takeDigits_3 ?_
  refine lv_istore_n (lv' := [(3, .int (zI tk_at)), (1, .long (lI 0)), (0, .ref tk)]) hx hb dX3_takeDigits_6 rfl hl (by decide) rfl (fun ls hl => ?_)
  have lp7 : ∀ (n : Nat) (i : Int) (dv_ : Int), (tk_at ≤ i ∧ i ≤ tk_size) → (0 ≤ dv_ ∧ dv_ ≤ 21474836479) → (kDv tx tk_size tk_at 0 = kDv tx tk_size i dv_) → (kRun isDg tx tk_size tk_at = kRun isDg tx tk_size i) → tk_size - i < (n : Int) → ∀ (H : Heap) (locs : List Loc), va_P (dC, dI) vwCl [(tk, .inr (3, [.ref tp, .int (zI tk_size), .int (zI tk_behind), .int (zI tk_kind), .int (zI tk_at), .long (lI tk_name), .long (lI tk_number)])), (tp, .inl (cB, 3000, .inl (zF tx)))] H → va_D A [(tk, .inr (3, [.ref tp, .int (zI tk_size), .int (zI tk_behind), .int (zI tk_kind), .int (zI tk_at), .long (lI tk_name), .long (lI tk_number)])), (tp, .inl (cB, 3000, .inl (zF tx)))] → va_S A s.heap H locs → ∀ (ls : Array Slot), lv_has ls 4 [(3, .int (zI i)), (1, .long (lI dv_)), (0, .ref tk)] → W p l e ({ frames := 1, cells := 0, slots := 0, locals := 20 } : Room) s m ([.ref tk] : List Value).toArray below meth c H locs 0 0 Q (F0 m 7 ls []) := by
    intro n
    induction n with
    | zero => intro i dv_ hi hv hd_ hr_ hM; exact absurd hM (by omega)
    | succ n ih7 =>
      intro i dv_ hi hv hd_ hr_ hM7 H locs hP hD hS ls hl
      refine lv_iload_n hx hb dX3_takeDigits_7 rfl (lv_at hl 0 rfl) ?_
      refine lv_aload_n hx hb dX3_takeDigits_8 rfl (lv_at hl 2 rfl) ?_
      refine va_get (D := (dC, dI)) (ci := 3) (v := .int (zI tk_size)) (C := RX3) (T := TX3) (N := 7) hx hb hg inG_X3 hown hK hP 0 rfl rfl 1 (by decide) (hg (.fieldLink RX3 9 "AttributeDesk$Tokens" "size" "I") gw_1_161) (fun _ h9 => h9) rfl dX3_takeDigits_9 ?_
      refine zv_icmp_ge (tgt := 58) hx hb dX3_takeDigits_12 (by decide) (by omega) (by omega) (fun c1 => ?_) (fun c1 => ?_)
      · have hE : kRun isDg tx tk_size tk_at = i := hr_.trans (kRun_f (fun h => by have z := isDg_t.mp h.2; omega))
        have hV : kDv tx tk_size tk_at 0 = dv_ := hd_.trans (kDv_f (fun h => by have z := isDg_t.mp h.2; omega))
        refine lv_aload_n hx hb dX3_takeDigits_58 rfl (lv_at hl 2 rfl) ?_
        refine lv_iload_n hx hb dX3_takeDigits_59 rfl (lv_at hl 0 rfl) ?_
        refine va_put (D := (dC, dI)) (ci := 3) (v := .int (zI i)) (ty := .int) (C := RX3) (T := TX3) (N := 7) hx hb hg inG_X3 tyX3 tyX3_ok nmX3 hown hK hP hD hS 0 rfl rfl 2 (by decide) (hg (.fieldLink RX3 15 "AttributeDesk$Tokens" "behind" "I") gw_1_162) (fun _ h9 => h9) rfl (by decide +kernel) rfl rfl (Nat.le_of_ble_eq_true rfl) dX3_takeDigits_60 (fun H locs hP hD hS => ?_)
        have hP : va_P (dC, dI) vwCl [(tk, .inr (3, [.ref tp, .int (zI tk_size), .int (zI i), .int (zI tk_kind), .int (zI tk_at), .long (lI tk_name), .long (lI tk_number)])), (tp, .inl (cB, 3000, .inl (zF tx)))] H := hP
        have hD : va_D A [(tk, .inr (3, [.ref tp, .int (zI tk_size), .int (zI i), .int (zI tk_kind), .int (zI tk_at), .long (lI tk_name), .long (lI tk_number)])), (tp, .inl (cB, 3000, .inl (zF tx)))] := hD
        refine lv_aload_n hx hb dX3_takeDigits_63 rfl (lv_at hl 2 rfl) ?_
        refine lv_lload_n hx hb dX3_takeDigits_64 rfl (lv_at hl 1 rfl) ?_
        refine va_put (D := (dC, dI)) (ci := 3) (v := .long (lI dv_)) (ty := .long) (C := RX3) (T := TX3) (N := 7) hx hb hg inG_X3 tyX3 tyX3_ok nmX3 hown hK hP hD hS 0 rfl rfl 6 (by decide) (hg (.fieldLink RX3 28 "AttributeDesk$Tokens" "number" "J") gw_1_173) (fun _ h9 => h9) rfl (by decide +kernel) rfl rfl (Nat.le_of_ble_eq_true rfl) dX3_takeDigits_65 (fun H locs hP hD hS => ?_)
        have hP : va_P (dC, dI) vwCl [(tk, .inr (3, [.ref tp, .int (zI tk_size), .int (zI i), .int (zI tk_kind), .int (zI tk_at), .long (lI tk_name), .long (lI dv_)])), (tp, .inl (cB, 3000, .inl (zF tx)))] H := hP
        have hD : va_D A [(tk, .inr (3, [.ref tp, .int (zI tk_size), .int (zI i), .int (zI tk_kind), .int (zI tk_at), .long (lI tk_name), .long (lI dv_)])), (tp, .inl (cB, 3000, .inl (zF tx)))] := hD
        refine lv_aload_n hx hb dX3_takeDigits_68 rfl (lv_at hl 2 rfl) ?_
        refine lv_iconst (v := zI 2) hx hb dX3_takeDigits_69 rfl ?_
        refine va_put (D := (dC, dI)) (ci := 3) (v := .int (zI 2)) (ty := .int) (C := RX3) (T := TX3) (N := 7) hx hb hg inG_X3 tyX3 tyX3_ok nmX3 hown hK hP hD hS 0 rfl rfl 3 (by decide) (hg (.fieldLink RX3 18 "AttributeDesk$Tokens" "kind" "I") gw_1_163) (fun _ h9 => h9) rfl (by decide +kernel) rfl rfl (Nat.le_of_ble_eq_true rfl) dX3_takeDigits_70 (fun H locs hP hD hS => ?_)
        have hP : va_P (dC, dI) vwCl [(tk, .inr (3, [.ref tp, .int (zI tk_size), .int (zI i), .int (zI 2), .int (zI tk_at), .long (lI tk_name), .long (lI dv_)])), (tp, .inl (cB, 3000, .inl (zF tx)))] H := hP
        have hD : va_D A [(tk, .inr (3, [.ref tp, .int (zI tk_size), .int (zI i), .int (zI 2), .int (zI tk_at), .long (lI tk_name), .long (lI dv_)])), (tp, .inl (cB, 3000, .inl (zF tx)))] := hD
        have q2 : (kRun isDg tx tk_size tk_at) = i := by omega
        have q3 : (kDv tx tk_size tk_at 0) = dv_ := by omega
        have hP9 : va_P (dC, dI) vwCl [(tk, .inr (3, [.ref tp, .int (zI tk_size), .int (zI (kRun isDg tx tk_size tk_at)), .int (zI 2), .int (zI tk_at), .long (lI tk_name), .long (lI (kDv tx tk_size tk_at 0))])), (tp, .inl (cB, 3000, .inl (zF tx)))] H := by rw [q2, q3]; exact hP.sub (ws' := [(tk, .inr (3, [.ref tp, .int (zI tk_size), .int (zI i), .int (zI 2), .int (zI tk_at), .long (lI tk_name), .long (lI dv_)])), (tp, .inl (cB, 3000, .inl (zF tx)))]) [0, 1] rfl
        have hD9 : va_D A [(tk, .inr (3, [.ref tp, .int (zI tk_size), .int (zI (kRun isDg tx tk_size tk_at)), .int (zI 2), .int (zI tk_at), .long (lI tk_name), .long (lI (kDv tx tk_size tk_at 0))])), (tp, .inl (cB, 3000, .inl (zF tx)))] := by rw [q2, q3]; exact hD.sub (ws' := [(tk, .inr (3, [.ref tp, .int (zI tk_size), .int (zI i), .int (zI 2), .int (zI tk_at), .long (lI tk_name), .long (lI dv_)])), (tp, .inl (cB, 3000, .inl (zF tx)))]) [0, 1] (by decide) rfl
        have hK9 := hK.sub (tys' := [(cB, .byte)]) [0] rfl
        subst hQ
        exact W.vret hx hb hr (fun t ht hW => ⟨⟨(), rfl, trivial, (by omega), by rw [ht]; exact hP9, va_K.moved hW.alike hK9, hD9⟩, hS.F ht⟩) hS.2.2 dX3_takeDigits_73
      · refine lv_aload_n hx hb dX3_takeDigits_15 rfl (lv_at hl 2 rfl) ?_
        refine va_get (D := (dC, dI)) (ci := 3) (v := .ref tp) (C := RX3) (T := TX3) (N := 7) hx hb hg inG_X3 hown hK hP 0 rfl rfl 0 (by decide) (hg (.fieldLink RX3 31 "AttributeDesk$Tokens" "text" "[B") gw_1_160) (fun _ h9 => h9) rfl dX3_takeDigits_16 ?_
        refine lv_iload_n hx hb dX3_takeDigits_19 rfl (lv_at hl 0 rfl) ?_
        refine zv_bald (D := (dC, dI)) hx hb hK hP 1 0 rfl rfl (by omega) (Nat.le_of_ble_eq_true rfl) dX3_takeDigits_20 ?_
        have hv4 := hTx i (by omega)
        have hPc := hP.sub (ws' := []) [] rfl
        have hDc := hD.sub (ws' := []) [] (by decide) rfl
        have hKc := hK.sub (tys' := []) [] rfl
        have hFc := va_free (wc := []) hD hS hA [] rfl
        refine va_calli (va_runS (As := [.int (zI (tx i))]) (rest := []) ⟨hx, hb, hml, hown, hg⟩ (c_X3_isDigit l dC dI H.size (tx i) (by omega)) (va_cwS 1 hg gc_X3_52 rfl rfl rfl (by decide +kernel) ⟨Nat.le_of_ble_eq_true rfl, Nat.le_of_ble_eq_true rfl⟩) ⟨fun a U g mk q => by obtain ⟨q0, q1, qP, qK, qD⟩ := q; exact ⟨q0, q1, qP, va_K.moved (u := U) (U := U.calling g mk a) (Vm.Alike.refl U.vm) qK, qD⟩, fun U hU hW => ⟨rfl, by rw [hU], by rw [hU]; exact hPc, va_K.moved hW.alike hKc, hDc.weaken (fun _ _ _ _ => trivial)⟩⟩ rfl rfl hl.1 rfl (lv_room (Nat.le_of_ble_eq_true rfl)) dX3_takeDigits_21 ⟨Nat.le_of_ble_eq_true rfl, Nat.le_of_ble_eq_true rfl⟩) hS (fun q _ h => hFc q h) hFc (fun r5 u5 t H1 locs ht hvm hw5 hB hz1 hk1 hS => ?_)
        obtain ⟨p0_6, hP1, hK1, hD1⟩ := hB
        rw [ht] at hP1
        have hK1 := va_K.moved hvm.symm hK1
        obtain ⟨hP, hD⟩ := va_join (wr := [(tk, .inr (3, [.ref tp, .int (zI tk_size), .int (zI tk_behind), .int (zI tk_kind), .int (zI tk_at), .long (lI tk_name), .long (lI tk_number)])), (tp, .inl (cB, 3000, .inl (zF tx)))]) (w1 := []) hP hD [] [0, 1] rfl rfl (by decide) (by decide) hk1 hFc hP1 hD1
        have hK := (hK.sub (tys' := [(cB, .byte)]) [0] rfl).app hK1
        generalize H1 = H at hP hS ⊢
        have hP : va_P (dC, dI) vwCl [(tk, .inr (3, [.ref tp, .int (zI tk_size), .int (zI tk_behind), .int (zI tk_kind), .int (zI tk_at), .long (lI tk_name), .long (lI tk_number)])), (tp, .inl (cB, 3000, .inl (zF tx)))] H := hP
        have hD : va_D A [(tk, .inr (3, [.ref tp, .int (zI tk_size), .int (zI tk_behind), .int (zI tk_kind), .int (zI tk_at), .long (lI tk_name), .long (lI tk_number)])), (tp, .inl (cB, 3000, .inl (zF tx)))] := hD
        have hK : va_K (dC, dI) vwCl [(cB, .byte)] s := hK
        obtain rfl : r5 = zI u5 := hw5
        refine zv_if_eq (tgt := 58) hx hb dX3_takeDigits_24 (by decide) (by omega) (fun c7 => ?_) (fun c7 => ?_)
        · have hE : kRun isDg tx tk_size tk_at = i := hr_.trans (kRun_f (fun h => by have z := isDg_t.mp h.2; omega))
          have hV : kDv tx tk_size tk_at 0 = dv_ := hd_.trans (kDv_f (fun h => by have z := isDg_t.mp h.2; omega))
          refine lv_aload_n hx hb dX3_takeDigits_58 rfl (lv_at hl 2 rfl) ?_
          refine lv_iload_n hx hb dX3_takeDigits_59 rfl (lv_at hl 0 rfl) ?_
          refine va_put (D := (dC, dI)) (ci := 3) (v := .int (zI i)) (ty := .int) (C := RX3) (T := TX3) (N := 7) hx hb hg inG_X3 tyX3 tyX3_ok nmX3 hown hK hP hD hS 0 rfl rfl 2 (by decide) (hg (.fieldLink RX3 15 "AttributeDesk$Tokens" "behind" "I") gw_1_162) (fun _ h9 => h9) rfl (by decide +kernel) rfl rfl (Nat.le_of_ble_eq_true rfl) dX3_takeDigits_60 (fun H locs hP hD hS => ?_)
          have hP : va_P (dC, dI) vwCl [(tk, .inr (3, [.ref tp, .int (zI tk_size), .int (zI i), .int (zI tk_kind), .int (zI tk_at), .long (lI tk_name), .long (lI tk_number)])), (tp, .inl (cB, 3000, .inl (zF tx)))] H := hP
          have hD : va_D A [(tk, .inr (3, [.ref tp, .int (zI tk_size), .int (zI i), .int (zI tk_kind), .int (zI tk_at), .long (lI tk_name), .long (lI tk_number)])), (tp, .inl (cB, 3000, .inl (zF tx)))] := hD
          refine lv_aload_n hx hb dX3_takeDigits_63 rfl (lv_at hl 2 rfl) ?_
          refine lv_lload_n hx hb dX3_takeDigits_64 rfl (lv_at hl 1 rfl) ?_
          refine va_put (D := (dC, dI)) (ci := 3) (v := .long (lI dv_)) (ty := .long) (C := RX3) (T := TX3) (N := 7) hx hb hg inG_X3 tyX3 tyX3_ok nmX3 hown hK hP hD hS 0 rfl rfl 6 (by decide) (hg (.fieldLink RX3 28 "AttributeDesk$Tokens" "number" "J") gw_1_173) (fun _ h9 => h9) rfl (by decide +kernel) rfl rfl (Nat.le_of_ble_eq_true rfl) dX3_takeDigits_65 (fun H locs hP hD hS => ?_)
          have hP : va_P (dC, dI) vwCl [(tk, .inr (3, [.ref tp, .int (zI tk_size), .int (zI i), .int (zI tk_kind), .int (zI tk_at), .long (lI tk_name), .long (lI dv_)])), (tp, .inl (cB, 3000, .inl (zF tx)))] H := hP
          have hD : va_D A [(tk, .inr (3, [.ref tp, .int (zI tk_size), .int (zI i), .int (zI tk_kind), .int (zI tk_at), .long (lI tk_name), .long (lI dv_)])), (tp, .inl (cB, 3000, .inl (zF tx)))] := hD
          refine lv_aload_n hx hb dX3_takeDigits_68 rfl (lv_at hl 2 rfl) ?_
          refine lv_iconst (v := zI 2) hx hb dX3_takeDigits_69 rfl ?_
          refine va_put (D := (dC, dI)) (ci := 3) (v := .int (zI 2)) (ty := .int) (C := RX3) (T := TX3) (N := 7) hx hb hg inG_X3 tyX3 tyX3_ok nmX3 hown hK hP hD hS 0 rfl rfl 3 (by decide) (hg (.fieldLink RX3 18 "AttributeDesk$Tokens" "kind" "I") gw_1_163) (fun _ h9 => h9) rfl (by decide +kernel) rfl rfl (Nat.le_of_ble_eq_true rfl) dX3_takeDigits_70 (fun H locs hP hD hS => ?_)
          have hP : va_P (dC, dI) vwCl [(tk, .inr (3, [.ref tp, .int (zI tk_size), .int (zI i), .int (zI 2), .int (zI tk_at), .long (lI tk_name), .long (lI dv_)])), (tp, .inl (cB, 3000, .inl (zF tx)))] H := hP
          have hD : va_D A [(tk, .inr (3, [.ref tp, .int (zI tk_size), .int (zI i), .int (zI 2), .int (zI tk_at), .long (lI tk_name), .long (lI dv_)])), (tp, .inl (cB, 3000, .inl (zF tx)))] := hD
          have q8 : (kRun isDg tx tk_size tk_at) = i := by omega
          have q9 : (kDv tx tk_size tk_at 0) = dv_ := by omega
          have hP9 : va_P (dC, dI) vwCl [(tk, .inr (3, [.ref tp, .int (zI tk_size), .int (zI (kRun isDg tx tk_size tk_at)), .int (zI 2), .int (zI tk_at), .long (lI tk_name), .long (lI (kDv tx tk_size tk_at 0))])), (tp, .inl (cB, 3000, .inl (zF tx)))] H := by rw [q8, q9]; exact hP.sub (ws' := [(tk, .inr (3, [.ref tp, .int (zI tk_size), .int (zI i), .int (zI 2), .int (zI tk_at), .long (lI tk_name), .long (lI dv_)])), (tp, .inl (cB, 3000, .inl (zF tx)))]) [0, 1] rfl
          have hD9 : va_D A [(tk, .inr (3, [.ref tp, .int (zI tk_size), .int (zI (kRun isDg tx tk_size tk_at)), .int (zI 2), .int (zI tk_at), .long (lI tk_name), .long (lI (kDv tx tk_size tk_at 0))])), (tp, .inl (cB, 3000, .inl (zF tx)))] := by rw [q8, q9]; exact hD.sub (ws' := [(tk, .inr (3, [.ref tp, .int (zI tk_size), .int (zI i), .int (zI 2), .int (zI tk_at), .long (lI tk_name), .long (lI dv_)])), (tp, .inl (cB, 3000, .inl (zF tx)))]) [0, 1] (by decide) rfl
          have hK9 := hK.sub (tys' := [(cB, .byte)]) [0] rfl
          subst hQ
          exact W.vret hx hb hr (fun t ht hW => ⟨⟨(), rfl, trivial, (by omega), by rw [ht]; exact hP9, va_K.moved hW.alike hK9, hD9⟩, hS.F ht⟩) hS.2.2 dX3_takeDigits_73
        · have hDg : isDg (tx i) = true := isDg_t.mpr (by omega)
          refine lv_lload_n hx hb dX3_takeDigits_27 rfl (lv_at hl 1 rfl) ?_
          refine lv_ldc2 (v := lI 2147483647) hx hb hown (hg (.constantLong RX3 64 (2147483647)) gw_3_16) dX3_takeDigits_28 ?_
          refine zv_lcmp hx hb dX3_takeDigits_31 (by omega) (by omega) (fun r10 hr10a hr10b hr10c hr10d => ?_)
          refine zv_if_gt (tgt := 52) hx hb dX3_takeDigits_32 (by decide) (by omega) (fun c11 => ?_) (fun c11 => ?_)
          · refine lv_iinc (v := zI (i + 1)) (lv' := [(3, .int (zI (i + 1))), (1, .long (lI dv_)), (0, .ref tk)]) hx hb dX3_takeDigits_52 hl (k := 0) rfl (zI_inc (1) (by omega)) (by decide) rfl (fun ls hl => ?_)
            refine lv_goto (tgt := 7) hx hb dX3_takeDigits_55 (by decide) ?_
            exact ih7 (i + 1) dv_ (by omega) (by omega) (hd_.trans ((kDv_t (by omega) hDg).trans (by rw [if_neg (by omega)]))) (hr_.trans (kRun_t (by omega) hDg)) (by omega) _ _ hP hD hS _ (lv_sub hl [0, 1, 2] rfl)
          · refine lv_lload_n hx hb dX3_takeDigits_35 rfl (lv_at hl 1 rfl) ?_
            refine lv_ldc2 (v := lI 10) hx hb hown (hg (.constantLong RX3 66 (10)) gw_3_17) dX3_takeDigits_36 ?_
            refine zv_lmul (r := 10 * dv_) hx hb dX3_takeDigits_39 (by omega) ?_
            refine lv_aload_n hx hb dX3_takeDigits_40 rfl (lv_at hl 2 rfl) ?_
            refine va_get (D := (dC, dI)) (ci := 3) (v := .ref tp) (C := RX3) (T := TX3) (N := 7) hx hb hg inG_X3 hown hK hP 0 rfl rfl 0 (by decide) (hg (.fieldLink RX3 31 "AttributeDesk$Tokens" "text" "[B") gw_1_160) (fun _ h9 => h9) rfl dX3_takeDigits_41 ?_
            refine lv_iload_n hx hb dX3_takeDigits_44 rfl (lv_at hl 0 rfl) ?_
            refine zv_bald (D := (dC, dI)) hx hb hK hP 1 0 rfl rfl (by omega) (Nat.le_of_ble_eq_true rfl) dX3_takeDigits_45 ?_
            have hv12 := hTx i (by omega)
            refine lv_bipush (v := zI 48) hx hb dX3_takeDigits_46 (by decide) ?_
            refine zv_isub (r := (tx i) - 48) hx hb dX3_takeDigits_48 (by omega) ?_
            refine zv_i2l hx hb dX3_takeDigits_49 (by omega) ?_
            refine zv_ladd (r := 10 * dv_ + (tx i) - 48) hx hb dX3_takeDigits_50 (by omega) ?_
            refine lv_lstore_n (lv' := [(1, .long (lI (10 * dv_ + (tx i) - 48))), (3, .int (zI i)), (0, .ref tk)]) hx hb dX3_takeDigits_51 rfl hl (by decide) rfl (fun ls hl => ?_)
            refine lv_iinc (v := zI (i + 1)) (lv' := [(3, .int (zI (i + 1))), (1, .long (lI (10 * dv_ + (tx i) - 48))), (0, .ref tk)]) hx hb dX3_takeDigits_52 hl (k := 1) rfl (zI_inc (1) (by omega)) (by decide) rfl (fun ls hl => ?_)
            refine lv_goto (tgt := 7) hx hb dX3_takeDigits_55 (by decide) ?_
            exact ih7 (i + 1) (10 * dv_ + (tx i) - 48) (by omega) (by omega) (hd_.trans ((kDv_t (by omega) hDg).trans (by rw [if_pos (by omega)]))) (hr_.trans (kRun_t (by omega) hDg)) (by omega) _ _ hP hD hS _ (lv_sub hl [0, 1, 2] rfl)
  exact lp7 ((tk_size - tk_at : Int).toNat + 1) tk_at 0 (by omega) (by omega) rfl rfl (by omega) _ _ hP hD hS _ (lv_sub hl [0, 1, 2] rfl)

set_option maxHeartbeats 4000000 in
set_option maxRecDepth 100000 in
theorem c_X3_begin (l : Launch) (dC : Nat → ClassId) (dI : Nat → Nat → Nat) (tk tp : Nat) (cB : ClassId) (sz : Nat) (tk_size : Int) (tk_behind : Int) (tk_kind : Int) (tk_at : Int) (tk_name : Int) (tk_number : Int) (tx : Int → Int) (ln_ : Int) (hn : 0 ≤ ln_ ∧ ln_ ≤ 3000) : Met l yX3_begin wyX3_begin ({ frames := 1, cells := 0, slots := 0, locals := 21 }) (va_Pc [.ref tk, .int (zI ln_)] (fun U => U.heap.size = sz ∧ va_P (dC, dI) vwCl [(tk, .inr (3, [.ref tp, .int (zI tk_size), .int (zI tk_behind), .int (zI tk_kind), .int (zI tk_at), .long (lI tk_name), .long (lI tk_number)])), (tp, .inl (cB, 3000, .inl (zF tx)))] U.heap ∧ va_K (dC, dI) vwCl [(cB, .byte)] U ∧ va_D (fun _ => True) [(tk, .inr (3, [.ref tp, .int (zI tk_size), .int (zI tk_behind), .int (zI tk_kind), .int (zI tk_at), .long (lI tk_name), .long (lI tk_number)])), (tp, .inl (cB, 3000, .inl (zF tx)))])) (va_Qv (fun _ : Unit => True) (fun _ t => va_P (dC, dI) vwCl [(tk, .inr (3, [.ref tp, .int (zI ln_), .int (zI 0), .int (zI tk_kind), .int (zI tk_at), .long (lI tk_name), .long (lI tk_number)])), (tp, .inl (cB, 3000, .inl (zF tx)))] t.heap ∧ va_K (dC, dI) vwCl [(cB, .byte)] t ∧ va_D (va_A [(tk, .inr (3, [.ref tp, .int (zI tk_size), .int (zI tk_behind), .int (zI tk_kind), .int (zI tk_at), .long (lI tk_name), .long (lI tk_number)])), (tp, .inl (cB, 3000, .inl (zF tx)))] sz) [(tk, .inr (3, [.ref tp, .int (zI ln_), .int (zI 0), .int (zI tk_kind), .int (zI tk_at), .long (lI tk_name), .long (lI tk_number)])), (tp, .inl (cB, 3000, .inl (zF tx)))]) (va_A [(tk, .inr (3, [.ref tp, .int (zI tk_size), .int (zI tk_behind), .int (zI tk_kind), .int (zI tk_at), .long (lI tk_name), .long (lI tk_number)])), (tp, .inl (cB, 3000, .inl (zF tx)))] sz)) 0 0 (va_A [(tk, .inr (3, [.ref tp, .int (zI tk_size), .int (zI tk_behind), .int (zI tk_kind), .int (zI tk_at), .long (lI tk_name), .long (lI tk_number)])), (tp, .inl (cB, 3000, .inl (zF tx)))] sz) := by
  refine Met.ofW (cc := cX3_begin) (maxL := 2) (ret := none) (by decide) rfl ?_
  intro p e s m args below meth c s₁ B hml hv
  obtain ⟨rfl, hsz, hP, hK, hD0⟩ := hv
  have hx := B.exec
  have hb := B.bytes
  have hr := B.returns
  have hts := atoms_spec (ws := wyX3_begin) B.pre
  have hg : ∀ w ∈ lw_G, w.before _ s = true := fun w h => hts w (List.mem_cons_of_mem _ h)
  have hown : s.vm.findClass RX3 = some m.cls := findClass_of_methodNamed B.named
  have hlocks := B.notSynchronized
  subst hsz
  have hD := hD0.self (sz := s.heap.size)
  generalize hAe : va_A [(tk, .inr (3, [.ref tp, .int (zI tk_size), .int (zI tk_behind), .int (zI tk_kind), .int (zI tk_at), .long (lI tk_name), .long (lI tk_number)])), (tp, .inl (cB, 3000, .inl (zF tx)))] s.heap.size = A at hD ⊢
  have hA : ∀ q : Nat, s.heap.size ≤ q → A q := fun q h => by rw [← hAe]; exact Or.inr h
  have hS : va_S A s.heap s.heap [] := va_S.rf
  have hP : va_P (dC, dI) vwCl [(tk, .inr (3, [.ref tp, .int (zI tk_size), .int (zI tk_behind), .int (zI tk_kind), .int (zI tk_at), .long (lI tk_name), .long (lI tk_number)])), (tp, .inl (cB, 3000, .inl (zF tx)))] s.heap := hP
  have hl := lv_entry ([.ref tk, .int (zI ln_)]) (n := 2) (Nat.le_of_ble_eq_true rfl)
  rw [lg_entry_eq]
  generalize (lg_sl ([.ref tk, .int (zI ln_)]) ++ List.replicate (2 - (lg_sl ([.ref tk, .int (zI ln_)])).length) Slot.unset).toArray = ls at hl ⊢
  have hl : lv_has ls 2 [(0, .ref tk), (1, .int (zI ln_))] := hl
  refine lv_aload_n hx hb dX3_begin_0 rfl (lv_at hl 0 rfl) ?_
  refine lv_iload_n hx hb dX3_begin_1 rfl (lv_at hl 1 rfl) ?_
  refine lv_aload_n hx hb dX3_begin_2 rfl (lv_at hl 0 rfl) ?_
  refine va_get (D := (dC, dI)) (ci := 3) (v := .ref tp) (C := RX3) (T := TX3) (N := 7) hx hb hg inG_X3 hown hK hP 0 rfl rfl 0 (by decide) (hg (.fieldLink RX3 31 "AttributeDesk$Tokens" "text" "[B") gw_1_160) (fun _ h9 => h9) rfl dX3_begin_3 ?_
  refine va_alen (D := (dC, dI)) (v := zI 3000) hx hb hK hP 1 0 rfl rfl (show Int32.ofNat 3000 = zI 3000 from by decide) dX3_begin_6 ?_
  refine va_mmin hx hb (by rw [hml]; exact hl.1.symm) hown (hg (.methodLink RX3 35 Lib.Math.min.name) gw_2_228) (hg (.static Lib.Math.min.name) gw_2_229) (hg (.initialized "java/lang/Math") gw_1_11) (hg (.code Lib.Math.min.name Lib.Math.min.code 2 (some .int)) gw_2_230) (Nat.le_of_ble_eq_true rfl) (Nat.le_of_ble_eq_true rfl) (Nat.le_of_ble_eq_true rfl) (Nat.le_of_ble_eq_true rfl) dX3_begin_7 ?_
  refine lv_topi (fun x1 ex1 => ?_)
  obtain rfl : x1 = zI ln_ := ex1.trans (if_neg (by rw [zI_lt (by omega) (by omega)]; omega))
  refine va_put (D := (dC, dI)) (ci := 3) (v := .int (zI ln_)) (ty := .int) (C := RX3) (T := TX3) (N := 7) hx hb hg inG_X3 tyX3 tyX3_ok nmX3 hown hK hP hD hS 0 rfl rfl 1 (by decide) (hg (.fieldLink RX3 9 "AttributeDesk$Tokens" "size" "I") gw_1_161) (fun _ h9 => h9) rfl (by decide +kernel) rfl rfl (Nat.le_of_ble_eq_true rfl) dX3_begin_10 (fun H locs hP hD hS => ?_)
  have hP : va_P (dC, dI) vwCl [(tk, .inr (3, [.ref tp, .int (zI ln_), .int (zI tk_behind), .int (zI tk_kind), .int (zI tk_at), .long (lI tk_name), .long (lI tk_number)])), (tp, .inl (cB, 3000, .inl (zF tx)))] H := hP
  have hD : va_D A [(tk, .inr (3, [.ref tp, .int (zI ln_), .int (zI tk_behind), .int (zI tk_kind), .int (zI tk_at), .long (lI tk_name), .long (lI tk_number)])), (tp, .inl (cB, 3000, .inl (zF tx)))] := hD
  refine lv_aload_n hx hb dX3_begin_13 rfl (lv_at hl 0 rfl) ?_
  refine lv_iconst (v := zI 0) hx hb dX3_begin_14 rfl ?_
  refine va_put (D := (dC, dI)) (ci := 3) (v := .int (zI 0)) (ty := .int) (C := RX3) (T := TX3) (N := 7) hx hb hg inG_X3 tyX3 tyX3_ok nmX3 hown hK hP hD hS 0 rfl rfl 2 (by decide) (hg (.fieldLink RX3 15 "AttributeDesk$Tokens" "behind" "I") gw_1_162) (fun _ h9 => h9) rfl (by decide +kernel) rfl rfl (Nat.le_of_ble_eq_true rfl) dX3_begin_15 (fun H locs hP hD hS => ?_)
  have hP : va_P (dC, dI) vwCl [(tk, .inr (3, [.ref tp, .int (zI ln_), .int (zI 0), .int (zI tk_kind), .int (zI tk_at), .long (lI tk_name), .long (lI tk_number)])), (tp, .inl (cB, 3000, .inl (zF tx)))] H := hP
  have hD : va_D A [(tk, .inr (3, [.ref tp, .int (zI ln_), .int (zI 0), .int (zI tk_kind), .int (zI tk_at), .long (lI tk_name), .long (lI tk_number)])), (tp, .inl (cB, 3000, .inl (zF tx)))] := hD
  have hP9 := hP.sub (ws' := [(tk, .inr (3, [.ref tp, .int (zI ln_), .int (zI 0), .int (zI tk_kind), .int (zI tk_at), .long (lI tk_name), .long (lI tk_number)])), (tp, .inl (cB, 3000, .inl (zF tx)))]) [0, 1] rfl
  have hD9 := hD.sub (ws' := [(tk, .inr (3, [.ref tp, .int (zI ln_), .int (zI 0), .int (zI tk_kind), .int (zI tk_at), .long (lI tk_name), .long (lI tk_number)])), (tp, .inl (cB, 3000, .inl (zF tx)))]) [0, 1] (by decide) rfl
  have hK9 := hK.sub (tys' := [(cB, .byte)]) [0] rfl
  exact W.vret hx hb hr (fun t ht hW => ⟨⟨(), rfl, trivial, by rw [ht]; exact hP9, va_K.moved hW.alike hK9, hD9⟩, hS.F ht⟩) hS.2.2 dX3_begin_18

set_option maxHeartbeats 4000000 in
set_option maxRecDepth 100000 in
theorem c_X3_hasDotBehind (l : Launch) (dC : Nat → ClassId) (dI : Nat → Nat → Nat) (tk tp : Nat) (cB : ClassId) (sz : Nat) (tk_size : Int) (tk_behind : Int) (tk_kind : Int) (tk_at : Int) (tk_name : Int) (tk_number : Int) (tx : Int → Int) (hTx : ∀ j : Int, 0 ≤ j ∧ j < 3000 → -128 ≤ tx j ∧ tx j < 128) (hf : 0 ≤ tk_behind ∧ tk_behind ≤ tk_size) (hs : tk_size ≤ 3000) : Met l yX3_hasDotBehind wyX3_hasDotBehind ({ frames := 1, cells := 0, slots := 0, locals := 22 }) (va_Pc [.ref tk] (fun U => U.heap.size = sz ∧ va_P (dC, dI) vwCl [(tk, .inr (3, [.ref tp, .int (zI tk_size), .int (zI tk_behind), .int (zI tk_kind), .int (zI tk_at), .long (lI tk_name), .long (lI tk_number)])), (tp, .inl (cB, 3000, .inl (zF tx)))] U.heap ∧ va_K (dC, dI) vwCl [(cB, .byte)] U ∧ va_D (fun _ => True) [(tk, .inr (3, [.ref tp, .int (zI tk_size), .int (zI tk_behind), .int (zI tk_kind), .int (zI tk_at), .long (lI tk_name), .long (lI tk_number)])), (tp, .inl (cB, 3000, .inl (zF tx)))])) (va_Qi (fun (rr : Int32) (r : Int) => rr = zI r) (fun r t => ((r = 1 ∧ ((kRun isBl tx tk_size tk_behind) < tk_size ∧ tx (kRun isBl tx tk_size tk_behind) = 46)) ∨ (r = 0 ∧ ¬ ((kRun isBl tx tk_size tk_behind) < tk_size ∧ tx (kRun isBl tx tk_size tk_behind) = 46))) ∧ va_P (dC, dI) vwCl [(tk, .inr (3, [.ref tp, .int (zI tk_size), .int (zI tk_behind), .int (zI tk_kind), .int (zI tk_at), .long (lI tk_name), .long (lI tk_number)])), (tp, .inl (cB, 3000, .inl (zF tx)))] t.heap ∧ va_K (dC, dI) vwCl [(cB, .byte)] t ∧ va_D (va_A [(tk, .inr (3, [.ref tp, .int (zI tk_size), .int (zI tk_behind), .int (zI tk_kind), .int (zI tk_at), .long (lI tk_name), .long (lI tk_number)])), (tp, .inl (cB, 3000, .inl (zF tx)))] sz) [(tk, .inr (3, [.ref tp, .int (zI tk_size), .int (zI tk_behind), .int (zI tk_kind), .int (zI tk_at), .long (lI tk_name), .long (lI tk_number)])), (tp, .inl (cB, 3000, .inl (zF tx)))]) (va_A [(tk, .inr (3, [.ref tp, .int (zI tk_size), .int (zI tk_behind), .int (zI tk_kind), .int (zI tk_at), .long (lI tk_name), .long (lI tk_number)])), (tp, .inl (cB, 3000, .inl (zF tx)))] sz)) 0 0 (va_A [(tk, .inr (3, [.ref tp, .int (zI tk_size), .int (zI tk_behind), .int (zI tk_kind), .int (zI tk_at), .long (lI tk_name), .long (lI tk_number)])), (tp, .inl (cB, 3000, .inl (zF tx)))] sz) := by
  refine Met.ofW (cc := cX3_hasDotBehind) (maxL := 2) (ret := (some .boolean)) (by decide) rfl ?_
  intro p e s m args below meth c s₁ B hml hv
  obtain ⟨rfl, hsz, hP, hK, hD0⟩ := hv
  have hx := B.exec
  have hb := B.bytes
  have hr := B.returns
  have hts := atoms_spec (ws := wyX3_hasDotBehind) B.pre
  have hg : ∀ w ∈ lw_G, w.before _ s = true := fun w h => hts w (List.mem_cons_of_mem _ h)
  have hown : s.vm.findClass RX3 = some m.cls := findClass_of_methodNamed B.named
  have hlocks := B.notSynchronized
  subst hsz
  have hD := hD0.self (sz := s.heap.size)
  generalize hAe : va_A [(tk, .inr (3, [.ref tp, .int (zI tk_size), .int (zI tk_behind), .int (zI tk_kind), .int (zI tk_at), .long (lI tk_name), .long (lI tk_number)])), (tp, .inl (cB, 3000, .inl (zF tx)))] s.heap.size = A at hD ⊢
  have hA : ∀ q : Nat, s.heap.size ≤ q → A q := fun q h => by rw [← hAe]; exact Or.inr h
  have hS : va_S A s.heap s.heap [] := va_S.rf
  have hP : va_P (dC, dI) vwCl [(tk, .inr (3, [.ref tp, .int (zI tk_size), .int (zI tk_behind), .int (zI tk_kind), .int (zI tk_at), .long (lI tk_name), .long (lI tk_number)])), (tp, .inl (cB, 3000, .inl (zF tx)))] s.heap := hP
  have hl := lv_entry ([.ref tk]) (n := 2) (Nat.le_of_ble_eq_true rfl)
  rw [lg_entry_eq]
  generalize (lg_sl ([.ref tk]) ++ List.replicate (2 - (lg_sl ([.ref tk])).length) Slot.unset).toArray = ls at hl ⊢
  have hl : lv_has ls 2 [(0, .ref tk)] := hl
  refine lv_aload_n hx hb dX3_hasDotBehind_0 rfl (lv_at hl 0 rfl) ?_
  refine lv_aload_n hx hb dX3_hasDotBehind_1 rfl (lv_at hl 0 rfl) ?_
  refine va_get (D := (dC, dI)) (ci := 3) (v := .int (zI tk_behind)) (C := RX3) (T := TX3) (N := 7) hx hb hg inG_X3 hown hK hP 0 rfl rfl 2 (by decide) (hg (.fieldLink RX3 15 "AttributeDesk$Tokens" "behind" "I") gw_1_162) (fun _ h9 => h9) rfl dX3_hasDotBehind_2 ?_
  have hPc := hP.sub (ws' := [(tk, .inr (3, [.ref tp, .int (zI tk_size), .int (zI tk_behind), .int (zI tk_kind), .int (zI tk_at), .long (lI tk_name), .long (lI tk_number)])), (tp, .inl (cB, 3000, .inl (zF tx)))]) [0, 1] rfl
  have hDc := hD.sub (ws' := [(tk, .inr (3, [.ref tp, .int (zI tk_size), .int (zI tk_behind), .int (zI tk_kind), .int (zI tk_at), .long (lI tk_name), .long (lI tk_number)])), (tp, .inl (cB, 3000, .inl (zF tx)))]) [0, 1] (by decide) rfl
  have hKc := hK.sub (tys' := [(cB, .byte)]) [0] rfl
  have hFc := va_free (wc := [(tk, .inr (3, [.ref tp, .int (zI tk_size), .int (zI tk_behind), .int (zI tk_kind), .int (zI tk_at), .long (lI tk_name), .long (lI tk_number)])), (tp, .inl (cB, 3000, .inl (zF tx)))]) hD hS hA [0, 1] rfl
  refine va_calli (va_runV (As := [.int (zI tk_behind)]) (rest := []) ⟨hx, hb, hml, hown, hg⟩ (c_X3_skipBlanks l dC dI tk tp cB s.heap.size tk_size tk_behind tk_kind tk_at tk_name tk_number tx tk_behind hTx (by omega) (by omega)) (cwV 1 hg gc_X3_41 rfl rfl rfl (by decide +kernel) ⟨Nat.le_of_ble_eq_true rfl, Nat.le_of_ble_eq_true rfl⟩) ⟨fun a U g mk q => by obtain ⟨q0, q1, qP, qK, qD⟩ := q; exact ⟨q0, q1, qP, va_K.moved (u := U) (U := U.calling g mk a) (Vm.Alike.refl U.vm) qK, qD⟩, va_recv hKc hPc (ci := 3) (q0 := 0) rfl rfl, fun U hU hW => ⟨rfl, by rw [hU], by rw [hU]; exact hPc, va_K.moved hW.alike hKc, hDc.weaken (fun _ _ _ _ => trivial)⟩⟩ rfl rfl hl.1 rfl (lv_room (Nat.le_of_ble_eq_true rfl)) dX3_hasDotBehind_5 ⟨Nat.le_of_ble_eq_true rfl, Nat.le_of_ble_eq_true rfl⟩) hS (fun q _ h => hFc q h) hFc (fun r1 u1 t H1 locs ht hvm hw1 hB hz1 hk1 hS => ?_)
  obtain ⟨hP1, hK1, hD1⟩ := hB
  rw [ht] at hP1
  have hK1 := va_K.moved hvm.symm hK1
  obtain ⟨hP, hD⟩ := va_join (wr := []) (w1 := [(tk, .inr (3, [.ref tp, .int (zI tk_size), .int (zI tk_behind), .int (zI tk_kind), .int (zI tk_at), .long (lI tk_name), .long (lI tk_number)])), (tp, .inl (cB, 3000, .inl (zF tx)))]) hP hD [0, 1] [] rfl rfl (by decide) (by decide) hk1 hFc hP1 hD1
  have hK := (hK.sub (tys' := []) [] rfl).app hK1
  generalize H1 = H at hP hS ⊢
  have hP : va_P (dC, dI) vwCl [(tk, .inr (3, [.ref tp, .int (zI tk_size), .int (zI tk_behind), .int (zI tk_kind), .int (zI tk_at), .long (lI tk_name), .long (lI tk_number)])), (tp, .inl (cB, 3000, .inl (zF tx)))] H := hP
  have hD : va_D A [(tk, .inr (3, [.ref tp, .int (zI tk_size), .int (zI tk_behind), .int (zI tk_kind), .int (zI tk_at), .long (lI tk_name), .long (lI tk_number)])), (tp, .inl (cB, 3000, .inl (zF tx)))] := hD
  have hK : va_K (dC, dI) vwCl [(cB, .byte)] s := hK
  obtain rfl : r1 = zI (kRun isBl tx tk_size tk_behind) := hw1
  have hrg := kRun_in (pq := isBl) (tx := tx) (n := tk_size) (a := tk_behind) (by omega)
  refine lv_istore_n (lv' := [(1, .int (zI (kRun isBl tx tk_size tk_behind))), (0, .ref tk)]) hx hb dX3_hasDotBehind_8 rfl hl (by decide) rfl (fun ls hl => ?_)
  refine lv_iload_n hx hb dX3_hasDotBehind_9 rfl (lv_at hl 0 rfl) ?_
  refine lv_aload_n hx hb dX3_hasDotBehind_10 rfl (lv_at hl 1 rfl) ?_
  refine va_get (D := (dC, dI)) (ci := 3) (v := .int (zI tk_size)) (C := RX3) (T := TX3) (N := 7) hx hb hg inG_X3 hown hK hP 0 rfl rfl 1 (by decide) (hg (.fieldLink RX3 9 "AttributeDesk$Tokens" "size" "I") gw_1_161) (fun _ h9 => h9) rfl dX3_hasDotBehind_11 ?_
  refine zv_icmp_ge (tgt := 32) hx hb dX3_hasDotBehind_14 (by decide) (by omega) (by omega) (fun c2 => ?_) (fun c2 => ?_)
  · refine lv_iconst (v := zI 0) hx hb dX3_hasDotBehind_32 rfl ?_
    have hP9 := hP.sub (ws' := [(tk, .inr (3, [.ref tp, .int (zI tk_size), .int (zI tk_behind), .int (zI tk_kind), .int (zI tk_at), .long (lI tk_name), .long (lI tk_number)])), (tp, .inl (cB, 3000, .inl (zF tx)))]) [0, 1] rfl
    have hD9 := hD.sub (ws' := [(tk, .inr (3, [.ref tp, .int (zI tk_size), .int (zI tk_behind), .int (zI tk_kind), .int (zI tk_at), .long (lI tk_name), .long (lI tk_number)])), (tp, .inl (cB, 3000, .inl (zF tx)))]) [0, 1] (by decide) rfl
    have hK9 := hK.sub (tys' := [(cB, .byte)]) [0] rfl
    exact W.zret (v := zI 0) hx hb hr (by decide) (fun t ht hW => ⟨⟨zI 0, 0, rfl, rfl, (by omega), by rw [ht]; exact hP9, va_K.moved hW.alike hK9, hD9⟩, hS.F ht⟩) hS.2.2 dX3_hasDotBehind_33
  · refine lv_aload_n hx hb dX3_hasDotBehind_17 rfl (lv_at hl 1 rfl) ?_
    refine va_get (D := (dC, dI)) (ci := 3) (v := .ref tp) (C := RX3) (T := TX3) (N := 7) hx hb hg inG_X3 hown hK hP 0 rfl rfl 0 (by decide) (hg (.fieldLink RX3 31 "AttributeDesk$Tokens" "text" "[B") gw_1_160) (fun _ h9 => h9) rfl dX3_hasDotBehind_18 ?_
    refine lv_iload_n hx hb dX3_hasDotBehind_21 rfl (lv_at hl 0 rfl) ?_
    refine zv_bald (D := (dC, dI)) hx hb hK hP 1 0 rfl rfl (by omega) (Nat.le_of_ble_eq_true rfl) dX3_hasDotBehind_22 ?_
    have hv3 := hTx (kRun isBl tx tk_size tk_behind) (by omega)
    refine lv_bipush (v := zI 46) hx hb dX3_hasDotBehind_23 (by decide) ?_
    refine zv_icmp_ne (tgt := 32) hx hb dX3_hasDotBehind_25 (by decide) (by omega) (by decide) (fun c4 => ?_) (fun c4 => ?_)
    · refine lv_iconst (v := zI 0) hx hb dX3_hasDotBehind_32 rfl ?_
      have hP9 := hP.sub (ws' := [(tk, .inr (3, [.ref tp, .int (zI tk_size), .int (zI tk_behind), .int (zI tk_kind), .int (zI tk_at), .long (lI tk_name), .long (lI tk_number)])), (tp, .inl (cB, 3000, .inl (zF tx)))]) [0, 1] rfl
      have hD9 := hD.sub (ws' := [(tk, .inr (3, [.ref tp, .int (zI tk_size), .int (zI tk_behind), .int (zI tk_kind), .int (zI tk_at), .long (lI tk_name), .long (lI tk_number)])), (tp, .inl (cB, 3000, .inl (zF tx)))]) [0, 1] (by decide) rfl
      have hK9 := hK.sub (tys' := [(cB, .byte)]) [0] rfl
      exact W.zret (v := zI 0) hx hb hr (by decide) (fun t ht hW => ⟨⟨zI 0, 0, rfl, rfl, (by omega), by rw [ht]; exact hP9, va_K.moved hW.alike hK9, hD9⟩, hS.F ht⟩) hS.2.2 dX3_hasDotBehind_33
    · refine lv_iconst (v := zI 1) hx hb dX3_hasDotBehind_28 rfl ?_
      refine lv_goto (tgt := 33) hx hb dX3_hasDotBehind_29 (by decide) ?_
      have hP9 := hP.sub (ws' := [(tk, .inr (3, [.ref tp, .int (zI tk_size), .int (zI tk_behind), .int (zI tk_kind), .int (zI tk_at), .long (lI tk_name), .long (lI tk_number)])), (tp, .inl (cB, 3000, .inl (zF tx)))]) [0, 1] rfl
      have hD9 := hD.sub (ws' := [(tk, .inr (3, [.ref tp, .int (zI tk_size), .int (zI tk_behind), .int (zI tk_kind), .int (zI tk_at), .long (lI tk_name), .long (lI tk_number)])), (tp, .inl (cB, 3000, .inl (zF tx)))]) [0, 1] (by decide) rfl
      have hK9 := hK.sub (tys' := [(cB, .byte)]) [0] rfl
      exact W.zret (v := zI 1) hx hb hr (by decide) (fun t ht hW => ⟨⟨zI 1, 1, rfl, rfl, (by omega), by rw [ht]; exact hP9, va_K.moved hW.alike hK9, hD9⟩, hS.F ht⟩) hS.2.2 dX3_hasDotBehind_33

set_option maxHeartbeats 4000000 in
set_option maxRecDepth 100000 in
theorem c_X3_next (l : Launch) (dC : Nat → ClassId) (dI : Nat → Nat → Nat) (tk tp : Nat) (cB : ClassId) (sz : Nat) (tk_size : Int) (tk_behind : Int) (tk_kind : Int) (tk_at : Int) (tk_name : Int) (tk_number : Int) (tx : Int → Int) (hTx : ∀ j : Int, 0 ≤ j ∧ j < 3000 → -128 ≤ tx j ∧ tx j < 128) (hf : 0 ≤ tk_behind ∧ tk_behind ≤ tk_size) (hs : tk_size ≤ 3000) (hnm : -9223372036854775808 ≤ tk_name ∧ tk_name < 9223372036854775808) (hnu : 0 ≤ tk_number ∧ tk_number ≤ 21474836479) : Met l yX3_next wyX3_next ({ frames := 2, cells := 0, slots := 0, locals := 44 }) (va_Pc [.ref tk] (fun U => U.heap.size = sz ∧ va_P (dC, dI) vwCl [(tk, .inr (3, [.ref tp, .int (zI tk_size), .int (zI tk_behind), .int (zI tk_kind), .int (zI tk_at), .long (lI tk_name), .long (lI tk_number)])), (tp, .inl (cB, 3000, .inl (zF tx)))] U.heap ∧ va_K (dC, dI) vwCl [(cB, .byte)] U ∧ va_D (fun _ => True) [(tk, .inr (3, [.ref tp, .int (zI tk_size), .int (zI tk_behind), .int (zI tk_kind), .int (zI tk_at), .long (lI tk_name), .long (lI tk_number)])), (tp, .inl (cB, 3000, .inl (zF tx)))])) (va_Qv (fun _ : Unit => True) (fun _ t => ∃ (nm : Int), ∃ (nu : Int), ((kRun isBl tx tk_size tk_behind) < tk_size ∧ isLt (tx (kRun isBl tx tk_size tk_behind)) = true ∧ kRun isLt tx tk_size (kRun isBl tx tk_size tk_behind) - (kRun isBl tx tk_size tk_behind) ≤ 8 → nm = kCv tx tk_size (kRun isBl tx tk_size tk_behind) 0) ∧ ((kRun isBl tx tk_size tk_behind) < tk_size ∧ isDg (tx (kRun isBl tx tk_size tk_behind)) = true → nu = kDv tx tk_size (kRun isBl tx tk_size tk_behind) 0) ∧ (-9223372036854775808 ≤ nm ∧ nm < 9223372036854775808) ∧ (0 ≤ nu ∧ nu ≤ 21474836479) ∧ va_P (dC, dI) vwCl [(tk, .inr (3, [.ref tp, .int (zI tk_size), .int (zI (kBA tx tk_size (kRun isBl tx tk_size tk_behind))), .int (zI (kKA tx tk_size (kRun isBl tx tk_size tk_behind))), .int (zI (kRun isBl tx tk_size tk_behind)), .long (lI nm), .long (lI nu)])), (tp, .inl (cB, 3000, .inl (zF tx)))] t.heap ∧ va_K (dC, dI) vwCl [(cB, .byte)] t ∧ va_D (va_A [(tk, .inr (3, [.ref tp, .int (zI tk_size), .int (zI tk_behind), .int (zI tk_kind), .int (zI tk_at), .long (lI tk_name), .long (lI tk_number)])), (tp, .inl (cB, 3000, .inl (zF tx)))] sz) [(tk, .inr (3, [.ref tp, .int (zI tk_size), .int (zI (kBA tx tk_size (kRun isBl tx tk_size tk_behind))), .int (zI (kKA tx tk_size (kRun isBl tx tk_size tk_behind))), .int (zI (kRun isBl tx tk_size tk_behind)), .long (lI nm), .long (lI nu)])), (tp, .inl (cB, 3000, .inl (zF tx)))]) (va_A [(tk, .inr (3, [.ref tp, .int (zI tk_size), .int (zI tk_behind), .int (zI tk_kind), .int (zI tk_at), .long (lI tk_name), .long (lI tk_number)])), (tp, .inl (cB, 3000, .inl (zF tx)))] sz)) 0 0 (va_A [(tk, .inr (3, [.ref tp, .int (zI tk_size), .int (zI tk_behind), .int (zI tk_kind), .int (zI tk_at), .long (lI tk_name), .long (lI tk_number)])), (tp, .inl (cB, 3000, .inl (zF tx)))] sz) := by
  refine Met.ofW (cc := cX3_next) (maxL := 2) (ret := none) (by decide) rfl ?_
  intro p e s m args below meth c s₁ B hml hv
  obtain ⟨rfl, hsz, hP, hK, hD0⟩ := hv
  have hx := B.exec
  have hb := B.bytes
  have hr := B.returns
  have hts := atoms_spec (ws := wyX3_next) B.pre
  have hg : ∀ w ∈ lw_G, w.before _ s = true := fun w h => hts w (List.mem_cons_of_mem _ h)
  have hown : s.vm.findClass RX3 = some m.cls := findClass_of_methodNamed B.named
  have hlocks := B.notSynchronized
  subst hsz
  have hD := hD0.self (sz := s.heap.size)
  generalize hAe : va_A [(tk, .inr (3, [.ref tp, .int (zI tk_size), .int (zI tk_behind), .int (zI tk_kind), .int (zI tk_at), .long (lI tk_name), .long (lI tk_number)])), (tp, .inl (cB, 3000, .inl (zF tx)))] s.heap.size = A at hD ⊢
  have hA : ∀ q : Nat, s.heap.size ≤ q → A q := fun q h => by rw [← hAe]; exact Or.inr h
  have hS : va_S A s.heap s.heap [] := va_S.rf
  have hP : va_P (dC, dI) vwCl [(tk, .inr (3, [.ref tp, .int (zI tk_size), .int (zI tk_behind), .int (zI tk_kind), .int (zI tk_at), .long (lI tk_name), .long (lI tk_number)])), (tp, .inl (cB, 3000, .inl (zF tx)))] s.heap := hP
  have hl := lv_entry ([.ref tk]) (n := 2) (Nat.le_of_ble_eq_true rfl)
  rw [lg_entry_eq]
  generalize (lg_sl ([.ref tk]) ++ List.replicate (2 - (lg_sl ([.ref tk])).length) Slot.unset).toArray = ls at hl ⊢
  have hl : lv_has ls 2 [(0, .ref tk)] := hl
  refine lv_aload_n hx hb dX3_next_0 rfl (lv_at hl 0 rfl) ?_
  refine lv_aload_n hx hb dX3_next_1 rfl (lv_at hl 0 rfl) ?_
  refine lv_aload_n hx hb dX3_next_2 rfl (lv_at hl 0 rfl) ?_
  refine va_get (D := (dC, dI)) (ci := 3) (v := .int (zI tk_behind)) (C := RX3) (T := TX3) (N := 7) hx hb hg inG_X3 hown hK hP 0 rfl rfl 2 (by decide) (hg (.fieldLink RX3 15 "AttributeDesk$Tokens" "behind" "I") gw_1_162) (fun _ h9 => h9) rfl dX3_next_3 ?_
  have hPc := hP.sub (ws' := [(tk, .inr (3, [.ref tp, .int (zI tk_size), .int (zI tk_behind), .int (zI tk_kind), .int (zI tk_at), .long (lI tk_name), .long (lI tk_number)])), (tp, .inl (cB, 3000, .inl (zF tx)))]) [0, 1] rfl
  have hDc := hD.sub (ws' := [(tk, .inr (3, [.ref tp, .int (zI tk_size), .int (zI tk_behind), .int (zI tk_kind), .int (zI tk_at), .long (lI tk_name), .long (lI tk_number)])), (tp, .inl (cB, 3000, .inl (zF tx)))]) [0, 1] (by decide) rfl
  have hKc := hK.sub (tys' := [(cB, .byte)]) [0] rfl
  have hFc := va_free (wc := [(tk, .inr (3, [.ref tp, .int (zI tk_size), .int (zI tk_behind), .int (zI tk_kind), .int (zI tk_at), .long (lI tk_name), .long (lI tk_number)])), (tp, .inl (cB, 3000, .inl (zF tx)))]) hD hS hA [0, 1] rfl
  refine va_calli (va_runV (As := [.int (zI tk_behind)]) (rest := [.ref tk]) ⟨hx, hb, hml, hown, hg⟩ (c_X3_skipBlanks l dC dI tk tp cB s.heap.size tk_size tk_behind tk_kind tk_at tk_name tk_number tx tk_behind hTx (by omega) (by omega)) (cwV 1 hg gc_X3_41 rfl rfl rfl (by decide +kernel) ⟨Nat.le_of_ble_eq_true rfl, Nat.le_of_ble_eq_true rfl⟩) ⟨fun a U g mk q => by obtain ⟨q0, q1, qP, qK, qD⟩ := q; exact ⟨q0, q1, qP, va_K.moved (u := U) (U := U.calling g mk a) (Vm.Alike.refl U.vm) qK, qD⟩, va_recv hKc hPc (ci := 3) (q0 := 0) rfl rfl, fun U hU hW => ⟨rfl, by rw [hU], by rw [hU]; exact hPc, va_K.moved hW.alike hKc, hDc.weaken (fun _ _ _ _ => trivial)⟩⟩ rfl rfl hl.1 rfl (lv_room (Nat.le_of_ble_eq_true rfl)) dX3_next_6 ⟨Nat.le_of_ble_eq_true rfl, Nat.le_of_ble_eq_true rfl⟩) hS (fun q _ h => hFc q h) hFc (fun r1 u1 t H1 locs ht hvm hw1 hB hz1 hk1 hS => ?_)
  obtain ⟨hP1, hK1, hD1⟩ := hB
  rw [ht] at hP1
  have hK1 := va_K.moved hvm.symm hK1
  obtain ⟨hP, hD⟩ := va_join (wr := []) (w1 := [(tk, .inr (3, [.ref tp, .int (zI tk_size), .int (zI tk_behind), .int (zI tk_kind), .int (zI tk_at), .long (lI tk_name), .long (lI tk_number)])), (tp, .inl (cB, 3000, .inl (zF tx)))]) hP hD [0, 1] [] rfl rfl (by decide) (by decide) hk1 hFc hP1 hD1
  have hK := (hK.sub (tys' := []) [] rfl).app hK1
  generalize H1 = H at hP hS ⊢
  have hP : va_P (dC, dI) vwCl [(tk, .inr (3, [.ref tp, .int (zI tk_size), .int (zI tk_behind), .int (zI tk_kind), .int (zI tk_at), .long (lI tk_name), .long (lI tk_number)])), (tp, .inl (cB, 3000, .inl (zF tx)))] H := hP
  have hD : va_D A [(tk, .inr (3, [.ref tp, .int (zI tk_size), .int (zI tk_behind), .int (zI tk_kind), .int (zI tk_at), .long (lI tk_name), .long (lI tk_number)])), (tp, .inl (cB, 3000, .inl (zF tx)))] := hD
  have hK : va_K (dC, dI) vwCl [(cB, .byte)] s := hK
  obtain rfl : r1 = zI (kRun isBl tx tk_size tk_behind) := hw1
  have hrg := kRun_in (pq := isBl) (tx := tx) (n := tk_size) (a := tk_behind) (by omega)
  refine va_put (D := (dC, dI)) (ci := 3) (v := .int (zI (kRun isBl tx tk_size tk_behind))) (ty := .int) (C := RX3) (T := TX3) (N := 7) hx hb hg inG_X3 tyX3 tyX3_ok nmX3 hown hK hP hD hS 0 rfl rfl 4 (by decide) (hg (.fieldLink RX3 21 "AttributeDesk$Tokens" "at" "I") gw_1_167) (fun _ h9 => h9) rfl (by decide +kernel) rfl rfl (Nat.le_of_ble_eq_true rfl) dX3_next_9 (fun H locs hP hD hS => ?_)
  have hP : va_P (dC, dI) vwCl [(tk, .inr (3, [.ref tp, .int (zI tk_size), .int (zI tk_behind), .int (zI tk_kind), .int (zI (kRun isBl tx tk_size tk_behind)), .long (lI tk_name), .long (lI tk_number)])), (tp, .inl (cB, 3000, .inl (zF tx)))] H := hP
  have hD : va_D A [(tk, .inr (3, [.ref tp, .int (zI tk_size), .int (zI tk_behind), .int (zI tk_kind), .int (zI (kRun isBl tx tk_size tk_behind)), .long (lI tk_name), .long (lI tk_number)])), (tp, .inl (cB, 3000, .inl (zF tx)))] := hD
  refine lv_aload_n hx hb dX3_next_12 rfl (lv_at hl 0 rfl) ?_
  refine va_get (D := (dC, dI)) (ci := 3) (v := .int (zI (kRun isBl tx tk_size tk_behind))) (C := RX3) (T := TX3) (N := 7) hx hb hg inG_X3 hown hK hP 0 rfl rfl 4 (by decide) (hg (.fieldLink RX3 21 "AttributeDesk$Tokens" "at" "I") gw_1_167) (fun _ h9 => h9) rfl dX3_next_13 ?_
  refine lv_aload_n hx hb dX3_next_16 rfl (lv_at hl 0 rfl) ?_
  refine va_get (D := (dC, dI)) (ci := 3) (v := .int (zI tk_size)) (C := RX3) (T := TX3) (N := 7) hx hb hg inG_X3 hown hK hP 0 rfl rfl 1 (by decide) (hg (.fieldLink RX3 9 "AttributeDesk$Tokens" "size" "I") gw_1_161) (fun _ h9 => h9) rfl dX3_next_17 ?_
  refine zv_icmp_lt (tgt := 37) hx hb dX3_next_20 (by decide) (by omega) (by omega) (fun c2 => ?_) (fun c2 => ?_)
  · refine lv_aload_n hx hb dX3_next_37 rfl (lv_at hl 0 rfl) ?_
    refine va_get (D := (dC, dI)) (ci := 3) (v := .ref tp) (C := RX3) (T := TX3) (N := 7) hx hb hg inG_X3 hown hK hP 0 rfl rfl 0 (by decide) (hg (.fieldLink RX3 31 "AttributeDesk$Tokens" "text" "[B") gw_1_160) (fun _ h9 => h9) rfl dX3_next_38 ?_
    refine lv_aload_n hx hb dX3_next_41 rfl (lv_at hl 0 rfl) ?_
    refine va_get (D := (dC, dI)) (ci := 3) (v := .int (zI (kRun isBl tx tk_size tk_behind))) (C := RX3) (T := TX3) (N := 7) hx hb hg inG_X3 hown hK hP 0 rfl rfl 4 (by decide) (hg (.fieldLink RX3 21 "AttributeDesk$Tokens" "at" "I") gw_1_167) (fun _ h9 => h9) rfl dX3_next_42 ?_
    refine zv_bald (D := (dC, dI)) hx hb hK hP 1 0 rfl rfl (by omega) (Nat.le_of_ble_eq_true rfl) dX3_next_45 ?_
    have hv3 := hTx (kRun isBl tx tk_size tk_behind) (by omega)
    refine lv_istore_n (lv' := [(1, .int (zI (tx (kRun isBl tx tk_size tk_behind)))), (0, .ref tk)]) hx hb dX3_next_46 rfl hl (by decide) rfl (fun ls hl => ?_)
    refine lv_iload_n hx hb dX3_next_47 rfl (lv_at hl 0 rfl) ?_
    have hPc := hP.sub (ws' := []) [] rfl
    have hDc := hD.sub (ws' := []) [] (by decide) rfl
    have hKc := hK.sub (tys' := []) [] rfl
    have hFc := va_free (wc := []) hD hS hA [] rfl
    refine va_calli (va_runS (As := [.int (zI (tx (kRun isBl tx tk_size tk_behind)))]) (rest := []) ⟨hx, hb, hml, hown, hg⟩ (c_X3_isLetter l dC dI H.size (tx (kRun isBl tx tk_size tk_behind)) (by omega)) (va_cwS 1 hg gc_X3_45 rfl rfl rfl (by decide +kernel) ⟨Nat.le_of_ble_eq_true rfl, Nat.le_of_ble_eq_true rfl⟩) ⟨fun a U g mk q => by obtain ⟨q0, q1, qP, qK, qD⟩ := q; exact ⟨q0, q1, qP, va_K.moved (u := U) (U := U.calling g mk a) (Vm.Alike.refl U.vm) qK, qD⟩, fun U hU hW => ⟨rfl, by rw [hU], by rw [hU]; exact hPc, va_K.moved hW.alike hKc, hDc.weaken (fun _ _ _ _ => trivial)⟩⟩ rfl rfl hl.1 rfl (lv_room (Nat.le_of_ble_eq_true rfl)) dX3_next_48 ⟨Nat.le_of_ble_eq_true rfl, Nat.le_of_ble_eq_true rfl⟩) hS (fun q _ h => hFc q h) hFc (fun r4 u4 t H1 locs ht hvm hw4 hB hz1 hk1 hS => ?_)
    obtain ⟨p0_5, hP1, hK1, hD1⟩ := hB
    rw [ht] at hP1
    have hK1 := va_K.moved hvm.symm hK1
    obtain ⟨hP, hD⟩ := va_join (wr := [(tk, .inr (3, [.ref tp, .int (zI tk_size), .int (zI tk_behind), .int (zI tk_kind), .int (zI (kRun isBl tx tk_size tk_behind)), .long (lI tk_name), .long (lI tk_number)])), (tp, .inl (cB, 3000, .inl (zF tx)))]) (w1 := []) hP hD [] [0, 1] rfl rfl (by decide) (by decide) hk1 hFc hP1 hD1
    have hK := (hK.sub (tys' := [(cB, .byte)]) [0] rfl).app hK1
    generalize H1 = H at hP hS ⊢
    have hP : va_P (dC, dI) vwCl [(tk, .inr (3, [.ref tp, .int (zI tk_size), .int (zI tk_behind), .int (zI tk_kind), .int (zI (kRun isBl tx tk_size tk_behind)), .long (lI tk_name), .long (lI tk_number)])), (tp, .inl (cB, 3000, .inl (zF tx)))] H := hP
    have hD : va_D A [(tk, .inr (3, [.ref tp, .int (zI tk_size), .int (zI tk_behind), .int (zI tk_kind), .int (zI (kRun isBl tx tk_size tk_behind)), .long (lI tk_name), .long (lI tk_number)])), (tp, .inl (cB, 3000, .inl (zF tx)))] := hD
    have hK : va_K (dC, dI) vwCl [(cB, .byte)] s := hK
    obtain rfl : r4 = zI u4 := hw4
    refine zv_if_eq (tgt := 61) hx hb dX3_next_51 (by decide) (by omega) (fun c6 => ?_) (fun c6 => ?_)
    · refine lv_iload_n hx hb dX3_next_61 rfl (lv_at hl 0 rfl) ?_
      have hPc := hP.sub (ws' := []) [] rfl
      have hDc := hD.sub (ws' := []) [] (by decide) rfl
      have hKc := hK.sub (tys' := []) [] rfl
      have hFc := va_free (wc := []) hD hS hA [] rfl
      refine va_calli (va_runS (As := [.int (zI (tx (kRun isBl tx tk_size tk_behind)))]) (rest := []) ⟨hx, hb, hml, hown, hg⟩ (c_X3_isDigit l dC dI H.size (tx (kRun isBl tx tk_size tk_behind)) (by omega)) (va_cwS 1 hg gc_X3_52 rfl rfl rfl (by decide +kernel) ⟨Nat.le_of_ble_eq_true rfl, Nat.le_of_ble_eq_true rfl⟩) ⟨fun a U g mk q => by obtain ⟨q0, q1, qP, qK, qD⟩ := q; exact ⟨q0, q1, qP, va_K.moved (u := U) (U := U.calling g mk a) (Vm.Alike.refl U.vm) qK, qD⟩, fun U hU hW => ⟨rfl, by rw [hU], by rw [hU]; exact hPc, va_K.moved hW.alike hKc, hDc.weaken (fun _ _ _ _ => trivial)⟩⟩ rfl rfl hl.1 rfl (lv_room (Nat.le_of_ble_eq_true rfl)) dX3_next_62 ⟨Nat.le_of_ble_eq_true rfl, Nat.le_of_ble_eq_true rfl⟩) hS (fun q _ h => hFc q h) hFc (fun r7 u7 t H1 locs ht hvm hw7 hB hz1 hk1 hS => ?_)
      obtain ⟨p0_8, hP1, hK1, hD1⟩ := hB
      rw [ht] at hP1
      have hK1 := va_K.moved hvm.symm hK1
      obtain ⟨hP, hD⟩ := va_join (wr := [(tk, .inr (3, [.ref tp, .int (zI tk_size), .int (zI tk_behind), .int (zI tk_kind), .int (zI (kRun isBl tx tk_size tk_behind)), .long (lI tk_name), .long (lI tk_number)])), (tp, .inl (cB, 3000, .inl (zF tx)))]) (w1 := []) hP hD [] [0, 1] rfl rfl (by decide) (by decide) hk1 hFc hP1 hD1
      have hK := (hK.sub (tys' := [(cB, .byte)]) [0] rfl).app hK1
      generalize H1 = H at hP hS ⊢
      have hP : va_P (dC, dI) vwCl [(tk, .inr (3, [.ref tp, .int (zI tk_size), .int (zI tk_behind), .int (zI tk_kind), .int (zI (kRun isBl tx tk_size tk_behind)), .long (lI tk_name), .long (lI tk_number)])), (tp, .inl (cB, 3000, .inl (zF tx)))] H := hP
      have hD : va_D A [(tk, .inr (3, [.ref tp, .int (zI tk_size), .int (zI tk_behind), .int (zI tk_kind), .int (zI (kRun isBl tx tk_size tk_behind)), .long (lI tk_name), .long (lI tk_number)])), (tp, .inl (cB, 3000, .inl (zF tx)))] := hD
      have hK : va_K (dC, dI) vwCl [(cB, .byte)] s := hK
      obtain rfl : r7 = zI u7 := hw7
      refine zv_if_eq (tgt := 75) hx hb dX3_next_65 (by decide) (by omega) (fun c9 => ?_) (fun c9 => ?_)
      · refine lv_aload_n hx hb dX3_next_75 rfl (lv_at hl 1 rfl) ?_
        refine lv_iload_n hx hb dX3_next_76 rfl (lv_at hl 0 rfl) ?_
        have hPc := hP.sub (ws' := []) [] rfl
        have hDc := hD.sub (ws' := []) [] (by decide) rfl
        have hKc := hK.sub (tys' := []) [] rfl
        have hFc := va_free (wc := []) hD hS hA [] rfl
        refine va_calli (va_runS (As := [.int (zI (tx (kRun isBl tx tk_size tk_behind)))]) (rest := [.ref tk]) ⟨hx, hb, hml, hown, hg⟩ (c_X3_isSign l dC dI H.size (tx (kRun isBl tx tk_size tk_behind)) (by omega)) (va_cwS 1 hg gc_X3_58 rfl rfl rfl (by decide +kernel) ⟨Nat.le_of_ble_eq_true rfl, Nat.le_of_ble_eq_true rfl⟩) ⟨fun a U g mk q => by obtain ⟨q0, q1, qP, qK, qD⟩ := q; exact ⟨q0, q1, qP, va_K.moved (u := U) (U := U.calling g mk a) (Vm.Alike.refl U.vm) qK, qD⟩, fun U hU hW => ⟨rfl, by rw [hU], by rw [hU]; exact hPc, va_K.moved hW.alike hKc, hDc.weaken (fun _ _ _ _ => trivial)⟩⟩ rfl rfl hl.1 rfl (lv_room (Nat.le_of_ble_eq_true rfl)) dX3_next_77 ⟨Nat.le_of_ble_eq_true rfl, Nat.le_of_ble_eq_true rfl⟩) hS (fun q _ h => hFc q h) hFc (fun r10 u10 t H1 locs ht hvm hw10 hB hz1 hk1 hS => ?_)
        obtain ⟨p0_11, hP1, hK1, hD1⟩ := hB
        rw [ht] at hP1
        have hK1 := va_K.moved hvm.symm hK1
        obtain ⟨hP, hD⟩ := va_join (wr := [(tk, .inr (3, [.ref tp, .int (zI tk_size), .int (zI tk_behind), .int (zI tk_kind), .int (zI (kRun isBl tx tk_size tk_behind)), .long (lI tk_name), .long (lI tk_number)])), (tp, .inl (cB, 3000, .inl (zF tx)))]) (w1 := []) hP hD [] [0, 1] rfl rfl (by decide) (by decide) hk1 hFc hP1 hD1
        have hK := (hK.sub (tys' := [(cB, .byte)]) [0] rfl).app hK1
        generalize H1 = H at hP hS ⊢
        have hP : va_P (dC, dI) vwCl [(tk, .inr (3, [.ref tp, .int (zI tk_size), .int (zI tk_behind), .int (zI tk_kind), .int (zI (kRun isBl tx tk_size tk_behind)), .long (lI tk_name), .long (lI tk_number)])), (tp, .inl (cB, 3000, .inl (zF tx)))] H := hP
        have hD : va_D A [(tk, .inr (3, [.ref tp, .int (zI tk_size), .int (zI tk_behind), .int (zI tk_kind), .int (zI (kRun isBl tx tk_size tk_behind)), .long (lI tk_name), .long (lI tk_number)])), (tp, .inl (cB, 3000, .inl (zF tx)))] := hD
        have hK : va_K (dC, dI) vwCl [(cB, .byte)] s := hK
        obtain rfl : r10 = zI u10 := hw10
        refine zv_if_eq (tgt := 87) hx hb dX3_next_80 (by decide) (by omega) (fun c12 => ?_) (fun c12 => ?_)
        · refine lv_iconst (v := zI (-1)) hx hb dX3_next_87 rfl ?_
          refine va_put (D := (dC, dI)) (ci := 3) (v := .int (zI (-1))) (ty := .int) (C := RX3) (T := TX3) (N := 7) hx hb hg inG_X3 tyX3 tyX3_ok nmX3 hown hK hP hD hS 0 rfl rfl 3 (by decide) (hg (.fieldLink RX3 18 "AttributeDesk$Tokens" "kind" "I") gw_1_163) (fun _ h9 => h9) rfl (by decide +kernel) rfl rfl (Nat.le_of_ble_eq_true rfl) dX3_next_88 (fun H locs hP hD hS => ?_)
          have hP : va_P (dC, dI) vwCl [(tk, .inr (3, [.ref tp, .int (zI tk_size), .int (zI tk_behind), .int (zI (-1)), .int (zI (kRun isBl tx tk_size tk_behind)), .long (lI tk_name), .long (lI tk_number)])), (tp, .inl (cB, 3000, .inl (zF tx)))] H := hP
          have hD : va_D A [(tk, .inr (3, [.ref tp, .int (zI tk_size), .int (zI tk_behind), .int (zI (-1)), .int (zI (kRun isBl tx tk_size tk_behind)), .long (lI tk_name), .long (lI tk_number)])), (tp, .inl (cB, 3000, .inl (zF tx)))] := hD
          refine lv_aload_n hx hb dX3_next_91 rfl (lv_at hl 1 rfl) ?_
          refine lv_aload_n hx hb dX3_next_92 rfl (lv_at hl 1 rfl) ?_
          refine va_get (D := (dC, dI)) (ci := 3) (v := .int (zI (kRun isBl tx tk_size tk_behind))) (C := RX3) (T := TX3) (N := 7) hx hb hg inG_X3 hown hK hP 0 rfl rfl 4 (by decide) (hg (.fieldLink RX3 21 "AttributeDesk$Tokens" "at" "I") gw_1_167) (fun _ h9 => h9) rfl dX3_next_93 ?_
          refine lv_iconst (v := zI 1) hx hb dX3_next_96 rfl ?_
          refine zv_iadd (r := (kRun isBl tx tk_size tk_behind) + 1) hx hb dX3_next_97 (by omega) ?_
          refine va_put (D := (dC, dI)) (ci := 3) (v := .int (zI ((kRun isBl tx tk_size tk_behind) + 1))) (ty := .int) (C := RX3) (T := TX3) (N := 7) hx hb hg inG_X3 tyX3 tyX3_ok nmX3 hown hK hP hD hS 0 rfl rfl 2 (by decide) (hg (.fieldLink RX3 15 "AttributeDesk$Tokens" "behind" "I") gw_1_162) (fun _ h9 => h9) rfl (by decide +kernel) rfl rfl (Nat.le_of_ble_eq_true rfl) dX3_next_98 (fun H locs hP hD hS => ?_)
          have hP : va_P (dC, dI) vwCl [(tk, .inr (3, [.ref tp, .int (zI tk_size), .int (zI ((kRun isBl tx tk_size tk_behind) + 1)), .int (zI (-1)), .int (zI (kRun isBl tx tk_size tk_behind)), .long (lI tk_name), .long (lI tk_number)])), (tp, .inl (cB, 3000, .inl (zF tx)))] H := hP
          have hD : va_D A [(tk, .inr (3, [.ref tp, .int (zI tk_size), .int (zI ((kRun isBl tx tk_size tk_behind) + 1)), .int (zI (-1)), .int (zI (kRun isBl tx tk_size tk_behind)), .long (lI tk_name), .long (lI tk_number)])), (tp, .inl (cB, 3000, .inl (zF tx)))] := hD
          have hKK := kA_bad (tx := tx) (n := tk_size) (a := (kRun isBl tx tk_size tk_behind)) (by omega) (fun z => by have z1 := isLt_t.mp z; omega) (fun z => by have z1 := isDg_t.mp z; omega) (fun z => by have z1 := isSg_t.mp z; omega)
          have q13 : (kBA tx tk_size (kRun isBl tx tk_size tk_behind)) = (kRun isBl tx tk_size tk_behind) + 1 := by omega
          have q14 : (kKA tx tk_size (kRun isBl tx tk_size tk_behind)) = -1 := by omega
          have hP9 : va_P (dC, dI) vwCl [(tk, .inr (3, [.ref tp, .int (zI tk_size), .int (zI (kBA tx tk_size (kRun isBl tx tk_size tk_behind))), .int (zI (kKA tx tk_size (kRun isBl tx tk_size tk_behind))), .int (zI (kRun isBl tx tk_size tk_behind)), .long (lI tk_name), .long (lI tk_number)])), (tp, .inl (cB, 3000, .inl (zF tx)))] H := by rw [q13, q14]; exact hP.sub (ws' := [(tk, .inr (3, [.ref tp, .int (zI tk_size), .int (zI ((kRun isBl tx tk_size tk_behind) + 1)), .int (zI (-1)), .int (zI (kRun isBl tx tk_size tk_behind)), .long (lI tk_name), .long (lI tk_number)])), (tp, .inl (cB, 3000, .inl (zF tx)))]) [0, 1] rfl
          have hD9 : va_D A [(tk, .inr (3, [.ref tp, .int (zI tk_size), .int (zI (kBA tx tk_size (kRun isBl tx tk_size tk_behind))), .int (zI (kKA tx tk_size (kRun isBl tx tk_size tk_behind))), .int (zI (kRun isBl tx tk_size tk_behind)), .long (lI tk_name), .long (lI tk_number)])), (tp, .inl (cB, 3000, .inl (zF tx)))] := by rw [q13, q14]; exact hD.sub (ws' := [(tk, .inr (3, [.ref tp, .int (zI tk_size), .int (zI ((kRun isBl tx tk_size tk_behind) + 1)), .int (zI (-1)), .int (zI (kRun isBl tx tk_size tk_behind)), .long (lI tk_name), .long (lI tk_number)])), (tp, .inl (cB, 3000, .inl (zF tx)))]) [0, 1] (by decide) rfl
          have hK9 := hK.sub (tys' := [(cB, .byte)]) [0] rfl
          exact W.vret hx hb hr (fun t ht hW => ⟨⟨(), rfl, trivial, tk_name, tk_number, (fun h => by have z := isLt_t.mp h.2.1; omega), (fun h => by have z := isDg_t.mp h.2; omega), (by omega), (by omega), by rw [ht]; exact hP9, va_K.moved hW.alike hK9, hD9⟩, hS.F ht⟩) hS.2.2 dX3_next_101
        · refine lv_iload_n hx hb dX3_next_83 rfl (lv_at hl 0 rfl) ?_
          refine lv_goto (tgt := 88) hx hb dX3_next_84 (by decide) ?_
          refine va_put (D := (dC, dI)) (ci := 3) (v := .int (zI (tx (kRun isBl tx tk_size tk_behind)))) (ty := .int) (C := RX3) (T := TX3) (N := 7) hx hb hg inG_X3 tyX3 tyX3_ok nmX3 hown hK hP hD hS 0 rfl rfl 3 (by decide) (hg (.fieldLink RX3 18 "AttributeDesk$Tokens" "kind" "I") gw_1_163) (fun _ h9 => h9) rfl (by decide +kernel) rfl rfl (Nat.le_of_ble_eq_true rfl) dX3_next_88 (fun H locs hP hD hS => ?_)
          have hP : va_P (dC, dI) vwCl [(tk, .inr (3, [.ref tp, .int (zI tk_size), .int (zI tk_behind), .int (zI (tx (kRun isBl tx tk_size tk_behind))), .int (zI (kRun isBl tx tk_size tk_behind)), .long (lI tk_name), .long (lI tk_number)])), (tp, .inl (cB, 3000, .inl (zF tx)))] H := hP
          have hD : va_D A [(tk, .inr (3, [.ref tp, .int (zI tk_size), .int (zI tk_behind), .int (zI (tx (kRun isBl tx tk_size tk_behind))), .int (zI (kRun isBl tx tk_size tk_behind)), .long (lI tk_name), .long (lI tk_number)])), (tp, .inl (cB, 3000, .inl (zF tx)))] := hD
          refine lv_aload_n hx hb dX3_next_91 rfl (lv_at hl 1 rfl) ?_
          refine lv_aload_n hx hb dX3_next_92 rfl (lv_at hl 1 rfl) ?_
          refine va_get (D := (dC, dI)) (ci := 3) (v := .int (zI (kRun isBl tx tk_size tk_behind))) (C := RX3) (T := TX3) (N := 7) hx hb hg inG_X3 hown hK hP 0 rfl rfl 4 (by decide) (hg (.fieldLink RX3 21 "AttributeDesk$Tokens" "at" "I") gw_1_167) (fun _ h9 => h9) rfl dX3_next_93 ?_
          refine lv_iconst (v := zI 1) hx hb dX3_next_96 rfl ?_
          refine zv_iadd (r := (kRun isBl tx tk_size tk_behind) + 1) hx hb dX3_next_97 (by omega) ?_
          refine va_put (D := (dC, dI)) (ci := 3) (v := .int (zI ((kRun isBl tx tk_size tk_behind) + 1))) (ty := .int) (C := RX3) (T := TX3) (N := 7) hx hb hg inG_X3 tyX3 tyX3_ok nmX3 hown hK hP hD hS 0 rfl rfl 2 (by decide) (hg (.fieldLink RX3 15 "AttributeDesk$Tokens" "behind" "I") gw_1_162) (fun _ h9 => h9) rfl (by decide +kernel) rfl rfl (Nat.le_of_ble_eq_true rfl) dX3_next_98 (fun H locs hP hD hS => ?_)
          have hP : va_P (dC, dI) vwCl [(tk, .inr (3, [.ref tp, .int (zI tk_size), .int (zI ((kRun isBl tx tk_size tk_behind) + 1)), .int (zI (tx (kRun isBl tx tk_size tk_behind))), .int (zI (kRun isBl tx tk_size tk_behind)), .long (lI tk_name), .long (lI tk_number)])), (tp, .inl (cB, 3000, .inl (zF tx)))] H := hP
          have hD : va_D A [(tk, .inr (3, [.ref tp, .int (zI tk_size), .int (zI ((kRun isBl tx tk_size tk_behind) + 1)), .int (zI (tx (kRun isBl tx tk_size tk_behind))), .int (zI (kRun isBl tx tk_size tk_behind)), .long (lI tk_name), .long (lI tk_number)])), (tp, .inl (cB, 3000, .inl (zF tx)))] := hD
          have hKK := kA_sgn (tx := tx) (n := tk_size) (a := (kRun isBl tx tk_size tk_behind)) (by omega) (isSg_t.mpr (by omega))
          have q15 : (kBA tx tk_size (kRun isBl tx tk_size tk_behind)) = (kRun isBl tx tk_size tk_behind) + 1 := by omega
          have q16 : (kKA tx tk_size (kRun isBl tx tk_size tk_behind)) = (tx (kRun isBl tx tk_size tk_behind)) := by omega
          have hP9 : va_P (dC, dI) vwCl [(tk, .inr (3, [.ref tp, .int (zI tk_size), .int (zI (kBA tx tk_size (kRun isBl tx tk_size tk_behind))), .int (zI (kKA tx tk_size (kRun isBl tx tk_size tk_behind))), .int (zI (kRun isBl tx tk_size tk_behind)), .long (lI tk_name), .long (lI tk_number)])), (tp, .inl (cB, 3000, .inl (zF tx)))] H := by rw [q15, q16]; exact hP.sub (ws' := [(tk, .inr (3, [.ref tp, .int (zI tk_size), .int (zI ((kRun isBl tx tk_size tk_behind) + 1)), .int (zI (tx (kRun isBl tx tk_size tk_behind))), .int (zI (kRun isBl tx tk_size tk_behind)), .long (lI tk_name), .long (lI tk_number)])), (tp, .inl (cB, 3000, .inl (zF tx)))]) [0, 1] rfl
          have hD9 : va_D A [(tk, .inr (3, [.ref tp, .int (zI tk_size), .int (zI (kBA tx tk_size (kRun isBl tx tk_size tk_behind))), .int (zI (kKA tx tk_size (kRun isBl tx tk_size tk_behind))), .int (zI (kRun isBl tx tk_size tk_behind)), .long (lI tk_name), .long (lI tk_number)])), (tp, .inl (cB, 3000, .inl (zF tx)))] := by rw [q15, q16]; exact hD.sub (ws' := [(tk, .inr (3, [.ref tp, .int (zI tk_size), .int (zI ((kRun isBl tx tk_size tk_behind) + 1)), .int (zI (tx (kRun isBl tx tk_size tk_behind))), .int (zI (kRun isBl tx tk_size tk_behind)), .long (lI tk_name), .long (lI tk_number)])), (tp, .inl (cB, 3000, .inl (zF tx)))]) [0, 1] (by decide) rfl
          have hK9 := hK.sub (tys' := [(cB, .byte)]) [0] rfl
          exact W.vret hx hb hr (fun t ht hW => ⟨⟨(), rfl, trivial, tk_name, tk_number, (fun h => by have z := isLt_t.mp h.2.1; omega), (fun h => by have z := isDg_t.mp h.2; omega), (by omega), (by omega), by rw [ht]; exact hP9, va_K.moved hW.alike hK9, hD9⟩, hS.F ht⟩) hS.2.2 dX3_next_101
      · refine lv_aload_n hx hb dX3_next_68 rfl (lv_at hl 1 rfl) ?_
        have hPc := hP.sub (ws' := [(tk, .inr (3, [.ref tp, .int (zI tk_size), .int (zI tk_behind), .int (zI tk_kind), .int (zI (kRun isBl tx tk_size tk_behind)), .long (lI tk_name), .long (lI tk_number)])), (tp, .inl (cB, 3000, .inl (zF tx)))]) [0, 1] rfl
        have hDc := hD.sub (ws' := [(tk, .inr (3, [.ref tp, .int (zI tk_size), .int (zI tk_behind), .int (zI tk_kind), .int (zI (kRun isBl tx tk_size tk_behind)), .long (lI tk_name), .long (lI tk_number)])), (tp, .inl (cB, 3000, .inl (zF tx)))]) [0, 1] (by decide) rfl
        have hKc := hK.sub (tys' := [(cB, .byte)]) [0] rfl
        have hFc := va_free (wc := [(tk, .inr (3, [.ref tp, .int (zI tk_size), .int (zI tk_behind), .int (zI tk_kind), .int (zI (kRun isBl tx tk_size tk_behind)), .long (lI tk_name), .long (lI tk_number)])), (tp, .inl (cB, 3000, .inl (zF tx)))]) hD hS hA [0, 1] rfl
        refine va_callv (va_runV (As := []) (rest := []) ⟨hx, hb, hml, hown, hg⟩ (c_X3_takeDigits l dC dI tk tp cB H.size tk_size tk_behind tk_kind (kRun isBl tx tk_size tk_behind) tk_name tk_number tx hTx (by omega) (by omega)) (cwV 0 hg gc_X3_55 rfl rfl rfl (by decide +kernel) ⟨Nat.le_of_ble_eq_true rfl, Nat.le_of_ble_eq_true rfl⟩) ⟨fun a U g mk q => by obtain ⟨q0, q1, qP, qK, qD⟩ := q; exact ⟨q0, q1, qP, va_K.moved (u := U) (U := U.calling g mk a) (Vm.Alike.refl U.vm) qK, qD⟩, va_recv hKc hPc (ci := 3) (q0 := 0) rfl rfl, fun U hU hW => ⟨rfl, by rw [hU], by rw [hU]; exact hPc, va_K.moved hW.alike hKc, hDc.weaken (fun _ _ _ _ => trivial)⟩⟩ rfl rfl hl.1 rfl (lv_room (Nat.le_of_ble_eq_true rfl)) dX3_next_69 ⟨Nat.le_of_ble_eq_true rfl, Nat.le_of_ble_eq_true rfl⟩) hS (fun q _ h => hFc q h) hFc (fun u17 t H1 locs ht hvm hw17 hB hz1 hk1 hS => ?_)
        obtain ⟨p0_18, hP1, hK1, hD1⟩ := hB
        rw [ht] at hP1
        have hK1 := va_K.moved hvm.symm hK1
        obtain ⟨hP, hD⟩ := va_join (wr := []) (w1 := [(tk, .inr (3, [.ref tp, .int (zI tk_size), .int (zI (kRun isDg tx tk_size (kRun isBl tx tk_size tk_behind))), .int (zI 2), .int (zI (kRun isBl tx tk_size tk_behind)), .long (lI tk_name), .long (lI (kDv tx tk_size (kRun isBl tx tk_size tk_behind) 0))])), (tp, .inl (cB, 3000, .inl (zF tx)))]) hP hD [0, 1] [] rfl rfl (by decide) (by decide) hk1 hFc hP1 hD1
        have hK := (hK.sub (tys' := []) [] rfl).app hK1
        generalize H1 = H at hP hS ⊢
        have hP : va_P (dC, dI) vwCl [(tk, .inr (3, [.ref tp, .int (zI tk_size), .int (zI (kRun isDg tx tk_size (kRun isBl tx tk_size tk_behind))), .int (zI 2), .int (zI (kRun isBl tx tk_size tk_behind)), .long (lI tk_name), .long (lI (kDv tx tk_size (kRun isBl tx tk_size tk_behind) 0))])), (tp, .inl (cB, 3000, .inl (zF tx)))] H := hP
        have hD : va_D A [(tk, .inr (3, [.ref tp, .int (zI tk_size), .int (zI (kRun isDg tx tk_size (kRun isBl tx tk_size tk_behind))), .int (zI 2), .int (zI (kRun isBl tx tk_size tk_behind)), .long (lI tk_name), .long (lI (kDv tx tk_size (kRun isBl tx tk_size tk_behind) 0))])), (tp, .inl (cB, 3000, .inl (zF tx)))] := hD
        have hK : va_K (dC, dI) vwCl [(cB, .byte)] s := hK
        refine lv_goto (tgt := 101) hx hb dX3_next_72 (by decide) ?_
        have hKK := kA_dig (tx := tx) (n := tk_size) (a := (kRun isBl tx tk_size tk_behind)) (by omega) (isDg_t.mpr (by omega))
        have q19 : (kBA tx tk_size (kRun isBl tx tk_size tk_behind)) = (kRun isDg tx tk_size (kRun isBl tx tk_size tk_behind)) := by omega
        have q20 : (kKA tx tk_size (kRun isBl tx tk_size tk_behind)) = 2 := by omega
        have hP9 : va_P (dC, dI) vwCl [(tk, .inr (3, [.ref tp, .int (zI tk_size), .int (zI (kBA tx tk_size (kRun isBl tx tk_size tk_behind))), .int (zI (kKA tx tk_size (kRun isBl tx tk_size tk_behind))), .int (zI (kRun isBl tx tk_size tk_behind)), .long (lI tk_name), .long (lI (kDv tx tk_size (kRun isBl tx tk_size tk_behind) 0))])), (tp, .inl (cB, 3000, .inl (zF tx)))] H := by rw [q19, q20]; exact hP.sub (ws' := [(tk, .inr (3, [.ref tp, .int (zI tk_size), .int (zI (kRun isDg tx tk_size (kRun isBl tx tk_size tk_behind))), .int (zI 2), .int (zI (kRun isBl tx tk_size tk_behind)), .long (lI tk_name), .long (lI (kDv tx tk_size (kRun isBl tx tk_size tk_behind) 0))])), (tp, .inl (cB, 3000, .inl (zF tx)))]) [0, 1] rfl
        have hD9 : va_D A [(tk, .inr (3, [.ref tp, .int (zI tk_size), .int (zI (kBA tx tk_size (kRun isBl tx tk_size tk_behind))), .int (zI (kKA tx tk_size (kRun isBl tx tk_size tk_behind))), .int (zI (kRun isBl tx tk_size tk_behind)), .long (lI tk_name), .long (lI (kDv tx tk_size (kRun isBl tx tk_size tk_behind) 0))])), (tp, .inl (cB, 3000, .inl (zF tx)))] := by rw [q19, q20]; exact hD.sub (ws' := [(tk, .inr (3, [.ref tp, .int (zI tk_size), .int (zI (kRun isDg tx tk_size (kRun isBl tx tk_size tk_behind))), .int (zI 2), .int (zI (kRun isBl tx tk_size tk_behind)), .long (lI tk_name), .long (lI (kDv tx tk_size (kRun isBl tx tk_size tk_behind) 0))])), (tp, .inl (cB, 3000, .inl (zF tx)))]) [0, 1] (by decide) rfl
        have hK9 := hK.sub (tys' := [(cB, .byte)]) [0] rfl
        exact W.vret hx hb hr (fun t ht hW => ⟨⟨(), rfl, trivial, tk_name, (kDv tx tk_size (kRun isBl tx tk_size tk_behind) 0), (fun h => by have z := isLt_t.mp h.2.1; omega), (fun _ => rfl), (by omega), (by omega), by rw [ht]; exact hP9, va_K.moved hW.alike hK9, hD9⟩, hS.F ht⟩) hS.2.2 dX3_next_101
    · refine lv_aload_n hx hb dX3_next_54 rfl (lv_at hl 1 rfl) ?_
      have hPc := hP.sub (ws' := [(tk, .inr (3, [.ref tp, .int (zI tk_size), .int (zI tk_behind), .int (zI tk_kind), .int (zI (kRun isBl tx tk_size tk_behind)), .long (lI tk_name), .long (lI tk_number)])), (tp, .inl (cB, 3000, .inl (zF tx)))]) [0, 1] rfl
      have hDc := hD.sub (ws' := [(tk, .inr (3, [.ref tp, .int (zI tk_size), .int (zI tk_behind), .int (zI tk_kind), .int (zI (kRun isBl tx tk_size tk_behind)), .long (lI tk_name), .long (lI tk_number)])), (tp, .inl (cB, 3000, .inl (zF tx)))]) [0, 1] (by decide) rfl
      have hKc := hK.sub (tys' := [(cB, .byte)]) [0] rfl
      have hFc := va_free (wc := [(tk, .inr (3, [.ref tp, .int (zI tk_size), .int (zI tk_behind), .int (zI tk_kind), .int (zI (kRun isBl tx tk_size tk_behind)), .long (lI tk_name), .long (lI tk_number)])), (tp, .inl (cB, 3000, .inl (zF tx)))]) hD hS hA [0, 1] rfl
      refine va_callv (va_runV (As := []) (rest := []) ⟨hx, hb, hml, hown, hg⟩ (c_X3_takeLetters l dC dI tk tp cB H.size tk_size tk_behind tk_kind (kRun isBl tx tk_size tk_behind) tk_name tk_number tx hTx (by omega) (by omega)) (cwV 0 hg gc_X3_49 rfl rfl rfl (by decide +kernel) ⟨Nat.le_of_ble_eq_true rfl, Nat.le_of_ble_eq_true rfl⟩) ⟨fun a U g mk q => by obtain ⟨q0, q1, qP, qK, qD⟩ := q; exact ⟨q0, q1, qP, va_K.moved (u := U) (U := U.calling g mk a) (Vm.Alike.refl U.vm) qK, qD⟩, va_recv hKc hPc (ci := 3) (q0 := 0) rfl rfl, fun U hU hW => ⟨rfl, by rw [hU], by rw [hU]; exact hPc, va_K.moved hW.alike hKc, hDc.weaken (fun _ _ _ _ => trivial)⟩⟩ rfl rfl hl.1 rfl (lv_room (Nat.le_of_ble_eq_true rfl)) dX3_next_55 ⟨Nat.le_of_ble_eq_true rfl, Nat.le_of_ble_eq_true rfl⟩) hS (fun q _ h => hFc q h) hFc (fun u21 t H1 locs ht hvm hw21 hB hz1 hk1 hS => ?_)
      obtain ⟨kd_22, nm_23, p0_24, p1_25, p2_26, hP1, hK1, hD1⟩ := hB
      rw [ht] at hP1
      have hK1 := va_K.moved hvm.symm hK1
      obtain ⟨hP, hD⟩ := va_join (wr := []) (w1 := [(tk, .inr (3, [.ref tp, .int (zI tk_size), .int (zI (kRun isLt tx tk_size (kRun isBl tx tk_size tk_behind))), .int (zI kd_22), .int (zI (kRun isBl tx tk_size tk_behind)), .long (lI nm_23), .long (lI tk_number)])), (tp, .inl (cB, 3000, .inl (zF tx)))]) hP hD [0, 1] [] rfl rfl (by decide) (by decide) hk1 hFc hP1 hD1
      have hK := (hK.sub (tys' := []) [] rfl).app hK1
      generalize H1 = H at hP hS ⊢
      have hP : va_P (dC, dI) vwCl [(tk, .inr (3, [.ref tp, .int (zI tk_size), .int (zI (kRun isLt tx tk_size (kRun isBl tx tk_size tk_behind))), .int (zI kd_22), .int (zI (kRun isBl tx tk_size tk_behind)), .long (lI nm_23), .long (lI tk_number)])), (tp, .inl (cB, 3000, .inl (zF tx)))] H := hP
      have hD : va_D A [(tk, .inr (3, [.ref tp, .int (zI tk_size), .int (zI (kRun isLt tx tk_size (kRun isBl tx tk_size tk_behind))), .int (zI kd_22), .int (zI (kRun isBl tx tk_size tk_behind)), .long (lI nm_23), .long (lI tk_number)])), (tp, .inl (cB, 3000, .inl (zF tx)))] := hD
      have hK : va_K (dC, dI) vwCl [(cB, .byte)] s := hK
      refine lv_goto (tgt := 101) hx hb dX3_next_58 (by decide) ?_
      have hKK := kA_let (tx := tx) (n := tk_size) (a := (kRun isBl tx tk_size tk_behind)) (by omega) (isLt_t.mpr (by omega))
      have q27 : (kBA tx tk_size (kRun isBl tx tk_size tk_behind)) = (kRun isLt tx tk_size (kRun isBl tx tk_size tk_behind)) := by omega
      have q28 : (kKA tx tk_size (kRun isBl tx tk_size tk_behind)) = kd_22 := by omega
      have hP9 : va_P (dC, dI) vwCl [(tk, .inr (3, [.ref tp, .int (zI tk_size), .int (zI (kBA tx tk_size (kRun isBl tx tk_size tk_behind))), .int (zI (kKA tx tk_size (kRun isBl tx tk_size tk_behind))), .int (zI (kRun isBl tx tk_size tk_behind)), .long (lI nm_23), .long (lI tk_number)])), (tp, .inl (cB, 3000, .inl (zF tx)))] H := by rw [q27, q28]; exact hP.sub (ws' := [(tk, .inr (3, [.ref tp, .int (zI tk_size), .int (zI (kRun isLt tx tk_size (kRun isBl tx tk_size tk_behind))), .int (zI kd_22), .int (zI (kRun isBl tx tk_size tk_behind)), .long (lI nm_23), .long (lI tk_number)])), (tp, .inl (cB, 3000, .inl (zF tx)))]) [0, 1] rfl
      have hD9 : va_D A [(tk, .inr (3, [.ref tp, .int (zI tk_size), .int (zI (kBA tx tk_size (kRun isBl tx tk_size tk_behind))), .int (zI (kKA tx tk_size (kRun isBl tx tk_size tk_behind))), .int (zI (kRun isBl tx tk_size tk_behind)), .long (lI nm_23), .long (lI tk_number)])), (tp, .inl (cB, 3000, .inl (zF tx)))] := by rw [q27, q28]; exact hD.sub (ws' := [(tk, .inr (3, [.ref tp, .int (zI tk_size), .int (zI (kRun isLt tx tk_size (kRun isBl tx tk_size tk_behind))), .int (zI kd_22), .int (zI (kRun isBl tx tk_size tk_behind)), .long (lI nm_23), .long (lI tk_number)])), (tp, .inl (cB, 3000, .inl (zF tx)))]) [0, 1] (by decide) rfl
      have hK9 := hK.sub (tys' := [(cB, .byte)]) [0] rfl
      exact W.vret hx hb hr (fun t ht hW => ⟨⟨(), rfl, trivial, nm_23, tk_number, (fun h => p1_25 h.2.2), (fun h => by have z := isDg_t.mp h.2; omega), (by omega), (by omega), by rw [ht]; exact hP9, va_K.moved hW.alike hK9, hD9⟩, hS.F ht⟩) hS.2.2 dX3_next_101
  · refine lv_aload_n hx hb dX3_next_23 rfl (lv_at hl 0 rfl) ?_
    refine lv_iconst (v := zI 0) hx hb dX3_next_24 rfl ?_
    refine va_put (D := (dC, dI)) (ci := 3) (v := .int (zI 0)) (ty := .int) (C := RX3) (T := TX3) (N := 7) hx hb hg inG_X3 tyX3 tyX3_ok nmX3 hown hK hP hD hS 0 rfl rfl 3 (by decide) (hg (.fieldLink RX3 18 "AttributeDesk$Tokens" "kind" "I") gw_1_163) (fun _ h9 => h9) rfl (by decide +kernel) rfl rfl (Nat.le_of_ble_eq_true rfl) dX3_next_25 (fun H locs hP hD hS => ?_)
    have hP : va_P (dC, dI) vwCl [(tk, .inr (3, [.ref tp, .int (zI tk_size), .int (zI tk_behind), .int (zI 0), .int (zI (kRun isBl tx tk_size tk_behind)), .long (lI tk_name), .long (lI tk_number)])), (tp, .inl (cB, 3000, .inl (zF tx)))] H := hP
    have hD : va_D A [(tk, .inr (3, [.ref tp, .int (zI tk_size), .int (zI tk_behind), .int (zI 0), .int (zI (kRun isBl tx tk_size tk_behind)), .long (lI tk_name), .long (lI tk_number)])), (tp, .inl (cB, 3000, .inl (zF tx)))] := hD
    refine lv_aload_n hx hb dX3_next_28 rfl (lv_at hl 0 rfl) ?_
    refine lv_aload_n hx hb dX3_next_29 rfl (lv_at hl 0 rfl) ?_
    refine va_get (D := (dC, dI)) (ci := 3) (v := .int (zI tk_size)) (C := RX3) (T := TX3) (N := 7) hx hb hg inG_X3 hown hK hP 0 rfl rfl 1 (by decide) (hg (.fieldLink RX3 9 "AttributeDesk$Tokens" "size" "I") gw_1_161) (fun _ h9 => h9) rfl dX3_next_30 ?_
    refine va_put (D := (dC, dI)) (ci := 3) (v := .int (zI tk_size)) (ty := .int) (C := RX3) (T := TX3) (N := 7) hx hb hg inG_X3 tyX3 tyX3_ok nmX3 hown hK hP hD hS 0 rfl rfl 2 (by decide) (hg (.fieldLink RX3 15 "AttributeDesk$Tokens" "behind" "I") gw_1_162) (fun _ h9 => h9) rfl (by decide +kernel) rfl rfl (Nat.le_of_ble_eq_true rfl) dX3_next_33 (fun H locs hP hD hS => ?_)
    have hP : va_P (dC, dI) vwCl [(tk, .inr (3, [.ref tp, .int (zI tk_size), .int (zI tk_size), .int (zI 0), .int (zI (kRun isBl tx tk_size tk_behind)), .long (lI tk_name), .long (lI tk_number)])), (tp, .inl (cB, 3000, .inl (zF tx)))] H := hP
    have hD : va_D A [(tk, .inr (3, [.ref tp, .int (zI tk_size), .int (zI tk_size), .int (zI 0), .int (zI (kRun isBl tx tk_size tk_behind)), .long (lI tk_name), .long (lI tk_number)])), (tp, .inl (cB, 3000, .inl (zF tx)))] := hD
    have hKK := kA_end (tx := tx) (n := tk_size) (a := (kRun isBl tx tk_size tk_behind)) (by omega)
    have q29 : (kBA tx tk_size (kRun isBl tx tk_size tk_behind)) = tk_size := by omega
    have q30 : (kKA tx tk_size (kRun isBl tx tk_size tk_behind)) = 0 := by omega
    have hP9 : va_P (dC, dI) vwCl [(tk, .inr (3, [.ref tp, .int (zI tk_size), .int (zI (kBA tx tk_size (kRun isBl tx tk_size tk_behind))), .int (zI (kKA tx tk_size (kRun isBl tx tk_size tk_behind))), .int (zI (kRun isBl tx tk_size tk_behind)), .long (lI tk_name), .long (lI tk_number)])), (tp, .inl (cB, 3000, .inl (zF tx)))] H := by rw [q29, q30]; exact hP.sub (ws' := [(tk, .inr (3, [.ref tp, .int (zI tk_size), .int (zI tk_size), .int (zI 0), .int (zI (kRun isBl tx tk_size tk_behind)), .long (lI tk_name), .long (lI tk_number)])), (tp, .inl (cB, 3000, .inl (zF tx)))]) [0, 1] rfl
    have hD9 : va_D A [(tk, .inr (3, [.ref tp, .int (zI tk_size), .int (zI (kBA tx tk_size (kRun isBl tx tk_size tk_behind))), .int (zI (kKA tx tk_size (kRun isBl tx tk_size tk_behind))), .int (zI (kRun isBl tx tk_size tk_behind)), .long (lI tk_name), .long (lI tk_number)])), (tp, .inl (cB, 3000, .inl (zF tx)))] := by rw [q29, q30]; exact hD.sub (ws' := [(tk, .inr (3, [.ref tp, .int (zI tk_size), .int (zI tk_size), .int (zI 0), .int (zI (kRun isBl tx tk_size tk_behind)), .long (lI tk_name), .long (lI tk_number)])), (tp, .inl (cB, 3000, .inl (zF tx)))]) [0, 1] (by decide) rfl
    have hK9 := hK.sub (tys' := [(cB, .byte)]) [0] rfl
    exact W.vret hx hb hr (fun t ht hW => ⟨⟨(), rfl, trivial, tk_name, tk_number, (fun h => by have z := isLt_t.mp h.2.1; omega), (fun h => by have z := isDg_t.mp h.2; omega), (by omega), (by omega), by rw [ht]; exact hP9, va_K.moved hW.alike hK9, hD9⟩, hS.F ht⟩) hS.2.2 dX3_next_36
