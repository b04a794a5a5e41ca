/-- a private method of a class that the tables say can be made, by its rows of tables_1 -/
def lw_okq (q : MethodName × Nat) : Prop := (q.1.cls ≠ "java/lang/invoke/MethodHandle" ∧ q.1.cls ≠ "java/lang/invoke/VarHandle") ∧ Cond.instantiable q.1.cls q.2 ∈ tables_1 ∧ Cond.privateMethod q.1 ∈ tables_1 ∧ Cond.instanceMethod q.1 ∈ tables_1
theorem ta_1 : ∀ w ∈ tables_1_1, w ∈ tables_1 := fun _ h => List.mem_append_left _ h
theorem ta_2 : ∀ w ∈ tables_1_2, w ∈ tables_1 := fun _ h => List.mem_append_right _ (List.mem_append_left _ h)
theorem ta_3 : ∀ w ∈ tables_1_3, w ∈ tables_1 := fun _ h => List.mem_append_right _ (List.mem_append_right _ (List.mem_append_left _ h))
theorem ta_4 : ∀ w ∈ tables_1_4, w ∈ tables_1 := fun _ h => List.mem_append_right _ (List.mem_append_right _ (List.mem_append_right _ (List.mem_append_left _ h)))
theorem ta_5 : ∀ w ∈ tables_1_5, w ∈ tables_1 := fun _ h => List.mem_append_right _ (List.mem_append_right _ (List.mem_append_right _ (List.mem_append_right _ (List.mem_append_left _ h))))
theorem ta_6 : ∀ w ∈ tables_1_6, w ∈ tables_1 := fun _ h => List.mem_append_right _ (List.mem_append_right _ (List.mem_append_right _ (List.mem_append_right _ (List.mem_append_right _ (List.mem_append_left _ h)))))
theorem ta_7 : ∀ w ∈ tables_1_7, w ∈ tables_1 := fun _ h => List.mem_append_right _ (List.mem_append_right _ (List.mem_append_right _ (List.mem_append_right _ (List.mem_append_right _ (List.mem_append_right _ h)))))
theorem lw_p0 : lw_okq (yX8_inheritance, 13) := ⟨⟨by decide +kernel, by decide +kernel⟩, ta_1 _ (List.mem_of_getElem? (i := 13) rfl), ta_4 _ (List.mem_of_getElem? (i := 109) rfl), ta_4 _ (List.mem_of_getElem? (i := 110) rfl)⟩
theorem lw_p1 : lw_okq (yX8_isItem, 13) := ⟨⟨by decide +kernel, by decide +kernel⟩, ta_1 _ (List.mem_of_getElem? (i := 13) rfl), ta_4 _ (List.mem_of_getElem? (i := 159) rfl), ta_4 _ (List.mem_of_getElem? (i := 160) rfl)⟩
theorem lw_p2 : lw_okq (yX8_isNode, 13) := ⟨⟨by decide +kernel, by decide +kernel⟩, ta_1 _ (List.mem_of_getElem? (i := 13) rfl), ta_4 _ (List.mem_of_getElem? (i := 142) rfl), ta_4 _ (List.mem_of_getElem? (i := 143) rfl)⟩
theorem lw_p3 : lw_okq (yX8_keepFault, 13) := ⟨⟨by decide +kernel, by decide +kernel⟩, ta_1 _ (List.mem_of_getElem? (i := 13) rfl), ta_3 _ (List.mem_of_getElem? (i := 208) rfl), ta_3 _ (List.mem_of_getElem? (i := 209) rfl)⟩
theorem lw_p4 : lw_okq (yX8_putWord, 13) := ⟨⟨by decide +kernel, by decide +kernel⟩, ta_1 _ (List.mem_of_getElem? (i := 13) rfl), ta_2 _ (List.mem_of_getElem? (i := 205) rfl), ta_2 _ (List.mem_of_getElem? (i := 206) rfl)⟩
theorem lw_p5 : lw_okq (yX8_symbolOf, 13) := ⟨⟨by decide +kernel, by decide +kernel⟩, ta_1 _ (List.mem_of_getElem? (i := 13) rfl), ta_4 _ (List.mem_of_getElem? (i := 146) rfl), ta_4 _ (List.mem_of_getElem? (i := 147) rfl)⟩
theorem lw_p6 : lw_okq (yX0_await, 11) := ⟨⟨by decide +kernel, by decide +kernel⟩, ta_1 _ (List.mem_of_getElem? (i := 199) rfl), ta_3 _ (List.mem_of_getElem? (i := 62) rfl), ta_3 _ (List.mem_of_getElem? (i := 63) rfl)⟩
theorem lw_p7 : lw_okq (yX0_binary, 11) := ⟨⟨by decide +kernel, by decide +kernel⟩, ta_1 _ (List.mem_of_getElem? (i := 199) rfl), ta_3 _ (List.mem_of_getElem? (i := 94) rfl), ta_3 _ (List.mem_of_getElem? (i := 95) rfl)⟩
theorem lw_p8 : lw_okq (yX0_closeParenthesis, 11) := ⟨⟨by decide +kernel, by decide +kernel⟩, ta_1 _ (List.mem_of_getElem? (i := 199) rfl), ta_3 _ (List.mem_of_getElem? (i := 102) rfl), ta_3 _ (List.mem_of_getElem? (i := 103) rfl)⟩
theorem lw_p9 : lw_okq (yX0_compare, 11) := ⟨⟨by decide +kernel, by decide +kernel⟩, ta_1 _ (List.mem_of_getElem? (i := 199) rfl), ta_3 _ (List.mem_of_getElem? (i := 98) rfl), ta_3 _ (List.mem_of_getElem? (i := 99) rfl)⟩
theorem lw_p10 : lw_okq (yX0_emitOperand, 11) := ⟨⟨by decide +kernel, by decide +kernel⟩, ta_1 _ (List.mem_of_getElem? (i := 199) rfl), ta_3 _ (List.mem_of_getElem? (i := 42) rfl), ta_3 _ (List.mem_of_getElem? (i := 43) rfl)⟩
theorem lw_p11 : lw_okq (yX0_finish, 11) := ⟨⟨by decide +kernel, by decide +kernel⟩, ta_1 _ (List.mem_of_getElem? (i := 199) rfl), ta_3 _ (List.mem_of_getElem? (i := 110) rfl), ta_3 _ (List.mem_of_getElem? (i := 111) rfl)⟩
theorem lw_p12 : lw_okq (yX0_isOneTooMany, 11) := ⟨⟨by decide +kernel, by decide +kernel⟩, ta_1 _ (List.mem_of_getElem? (i := 199) rfl), ta_3 _ (List.mem_of_getElem? (i := 38) rfl), ta_3 _ (List.mem_of_getElem? (i := 39) rfl)⟩
theorem lw_p13 : lw_okq (yX0_occDot, 11) := ⟨⟨by decide +kernel, by decide +kernel⟩, ta_1 _ (List.mem_of_getElem? (i := 199) rfl), ta_3 _ (List.mem_of_getElem? (i := 74) rfl), ta_3 _ (List.mem_of_getElem? (i := 75) rfl)⟩
theorem lw_p14 : lw_okq (yX0_occName, 11) := ⟨⟨by decide +kernel, by decide +kernel⟩, ta_1 _ (List.mem_of_getElem? (i := 199) rfl), ta_3 _ (List.mem_of_getElem? (i := 78) rfl), ta_3 _ (List.mem_of_getElem? (i := 79) rfl)⟩
theorem lw_p15 : lw_okq (yX0_occNumber, 11) := ⟨⟨by decide +kernel, by decide +kernel⟩, ta_1 _ (List.mem_of_getElem? (i := 199) rfl), ta_3 _ (List.mem_of_getElem? (i := 34) rfl), ta_3 _ (List.mem_of_getElem? (i := 35) rfl)⟩
theorem lw_p16 : lw_okq (yX0_open, 11) := ⟨⟨by decide +kernel, by decide +kernel⟩, ta_1 _ (List.mem_of_getElem? (i := 199) rfl), ta_3 _ (List.mem_of_getElem? (i := 58) rfl), ta_3 _ (List.mem_of_getElem? (i := 59) rfl)⟩
theorem lw_p17 : lw_okq (yX0_operand, 11) := ⟨⟨by decide +kernel, by decide +kernel⟩, ta_1 _ (List.mem_of_getElem? (i := 199) rfl), ta_3 _ (List.mem_of_getElem? (i := 26) rfl), ta_3 _ (List.mem_of_getElem? (i := 27) rfl)⟩
theorem lw_p18 : lw_okq (yX0_operator, 11) := ⟨⟨by decide +kernel, by decide +kernel⟩, ta_1 _ (List.mem_of_getElem? (i := 199) rfl), ta_3 _ (List.mem_of_getElem? (i := 90) rfl), ta_3 _ (List.mem_of_getElem? (i := 91) rfl)⟩
theorem lw_p19 : lw_okq (yX0_settle, 11) := ⟨⟨by decide +kernel, by decide +kernel⟩, ta_1 _ (List.mem_of_getElem? (i := 199) rfl), ta_3 _ (List.mem_of_getElem? (i := 51) rfl), ta_3 _ (List.mem_of_getElem? (i := 52) rfl)⟩
theorem lw_p20 : lw_okq (yX0_top, 11) := ⟨⟨by decide +kernel, by decide +kernel⟩, ta_1 _ (List.mem_of_getElem? (i := 199) rfl), ta_3 _ (List.mem_of_getElem? (i := 70) rfl), ta_3 _ (List.mem_of_getElem? (i := 71) rfl)⟩
theorem lw_p21 : lw_okq (yX0_topBinds, 11) := ⟨⟨by decide +kernel, by decide +kernel⟩, ta_1 _ (List.mem_of_getElem? (i := 199) rfl), ta_3 _ (List.mem_of_getElem? (i := 66) rfl), ta_3 _ (List.mem_of_getElem? (i := 67) rfl)⟩
theorem lw_p22 : lw_okq (yX0_turn, 11) := ⟨⟨by decide +kernel, by decide +kernel⟩, ta_1 _ (List.mem_of_getElem? (i := 199) rfl), ta_3 _ (List.mem_of_getElem? (i := 106) rfl), ta_3 _ (List.mem_of_getElem? (i := 107) rfl)⟩
theorem lw_p23 : lw_okq (yX2_attributeName, 7) := ⟨⟨by decide +kernel, by decide +kernel⟩, ta_1 _ (List.mem_of_getElem? (i := 193) rfl), ta_3 _ (List.mem_of_getElem? (i := 142) rfl), ta_3 _ (List.mem_of_getElem? (i := 143) rfl)⟩
theorem lw_p24 : lw_okq (yX2_behindRule, 7) := ⟨⟨by decide +kernel, by decide +kernel⟩, ta_1 _ (List.mem_of_getElem? (i := 193) rfl), ta_3 _ (List.mem_of_getElem? (i := 192) rfl), ta_3 _ (List.mem_of_getElem? (i := 193) rfl)⟩
theorem lw_p25 : lw_okq (yX2_go, 7) := ⟨⟨by decide +kernel, by decide +kernel⟩, ta_1 _ (List.mem_of_getElem? (i := 193) rfl), ta_3 _ (List.mem_of_getElem? (i := 134) rfl), ta_3 _ (List.mem_of_getElem? (i := 135) rfl)⟩
theorem lw_p26 : lw_okq (yX2_goIf, 7) := ⟨⟨by decide +kernel, by decide +kernel⟩, ta_1 _ (List.mem_of_getElem? (i := 193) rfl), ta_3 _ (List.mem_of_getElem? (i := 151) rfl), ta_3 _ (List.mem_of_getElem? (i := 152) rfl)⟩
theorem lw_p27 : lw_okq (yX2_lacksEquation, 7) := ⟨⟨by decide +kernel, by decide +kernel⟩, ta_1 _ (List.mem_of_getElem? (i := 193) rfl), ta_3 _ (List.mem_of_getElem? (i := 183) rfl), ta_3 _ (List.mem_of_getElem? (i := 184) rfl)⟩
theorem lw_p28 : lw_okq (yX2_ruleBody, 7) := ⟨⟨by decide +kernel, by decide +kernel⟩, ta_1 _ (List.mem_of_getElem? (i := 193) rfl), ta_3 _ (List.mem_of_getElem? (i := 179) rfl), ta_3 _ (List.mem_of_getElem? (i := 180) rfl)⟩
theorem lw_p29 : lw_okq (yX2_ruleChild, 7) := ⟨⟨by decide +kernel, by decide +kernel⟩, ta_1 _ (List.mem_of_getElem? (i := 193) rfl), ta_3 _ (List.mem_of_getElem? (i := 175) rfl), ta_3 _ (List.mem_of_getElem? (i := 176) rfl)⟩
theorem lw_p30 : lw_okq (yX2_ruleHead, 7) := ⟨⟨by decide +kernel, by decide +kernel⟩, ta_1 _ (List.mem_of_getElem? (i := 193) rfl), ta_3 _ (List.mem_of_getElem? (i := 171) rfl), ta_3 _ (List.mem_of_getElem? (i := 172) rfl)⟩
theorem lw_p31 : lw_okq (yX2_ruleName, 7) := ⟨⟨by decide +kernel, by decide +kernel⟩, ta_1 _ (List.mem_of_getElem? (i := 193) rfl), ta_3 _ (List.mem_of_getElem? (i := 159) rfl), ta_3 _ (List.mem_of_getElem? (i := 160) rfl)⟩
theorem lw_p32 : lw_okq (yX2_ruleStep, 7) := ⟨⟨by decide +kernel, by decide +kernel⟩, ta_1 _ (List.mem_of_getElem? (i := 193) rfl), ta_3 _ (List.mem_of_getElem? (i := 155) rfl), ta_3 _ (List.mem_of_getElem? (i := 156) rfl)⟩
theorem lw_p33 : lw_okq (yX2_step, 7) := ⟨⟨by decide +kernel, by decide +kernel⟩, ta_1 _ (List.mem_of_getElem? (i := 193) rfl), ta_3 _ (List.mem_of_getElem? (i := 114) rfl), ta_3 _ (List.mem_of_getElem? (i := 115) rfl)⟩
theorem lw_p34 : lw_okq (yX2_symbolBody, 7) := ⟨⟨by decide +kernel, by decide +kernel⟩, ta_1 _ (List.mem_of_getElem? (i := 193) rfl), ta_3 _ (List.mem_of_getElem? (i := 138) rfl), ta_3 _ (List.mem_of_getElem? (i := 139) rfl)⟩
theorem lw_p35 : lw_okq (yX2_symbolName, 7) := ⟨⟨by decide +kernel, by decide +kernel⟩, ta_1 _ (List.mem_of_getElem? (i := 193) rfl), ta_3 _ (List.mem_of_getElem? (i := 122) rfl), ta_3 _ (List.mem_of_getElem? (i := 123) rfl)⟩
theorem lw_p36 : lw_okq (yX2_symbolStep, 7) := ⟨⟨by decide +kernel, by decide +kernel⟩, ta_1 _ (List.mem_of_getElem? (i := 193) rfl), ta_3 _ (List.mem_of_getElem? (i := 118) rfl), ta_3 _ (List.mem_of_getElem? (i := 119) rfl)⟩
theorem lw_p37 : lw_okq (yX2_targetName, 7) := ⟨⟨by decide +kernel, by decide +kernel⟩, ta_1 _ (List.mem_of_getElem? (i := 193) rfl), ta_3 _ (List.mem_of_getElem? (i := 200) rfl), ta_3 _ (List.mem_of_getElem? (i := 201) rfl)⟩
theorem lw_p38 : lw_okq (yX2_targetStep, 7) := ⟨⟨by decide +kernel, by decide +kernel⟩, ta_1 _ (List.mem_of_getElem? (i := 193) rfl), ta_3 _ (List.mem_of_getElem? (i := 196) rfl), ta_3 _ (List.mem_of_getElem? (i := 197) rfl)⟩
theorem lw_p39 : lw_okq (yX3_skipBlanks, 7) := ⟨⟨by decide +kernel, by decide +kernel⟩, ta_1 _ (List.mem_of_getElem? (i := 155) rfl), ta_2 _ (List.mem_of_getElem? (i := 236) rfl), ta_2 _ (List.mem_of_getElem? (i := 237) rfl)⟩
theorem lw_p40 : lw_okq (yX3_takeDigits, 7) := ⟨⟨by decide +kernel, by decide +kernel⟩, ta_1 _ (List.mem_of_getElem? (i := 155) rfl), ta_3 _ (List.mem_of_getElem? (i := 13) rfl), ta_3 _ (List.mem_of_getElem? (i := 14) rfl)⟩
theorem lw_p41 : lw_okq (yX3_takeLetters, 7) := ⟨⟨by decide +kernel, by decide +kernel⟩, ta_1 _ (List.mem_of_getElem? (i := 155) rfl), ta_3 _ (List.mem_of_getElem? (i := 3) rfl), ta_3 _ (List.mem_of_getElem? (i := 4) rfl)⟩
theorem lw_p42 : lw_okq (yX5_childOrEnd, 7) := ⟨⟨by decide +kernel, by decide +kernel⟩, ta_2 _ (List.mem_of_getElem? (i := 22) rfl), ta_4 _ (List.mem_of_getElem? (i := 97) rfl), ta_4 _ (List.mem_of_getElem? (i := 98) rfl)⟩
theorem lw_p43 : lw_okq (yX5_dueSymbol, 7) := ⟨⟨by decide +kernel, by decide +kernel⟩, ta_2 _ (List.mem_of_getElem? (i := 22) rfl), ta_4 _ (List.mem_of_getElem? (i := 88) rfl), ta_4 _ (List.mem_of_getElem? (i := 89) rfl)⟩
theorem lw_p44 : lw_okq (yX5_go, 7) := ⟨⟨by decide +kernel, by decide +kernel⟩, ta_2 _ (List.mem_of_getElem? (i := 22) rfl), ta_4 _ (List.mem_of_getElem? (i := 78) rfl), ta_4 _ (List.mem_of_getElem? (i := 79) rfl)⟩
theorem lw_p45 : lw_okq (yX5_openNode, 7) := ⟨⟨by decide +kernel, by decide +kernel⟩, ta_2 _ (List.mem_of_getElem? (i := 22) rfl), ta_4 _ (List.mem_of_getElem? (i := 74) rfl), ta_4 _ (List.mem_of_getElem? (i := 75) rfl)⟩
theorem lw_p46 : lw_okq (yX5_ownNumber, 7) := ⟨⟨by decide +kernel, by decide +kernel⟩, ta_2 _ (List.mem_of_getElem? (i := 22) rfl), ta_4 _ (List.mem_of_getElem? (i := 92) rfl), ta_4 _ (List.mem_of_getElem? (i := 93) rfl)⟩
theorem lw_p47 : lw_okq (yX5_ruleName, 7) := ⟨⟨by decide +kernel, by decide +kernel⟩, ta_2 _ (List.mem_of_getElem? (i := 22) rfl), ta_4 _ (List.mem_of_getElem? (i := 82) rfl), ta_4 _ (List.mem_of_getElem? (i := 83) rfl)⟩
theorem lw_p48 : lw_okq (yX5_step, 7) := ⟨⟨by decide +kernel, by decide +kernel⟩, ta_2 _ (List.mem_of_getElem? (i := 22) rfl), ta_4 _ (List.mem_of_getElem? (i := 70) rfl), ta_4 _ (List.mem_of_getElem? (i := 71) rfl)⟩
theorem lw_p49 : lw_okq (yX6_addGraph, 15) := ⟨⟨by decide +kernel, by decide +kernel⟩, ta_2 _ (List.mem_of_getElem? (i := 50) rfl), ta_4 _ (List.mem_of_getElem? (i := 52) rfl), ta_4 _ (List.mem_of_getElem? (i := 53) rfl)⟩
theorem lw_p50 : lw_okq (yX6_childrenHaveTrees, 15) := ⟨⟨by decide +kernel, by decide +kernel⟩, ta_2 _ (List.mem_of_getElem? (i := 50) rfl), ta_4 _ (List.mem_of_getElem? (i := 21) rfl), ta_4 _ (List.mem_of_getElem? (i := 22) rfl)⟩
theorem lw_p51 : lw_okq (yX6_clearExact, 15) := ⟨⟨by decide +kernel, by decide +kernel⟩, ta_2 _ (List.mem_of_getElem? (i := 50) rfl), ta_4 _ (List.mem_of_getElem? (i := 33) rfl), ta_4 _ (List.mem_of_getElem? (i := 34) rfl)⟩
theorem lw_p52 : lw_okq (yX6_closeRows, 15) := ⟨⟨by decide +kernel, by decide +kernel⟩, ta_2 _ (List.mem_of_getElem? (i := 50) rfl), ta_4 _ (List.mem_of_getElem? (i := 5) rfl), ta_4 _ (List.mem_of_getElem? (i := 6) rfl)⟩
theorem lw_p53 : lw_okq (yX6_countChoices, 15) := ⟨⟨by decide +kernel, by decide +kernel⟩, ta_2 _ (List.mem_of_getElem? (i := 50) rfl), ta_4 _ (List.mem_of_getElem? (i := 41) rfl), ta_4 _ (List.mem_of_getElem? (i := 42) rfl)⟩
theorem lw_p54 : lw_okq (yX6_findComing, 15) := ⟨⟨by decide +kernel, by decide +kernel⟩, ta_2 _ (List.mem_of_getElem? (i := 50) rfl), ta_4 _ (List.mem_of_getElem? (i := 25) rfl), ta_4 _ (List.mem_of_getElem? (i := 26) rfl)⟩
theorem lw_p55 : lw_okq (yX6_findExact, 15) := ⟨⟨by decide +kernel, by decide +kernel⟩, ta_2 _ (List.mem_of_getElem? (i := 50) rfl), ta_4 _ (List.mem_of_getElem? (i := 29) rfl), ta_4 _ (List.mem_of_getElem? (i := 30) rfl)⟩
theorem lw_p56 : lw_okq (yX6_findPlain, 15) := ⟨⟨by decide +kernel, by decide +kernel⟩, ta_2 _ (List.mem_of_getElem? (i := 50) rfl), ta_3 _ (List.mem_of_getElem? (i := 224) rfl), ta_3 _ (List.mem_of_getElem? (i := 225) rfl)⟩
theorem lw_p57 : lw_okq (yX6_findTrees, 15) := ⟨⟨by decide +kernel, by decide +kernel⟩, ta_2 _ (List.mem_of_getElem? (i := 50) rfl), ta_4 _ (List.mem_of_getElem? (i := 17) rfl), ta_4 _ (List.mem_of_getElem? (i := 18) rfl)⟩
theorem lw_p58 : lw_okq (yX6_goesRound, 15) := ⟨⟨by decide +kernel, by decide +kernel⟩, ta_2 _ (List.mem_of_getElem? (i := 50) rfl), ta_4 _ (List.mem_of_getElem? (i := 9) rfl), ta_4 _ (List.mem_of_getElem? (i := 10) rfl)⟩
theorem lw_p59 : lw_okq (yX6_headGraph, 15) := ⟨⟨by decide +kernel, by decide +kernel⟩, ta_2 _ (List.mem_of_getElem? (i := 50) rfl), ta_4 _ (List.mem_of_getElem? (i := 13) rfl), ta_4 _ (List.mem_of_getElem? (i := 14) rfl)⟩
theorem lw_p60 : lw_okq (yX6_loadEquations, 15) := ⟨⟨by decide +kernel, by decide +kernel⟩, ta_2 _ (List.mem_of_getElem? (i := 50) rfl), ta_3 _ (List.mem_of_getElem? (i := 232) rfl), ta_3 _ (List.mem_of_getElem? (i := 233) rfl)⟩
theorem lw_p61 : lw_okq (yX6_loadGraph, 15) := ⟨⟨by decide +kernel, by decide +kernel⟩, ta_2 _ (List.mem_of_getElem? (i := 50) rfl), ta_3 _ (List.mem_of_getElem? (i := 237) rfl), ta_3 _ (List.mem_of_getElem? (i := 238) rfl)⟩
theorem lw_p62 : lw_okq (yX6_sortGraphs, 15) := ⟨⟨by decide +kernel, by decide +kernel⟩, ta_2 _ (List.mem_of_getElem? (i := 50) rfl), ta_4 _ (List.mem_of_getElem? (i := 56) rfl), ta_4 _ (List.mem_of_getElem? (i := 57) rfl)⟩
theorem lw_p63 : lw_okq (yX6_takeChoice, 15) := ⟨⟨by decide +kernel, by decide +kernel⟩, ta_2 _ (List.mem_of_getElem? (i := 50) rfl), ta_4 _ (List.mem_of_getElem? (i := 45) rfl), ta_4 _ (List.mem_of_getElem? (i := 46) rfl)⟩
theorem lw_p64 : lw_okq (yX6_takeNewChoices, 15) := ⟨⟨by decide +kernel, by decide +kernel⟩, ta_2 _ (List.mem_of_getElem? (i := 50) rfl), ta_4 _ (List.mem_of_getElem? (i := 37) rfl), ta_4 _ (List.mem_of_getElem? (i := 38) rfl)⟩
theorem lw_p65 : lw_okq (yX6_takePlain, 15) := ⟨⟨by decide +kernel, by decide +kernel⟩, ta_2 _ (List.mem_of_getElem? (i := 50) rfl), ta_3 _ (List.mem_of_getElem? (i := 228) rfl), ta_3 _ (List.mem_of_getElem? (i := 229) rfl)⟩
theorem lw_p66 : lw_okq (yX7_choose, 14) := ⟨⟨by decide +kernel, by decide +kernel⟩, ta_2 _ (List.mem_of_getElem? (i := 109) rfl), ta_4 _ (List.mem_of_getElem? (i := 205) rfl), ta_4 _ (List.mem_of_getElem? (i := 206) rfl)⟩
theorem lw_p67 : lw_okq (yX7_combine, 14) := ⟨⟨by decide +kernel, by decide +kernel⟩, ta_2 _ (List.mem_of_getElem? (i := 109) rfl), ta_4 _ (List.mem_of_getElem? (i := 209) rfl), ta_4 _ (List.mem_of_getElem? (i := 210) rfl)⟩
theorem lw_p68 : lw_okq (yX7_enter, 14) := ⟨⟨by decide +kernel, by decide +kernel⟩, ta_2 _ (List.mem_of_getElem? (i := 109) rfl), ta_4 _ (List.mem_of_getElem? (i := 171) rfl), ta_4 _ (List.mem_of_getElem? (i := 172) rfl)⟩
theorem lw_p69 : lw_okq (yX7_evaluate, 14) := ⟨⟨by decide +kernel, by decide +kernel⟩, ta_2 _ (List.mem_of_getElem? (i := 109) rfl), ta_4 _ (List.mem_of_getElem? (i := 193) rfl), ta_4 _ (List.mem_of_getElem? (i := 194) rfl)⟩
theorem lw_p70 : lw_okq (yX7_giveUp, 14) := ⟨⟨by decide +kernel, by decide +kernel⟩, ta_2 _ (List.mem_of_getElem? (i := 109) rfl), ta_4 _ (List.mem_of_getElem? (i := 216) rfl), ta_4 _ (List.mem_of_getElem? (i := 217) rfl)⟩
theorem lw_p71 : lw_okq (yX7_isOpen, 14) := ⟨⟨by decide +kernel, by decide +kernel⟩, ta_2 _ (List.mem_of_getElem? (i := 109) rfl), ta_4 _ (List.mem_of_getElem? (i := 167) rfl), ta_4 _ (List.mem_of_getElem? (i := 168) rfl)⟩
theorem lw_p72 : lw_okq (yX7_itemAt, 14) := ⟨⟨by decide +kernel, by decide +kernel⟩, ta_2 _ (List.mem_of_getElem? (i := 109) rfl), ta_4 _ (List.mem_of_getElem? (i := 181) rfl), ta_4 _ (List.mem_of_getElem? (i := 182) rfl)⟩
theorem lw_p73 : lw_okq (yX7_leave, 14) := ⟨⟨by decide +kernel, by decide +kernel⟩, ta_2 _ (List.mem_of_getElem? (i := 109) rfl), ta_4 _ (List.mem_of_getElem? (i := 189) rfl), ta_4 _ (List.mem_of_getElem? (i := 190) rfl)⟩
theorem lw_p74 : lw_okq (yX7_nextOpen, 14) := ⟨⟨by decide +kernel, by decide +kernel⟩, ta_2 _ (List.mem_of_getElem? (i := 109) rfl), ta_4 _ (List.mem_of_getElem? (i := 177) rfl), ta_4 _ (List.mem_of_getElem? (i := 178) rfl)⟩
theorem lw_p75 : lw_okq (yX7_operate, 14) := ⟨⟨by decide +kernel, by decide +kernel⟩, ta_2 _ (List.mem_of_getElem? (i := 109) rfl), ta_4 _ (List.mem_of_getElem? (i := 201) rfl), ta_4 _ (List.mem_of_getElem? (i := 202) rfl)⟩
theorem lw_p76 : lw_okq (yX7_put, 14) := ⟨⟨by decide +kernel, by decide +kernel⟩, ta_2 _ (List.mem_of_getElem? (i := 109) rfl), ta_4 _ (List.mem_of_getElem? (i := 197) rfl), ta_4 _ (List.mem_of_getElem? (i := 198) rfl)⟩
theorem lw_p77 : lw_okq (yX9_allCan, 80) := ⟨⟨by decide +kernel, by decide +kernel⟩, ta_4 _ (List.mem_of_getElem? (i := 237) rfl), ta_6 _ (List.mem_of_getElem? (i := 204) rfl), ta_6 _ (List.mem_of_getElem? (i := 205) rfl)⟩
theorem lw_p78 : lw_okq (yX9_attribute, 80) := ⟨⟨by decide +kernel, by decide +kernel⟩, ta_4 _ (List.mem_of_getElem? (i := 237) rfl), ta_6 _ (List.mem_of_getElem? (i := 85) rfl), ta_6 _ (List.mem_of_getElem? (i := 86) rfl)⟩
theorem lw_p79 : lw_okq (yX9_attributeOf, 80) := ⟨⟨by decide +kernel, by decide +kernel⟩, ta_4 _ (List.mem_of_getElem? (i := 237) rfl), ta_6 _ (List.mem_of_getElem? (i := 89) rfl), ta_6 _ (List.mem_of_getElem? (i := 90) rfl)⟩
theorem lw_p80 : lw_okq (yX9_begins, 80) := ⟨⟨by decide +kernel, by decide +kernel⟩, ta_4 _ (List.mem_of_getElem? (i := 237) rfl), ta_7 _ (List.mem_of_getElem? (i := 29) rfl), ta_7 _ (List.mem_of_getElem? (i := 30) rfl)⟩
theorem lw_p81 : lw_okq (yX9_bitOf, 80) := ⟨⟨by decide +kernel, by decide +kernel⟩, ta_4 _ (List.mem_of_getElem? (i := 237) rfl), ta_6 _ (List.mem_of_getElem? (i := 216) rfl), ta_6 _ (List.mem_of_getElem? (i := 217) rfl)⟩
theorem lw_p82 : lw_okq (yX9_blanks, 80) := ⟨⟨by decide +kernel, by decide +kernel⟩, ta_4 _ (List.mem_of_getElem? (i := 237) rfl), ta_6 _ (List.mem_of_getElem? (i := 35) rfl), ta_6 _ (List.mem_of_getElem? (i := 36) rfl)⟩
theorem lw_p83 : lw_okq (yX9_chooses, 80) := ⟨⟨by decide +kernel, by decide +kernel⟩, ta_4 _ (List.mem_of_getElem? (i := 237) rfl), ta_7 _ (List.mem_of_getElem? (i := 0) rfl), ta_7 _ (List.mem_of_getElem? (i := 1) rfl)⟩
theorem lw_p84 : lw_okq (yX9_comes, 80) := ⟨⟨by decide +kernel, by decide +kernel⟩, ta_4 _ (List.mem_of_getElem? (i := 237) rfl), ta_6 _ (List.mem_of_getElem? (i := 200) rfl), ta_6 _ (List.mem_of_getElem? (i := 201) rfl)⟩
theorem lw_p85 : lw_okq (yX9_counts, 80) := ⟨⟨by decide +kernel, by decide +kernel⟩, ta_4 _ (List.mem_of_getElem? (i := 237) rfl), ta_6 _ (List.mem_of_getElem? (i := 142) rfl), ta_6 _ (List.mem_of_getElem? (i := 143) rfl)⟩
theorem lw_p86 : lw_okq (yX9_does, 80) := ⟨⟨by decide +kernel, by decide +kernel⟩, ta_4 _ (List.mem_of_getElem? (i := 237) rfl), ta_7 _ (List.mem_of_getElem? (i := 85) rfl), ta_7 _ (List.mem_of_getElem? (i := 86) rfl)⟩
theorem lw_p87 : lw_okq (yX9_ends, 80) := ⟨⟨by decide +kernel, by decide +kernel⟩, ta_4 _ (List.mem_of_getElem? (i := 237) rfl), ta_6 _ (List.mem_of_getElem? (i := 184) rfl), ta_6 _ (List.mem_of_getElem? (i := 185) rfl)⟩
theorem lw_p88 : lw_okq (yX9_enter, 80) := ⟨⟨by decide +kernel, by decide +kernel⟩, ta_4 _ (List.mem_of_getElem? (i := 237) rfl), ta_6 _ (List.mem_of_getElem? (i := 130) rfl), ta_6 _ (List.mem_of_getElem? (i := 131) rfl)⟩
theorem lw_p89 : lw_okq (yX9_equation, 80) := ⟨⟨by decide +kernel, by decide +kernel⟩, ta_4 _ (List.mem_of_getElem? (i := 237) rfl), ta_6 _ (List.mem_of_getElem? (i := 113) rfl), ta_6 _ (List.mem_of_getElem? (i := 114) rfl)⟩
theorem lw_p90 : lw_okq (yX9_equationOf, 80) := ⟨⟨by decide +kernel, by decide +kernel⟩, ta_4 _ (List.mem_of_getElem? (i := 237) rfl), ta_7 _ (List.mem_of_getElem? (i := 73) rfl), ta_7 _ (List.mem_of_getElem? (i := 74) rfl)⟩
theorem lw_p91 : lw_okq (yX9_exact, 80) := ⟨⟨by decide +kernel, by decide +kernel⟩, ta_4 _ (List.mem_of_getElem? (i := 237) rfl), ta_6 _ (List.mem_of_getElem? (i := 236) rfl), ta_6 _ (List.mem_of_getElem? (i := 237) rfl)⟩
theorem lw_p92 : lw_okq (yX9_expression, 80) := ⟨⟨by decide +kernel, by decide +kernel⟩, ta_4 _ (List.mem_of_getElem? (i := 237) rfl), ta_6 _ (List.mem_of_getElem? (i := 126) rfl), ta_6 _ (List.mem_of_getElem? (i := 127) rfl)⟩
theorem lw_p93 : lw_okq (yX9_fails, 80) := ⟨⟨by decide +kernel, by decide +kernel⟩, ta_4 _ (List.mem_of_getElem? (i := 237) rfl), ta_6 _ (List.mem_of_getElem? (i := 69) rfl), ta_6 _ (List.mem_of_getElem? (i := 70) rfl)⟩
theorem lw_p94 : lw_okq (yX9_forgets, 80) := ⟨⟨by decide +kernel, by decide +kernel⟩, ta_4 _ (List.mem_of_getElem? (i := 237) rfl), ta_7 _ (List.mem_of_getElem? (i := 33) rfl), ta_7 _ (List.mem_of_getElem? (i := 34) rfl)⟩
theorem lw_p95 : lw_okq (yX9_goesRound, 80) := ⟨⟨by decide +kernel, by decide +kernel⟩, ta_4 _ (List.mem_of_getElem? (i := 237) rfl), ta_6 _ (List.mem_of_getElem? (i := 228) rfl), ta_6 _ (List.mem_of_getElem? (i := 229) rfl)⟩
theorem lw_p96 : lw_okq (yX9_graphAt, 80) := ⟨⟨by decide +kernel, by decide +kernel⟩, ta_4 _ (List.mem_of_getElem? (i := 237) rfl), ta_7 _ (List.mem_of_getElem? (i := 9) rfl), ta_7 _ (List.mem_of_getElem? (i := 10) rfl)⟩
theorem lw_p97 : lw_okq (yX9_headGraph, 80) := ⟨⟨by decide +kernel, by decide +kernel⟩, ta_4 _ (List.mem_of_getElem? (i := 237) rfl), ta_6 _ (List.mem_of_getElem? (i := 232) rfl), ta_6 _ (List.mem_of_getElem? (i := 233) rfl)⟩
theorem lw_p98 : lw_okq (yX9_inheritedOf, 80) := ⟨⟨by decide +kernel, by decide +kernel⟩, ta_4 _ (List.mem_of_getElem? (i := 237) rfl), ta_6 _ (List.mem_of_getElem? (i := 224) rfl), ta_6 _ (List.mem_of_getElem? (i := 225) rfl)⟩
theorem lw_p99 : lw_okq (yX9_isAhead, 80) := ⟨⟨by decide +kernel, by decide +kernel⟩, ta_4 _ (List.mem_of_getElem? (i := 237) rfl), ta_6 _ (List.mem_of_getElem? (i := 154) rfl), ta_6 _ (List.mem_of_getElem? (i := 155) rfl)⟩
theorem lw_p100 : lw_okq (yX9_isAttribute, 80) := ⟨⟨by decide +kernel, by decide +kernel⟩, ta_4 _ (List.mem_of_getElem? (i := 237) rfl), ta_7 _ (List.mem_of_getElem? (i := 65) rfl), ta_7 _ (List.mem_of_getElem? (i := 66) rfl)⟩
theorem lw_p101 : lw_okq (yX9_isName, 80) := ⟨⟨by decide +kernel, by decide +kernel⟩, ta_4 _ (List.mem_of_getElem? (i := 237) rfl), ta_6 _ (List.mem_of_getElem? (i := 77) rfl), ta_6 _ (List.mem_of_getElem? (i := 78) rfl)⟩
theorem lw_p102 : lw_okq (yX9_isSign, 80) := ⟨⟨by decide +kernel, by decide +kernel⟩, ta_4 _ (List.mem_of_getElem? (i := 237) rfl), ta_6 _ (List.mem_of_getElem? (i := 97) rfl), ta_6 _ (List.mem_of_getElem? (i := 98) rfl)⟩
theorem lw_p103 : lw_okq (yX9_isTold, 80) := ⟨⟨by decide +kernel, by decide +kernel⟩, ta_4 _ (List.mem_of_getElem? (i := 237) rfl), ta_6 _ (List.mem_of_getElem? (i := 122) rfl), ta_6 _ (List.mem_of_getElem? (i := 123) rfl)⟩
theorem lw_p104 : lw_okq (yX9_isWell, 80) := ⟨⟨by decide +kernel, by decide +kernel⟩, ta_4 _ (List.mem_of_getElem? (i := 237) rfl), ta_6 _ (List.mem_of_getElem? (i := 61) rfl), ta_6 _ (List.mem_of_getElem? (i := 62) rfl)⟩
theorem lw_p105 : lw_okq (yX9_isWord, 80) := ⟨⟨by decide +kernel, by decide +kernel⟩, ta_4 _ (List.mem_of_getElem? (i := 237) rfl), ta_6 _ (List.mem_of_getElem? (i := 57) rfl), ta_6 _ (List.mem_of_getElem? (i := 58) rfl)⟩
theorem lw_p106 : lw_okq (yX9_lacks, 80) := ⟨⟨by decide +kernel, by decide +kernel⟩, ta_4 _ (List.mem_of_getElem? (i := 237) rfl), ta_6 _ (List.mem_of_getElem? (i := 192) rfl), ta_6 _ (List.mem_of_getElem? (i := 193) rfl)⟩
theorem lw_p107 : lw_okq (yX9_marks, 80) := ⟨⟨by decide +kernel, by decide +kernel⟩, ta_4 _ (List.mem_of_getElem? (i := 237) rfl), ta_7 _ (List.mem_of_getElem? (i := 13) rfl), ta_7 _ (List.mem_of_getElem? (i := 14) rfl)⟩
theorem lw_p108 : lw_okq (yX9_name, 80) := ⟨⟨by decide +kernel, by decide +kernel⟩, ta_4 _ (List.mem_of_getElem? (i := 237) rfl), ta_6 _ (List.mem_of_getElem? (i := 42) rfl), ta_6 _ (List.mem_of_getElem? (i := 43) rfl)⟩
theorem lw_p109 : lw_okq (yX9_namedBy, 80) := ⟨⟨by decide +kernel, by decide +kernel⟩, ta_4 _ (List.mem_of_getElem? (i := 237) rfl), ta_7 _ (List.mem_of_getElem? (i := 93) rfl), ta_7 _ (List.mem_of_getElem? (i := 94) rfl)⟩
theorem lw_p110 : lw_okq (yX9_nests, 80) := ⟨⟨by decide +kernel, by decide +kernel⟩, ta_4 _ (List.mem_of_getElem? (i := 237) rfl), ta_6 _ (List.mem_of_getElem? (i := 134) rfl), ta_6 _ (List.mem_of_getElem? (i := 135) rfl)⟩
theorem lw_p111 : lw_okq (yX9_next, 80) := ⟨⟨by decide +kernel, by decide +kernel⟩, ta_4 _ (List.mem_of_getElem? (i := 237) rfl), ta_6 _ (List.mem_of_getElem? (i := 31) rfl), ta_6 _ (List.mem_of_getElem? (i := 32) rfl)⟩
theorem lw_p112 : lw_okq (yX9_number, 80) := ⟨⟨by decide +kernel, by decide +kernel⟩, ta_4 _ (List.mem_of_getElem? (i := 237) rfl), ta_6 _ (List.mem_of_getElem? (i := 162) rfl), ta_6 _ (List.mem_of_getElem? (i := 163) rfl)⟩
theorem lw_p113 : lw_okq (yX9_occ, 80) := ⟨⟨by decide +kernel, by decide +kernel⟩, ta_4 _ (List.mem_of_getElem? (i := 237) rfl), ta_6 _ (List.mem_of_getElem? (i := 158) rfl), ta_6 _ (List.mem_of_getElem? (i := 159) rfl)⟩
theorem lw_p114 : lw_okq (yX9_occurs, 80) := ⟨⟨by decide +kernel, by decide +kernel⟩, ta_4 _ (List.mem_of_getElem? (i := 237) rfl), ta_6 _ (List.mem_of_getElem? (i := 117) rfl), ta_6 _ (List.mem_of_getElem? (i := 118) rfl)⟩
theorem lw_p115 : lw_okq (yX9_order, 80) := ⟨⟨by decide +kernel, by decide +kernel⟩, ta_4 _ (List.mem_of_getElem? (i := 237) rfl), ta_6 _ (List.mem_of_getElem? (i := 150) rfl), ta_6 _ (List.mem_of_getElem? (i := 151) rfl)⟩
theorem lw_p116 : lw_okq (yX9_part, 80) := ⟨⟨by decide +kernel, by decide +kernel⟩, ta_4 _ (List.mem_of_getElem? (i := 237) rfl), ta_6 _ (List.mem_of_getElem? (i := 146) rfl), ta_6 _ (List.mem_of_getElem? (i := 147) rfl)⟩
theorem lw_p117 : lw_okq (yX9_passes, 80) := ⟨⟨by decide +kernel, by decide +kernel⟩, ta_4 _ (List.mem_of_getElem? (i := 237) rfl), ta_6 _ (List.mem_of_getElem? (i := 138) rfl), ta_6 _ (List.mem_of_getElem? (i := 139) rfl)⟩
theorem lw_p118 : lw_okq (yX9_place, 80) := ⟨⟨by decide +kernel, by decide +kernel⟩, ta_4 _ (List.mem_of_getElem? (i := 237) rfl), ta_6 _ (List.mem_of_getElem? (i := 109) rfl), ta_6 _ (List.mem_of_getElem? (i := 110) rfl)⟩
theorem lw_p119 : lw_okq (yX9_plains, 80) := ⟨⟨by decide +kernel, by decide +kernel⟩, ta_4 _ (List.mem_of_getElem? (i := 237) rfl), ta_6 _ (List.mem_of_getElem? (i := 208) rfl), ta_6 _ (List.mem_of_getElem? (i := 209) rfl)⟩
theorem lw_p120 : lw_okq (yX9_put, 80) := ⟨⟨by decide +kernel, by decide +kernel⟩, ta_4 _ (List.mem_of_getElem? (i := 237) rfl), ta_6 _ (List.mem_of_getElem? (i := 8) rfl), ta_6 _ (List.mem_of_getElem? (i := 9) rfl)⟩
theorem lw_p121 : lw_okq (yX9_rankOf, 80) := ⟨⟨by decide +kernel, by decide +kernel⟩, ta_4 _ (List.mem_of_getElem? (i := 237) rfl), ta_6 _ (List.mem_of_getElem? (i := 220) rfl), ta_6 _ (List.mem_of_getElem? (i := 221) rfl)⟩
theorem lw_p122 : lw_okq (yX9_reads, 80) := ⟨⟨by decide +kernel, by decide +kernel⟩, ta_4 _ (List.mem_of_getElem? (i := 237) rfl), ta_6 _ (List.mem_of_getElem? (i := 27) rfl), ta_6 _ (List.mem_of_getElem? (i := 28) rfl)⟩
theorem lw_p123 : lw_okq (yX9_rule, 80) := ⟨⟨by decide +kernel, by decide +kernel⟩, ta_4 _ (List.mem_of_getElem? (i := 237) rfl), ta_6 _ (List.mem_of_getElem? (i := 101) rfl), ta_6 _ (List.mem_of_getElem? (i := 102) rfl)⟩
theorem lw_p124 : lw_okq (yX9_ruleOf, 80) := ⟨⟨by decide +kernel, by decide +kernel⟩, ta_4 _ (List.mem_of_getElem? (i := 237) rfl), ta_6 _ (List.mem_of_getElem? (i := 105) rfl), ta_6 _ (List.mem_of_getElem? (i := 106) rfl)⟩
theorem lw_p125 : lw_okq (yX9_second, 80) := ⟨⟨by decide +kernel, by decide +kernel⟩, ta_4 _ (List.mem_of_getElem? (i := 237) rfl), ta_6 _ (List.mem_of_getElem? (i := 180) rfl), ta_6 _ (List.mem_of_getElem? (i := 181) rfl)⟩
theorem lw_p126 : lw_okq (yX9_settles, 80) := ⟨⟨by decide +kernel, by decide +kernel⟩, ta_4 _ (List.mem_of_getElem? (i := 237) rfl), ta_7 _ (List.mem_of_getElem? (i := 17) rfl), ta_7 _ (List.mem_of_getElem? (i := 18) rfl)⟩
theorem lw_p127 : lw_okq (yX9_sign, 80) := ⟨⟨by decide +kernel, by decide +kernel⟩, ta_4 _ (List.mem_of_getElem? (i := 237) rfl), ta_6 _ (List.mem_of_getElem? (i := 53) rfl), ta_6 _ (List.mem_of_getElem? (i := 54) rfl)⟩
theorem lw_p128 : lw_okq (yX9_signed, 80) := ⟨⟨by decide +kernel, by decide +kernel⟩, ta_4 _ (List.mem_of_getElem? (i := 237) rfl), ta_7 _ (List.mem_of_getElem? (i := 97) rfl), ta_7 _ (List.mem_of_getElem? (i := 98) rfl)⟩
theorem lw_p129 : lw_okq (yX9_signs, 80) := ⟨⟨by decide +kernel, by decide +kernel⟩, ta_4 _ (List.mem_of_getElem? (i := 237) rfl), ta_6 _ (List.mem_of_getElem? (i := 166) rfl), ta_6 _ (List.mem_of_getElem? (i := 167) rfl)⟩
theorem lw_p130 : lw_okq (yX9_stray, 80) := ⟨⟨by decide +kernel, by decide +kernel⟩, ta_4 _ (List.mem_of_getElem? (i := 237) rfl), ta_6 _ (List.mem_of_getElem? (i := 65) rfl), ta_6 _ (List.mem_of_getElem? (i := 66) rfl)⟩
theorem lw_p131 : lw_okq (yX9_symbol, 80) := ⟨⟨by decide +kernel, by decide +kernel⟩, ta_4 _ (List.mem_of_getElem? (i := 237) rfl), ta_6 _ (List.mem_of_getElem? (i := 73) rfl), ta_6 _ (List.mem_of_getElem? (i := 74) rfl)⟩
theorem lw_p132 : lw_okq (yX9_symbolOf, 80) := ⟨⟨by decide +kernel, by decide +kernel⟩, ta_4 _ (List.mem_of_getElem? (i := 237) rfl), ta_6 _ (List.mem_of_getElem? (i := 81) rfl), ta_6 _ (List.mem_of_getElem? (i := 82) rfl)⟩
theorem lw_p133 : lw_okq (yX9_takes, 80) := ⟨⟨by decide +kernel, by decide +kernel⟩, ta_4 _ (List.mem_of_getElem? (i := 237) rfl), ta_6 _ (List.mem_of_getElem? (i := 93) rfl), ta_6 _ (List.mem_of_getElem? (i := 94) rfl)⟩
theorem lw_p134 : lw_okq (yX9_takesTape, 80) := ⟨⟨by decide +kernel, by decide +kernel⟩, ta_4 _ (List.mem_of_getElem? (i := 237) rfl), ta_6 _ (List.mem_of_getElem? (i := 23) rfl), ta_6 _ (List.mem_of_getElem? (i := 24) rfl)⟩
theorem lw_p135 : lw_okq (yX9_tellerOf, 80) := ⟨⟨by decide +kernel, by decide +kernel⟩, ta_4 _ (List.mem_of_getElem? (i := 237) rfl), ta_7 _ (List.mem_of_getElem? (i := 77) rfl), ta_7 _ (List.mem_of_getElem? (i := 78) rfl)⟩
theorem lw_p136 : lw_okq (yX9_tests, 80) := ⟨⟨by decide +kernel, by decide +kernel⟩, ta_4 _ (List.mem_of_getElem? (i := 237) rfl), ta_6 _ (List.mem_of_getElem? (i := 196) rfl), ta_6 _ (List.mem_of_getElem? (i := 197) rfl)⟩
theorem lw_p137 : lw_okq (yX9_value, 80) := ⟨⟨by decide +kernel, by decide +kernel⟩, ta_4 _ (List.mem_of_getElem? (i := 237) rfl), ta_7 _ (List.mem_of_getElem? (i := 89) rfl), ta_7 _ (List.mem_of_getElem? (i := 90) rfl)⟩
theorem lw_p138 : lw_okq (yX9_waitsOn, 80) := ⟨⟨by decide +kernel, by decide +kernel⟩, ta_4 _ (List.mem_of_getElem? (i := 237) rfl), ta_7 _ (List.mem_of_getElem? (i := 69) rfl), ta_7 _ (List.mem_of_getElem? (i := 70) rfl)⟩
theorem lw_p139 : lw_okq (yX9_ways, 80) := ⟨⟨by decide +kernel, by decide +kernel⟩, ta_4 _ (List.mem_of_getElem? (i := 237) rfl), ta_6 _ (List.mem_of_getElem? (i := 212) rfl), ta_6 _ (List.mem_of_getElem? (i := 213) rfl)⟩
theorem lw_p140 : lw_okq (yX9_waysOf, 80) := ⟨⟨by decide +kernel, by decide +kernel⟩, ta_4 _ (List.mem_of_getElem? (i := 237) rfl), ta_7 _ (List.mem_of_getElem? (i := 4) rfl), ta_7 _ (List.mem_of_getElem? (i := 5) rfl)⟩
theorem lw_p141 : lw_okq (yX9_word, 80) := ⟨⟨by decide +kernel, by decide +kernel⟩, ta_4 _ (List.mem_of_getElem? (i := 237) rfl), ta_6 _ (List.mem_of_getElem? (i := 188) rfl), ta_6 _ (List.mem_of_getElem? (i := 189) rfl)⟩
theorem lw_p142 : lw_okq (yX9_works, 80) := ⟨⟨by decide +kernel, by decide +kernel⟩, ta_4 _ (List.mem_of_getElem? (i := 237) rfl), ta_7 _ (List.mem_of_getElem? (i := 81) rfl), ta_7 _ (List.mem_of_getElem? (i := 82) rfl)⟩
def lw_privs : List (MethodName × Nat) := [(yX8_inheritance, 13), (yX8_isItem, 13), (yX8_isNode, 13), (yX8_keepFault, 13), (yX8_putWord, 13), (yX8_symbolOf, 13), (yX0_await, 11), (yX0_binary, 11), (yX0_closeParenthesis, 11), (yX0_compare, 11), (yX0_emitOperand, 11), (yX0_finish, 11), (yX0_isOneTooMany, 11), (yX0_occDot, 11), (yX0_occName, 11), (yX0_occNumber, 11), (yX0_open, 11), (yX0_operand, 11), (yX0_operator, 11), (yX0_settle, 11), (yX0_top, 11), (yX0_topBinds, 11), (yX0_turn, 11), (yX2_attributeName, 7), (yX2_behindRule, 7), (yX2_go, 7), (yX2_goIf, 7), (yX2_lacksEquation, 7), (yX2_ruleBody, 7), (yX2_ruleChild, 7), (yX2_ruleHead, 7), (yX2_ruleName, 7), (yX2_ruleStep, 7), (yX2_step, 7), (yX2_symbolBody, 7), (yX2_symbolName, 7), (yX2_symbolStep, 7), (yX2_targetName, 7), (yX2_targetStep, 7), (yX3_skipBlanks, 7), (yX3_takeDigits, 7), (yX3_takeLetters, 7), (yX5_childOrEnd, 7), (yX5_dueSymbol, 7), (yX5_go, 7), (yX5_openNode, 7), (yX5_ownNumber, 7), (yX5_ruleName, 7), (yX5_step, 7), (yX6_addGraph, 15), (yX6_childrenHaveTrees, 15), (yX6_clearExact, 15), (yX6_closeRows, 15), (yX6_countChoices, 15), (yX6_findComing, 15), (yX6_findExact, 15), (yX6_findPlain, 15), (yX6_findTrees, 15), (yX6_goesRound, 15), (yX6_headGraph, 15), (yX6_loadEquations, 15), (yX6_loadGraph, 15), (yX6_sortGraphs, 15), (yX6_takeChoice, 15), (yX6_takeNewChoices, 15), (yX6_takePlain, 15), (yX7_choose, 14), (yX7_combine, 14), (yX7_enter, 14), (yX7_evaluate, 14), (yX7_giveUp, 14), (yX7_isOpen, 14), (yX7_itemAt, 14), (yX7_leave, 14), (yX7_nextOpen, 14), (yX7_operate, 14), (yX7_put, 14), (yX9_allCan, 80), (yX9_attribute, 80), (yX9_attributeOf, 80), (yX9_begins, 80), (yX9_bitOf, 80), (yX9_blanks, 80), (yX9_chooses, 80), (yX9_comes, 80), (yX9_counts, 80), (yX9_does, 80), (yX9_ends, 80), (yX9_enter, 80), (yX9_equation, 80), (yX9_equationOf, 80), (yX9_exact, 80), (yX9_expression, 80), (yX9_fails, 80), (yX9_forgets, 80), (yX9_goesRound, 80), (yX9_graphAt, 80), (yX9_headGraph, 80), (yX9_inheritedOf, 80), (yX9_isAhead, 80), (yX9_isAttribute, 80), (yX9_isName, 80), (yX9_isSign, 80), (yX9_isTold, 80), (yX9_isWell, 80), (yX9_isWord, 80), (yX9_lacks, 80), (yX9_marks, 80), (yX9_name, 80), (yX9_namedBy, 80), (yX9_nests, 80), (yX9_next, 80), (yX9_number, 80), (yX9_occ, 80), (yX9_occurs, 80), (yX9_order, 80), (yX9_part, 80), (yX9_passes, 80), (yX9_place, 80), (yX9_plains, 80), (yX9_put, 80), (yX9_rankOf, 80), (yX9_reads, 80), (yX9_rule, 80), (yX9_ruleOf, 80), (yX9_second, 80), (yX9_settles, 80), (yX9_sign, 80), (yX9_signed, 80), (yX9_signs, 80), (yX9_stray, 80), (yX9_symbol, 80), (yX9_symbolOf, 80), (yX9_takes, 80), (yX9_takesTape, 80), (yX9_tellerOf, 80), (yX9_tests, 80), (yX9_value, 80), (yX9_waitsOn, 80), (yX9_ways, 80), (yX9_waysOf, 80), (yX9_word, 80), (yX9_works, 80)]
def lw_tbl : List Cond := k2_sels lw_privs ++ tables_1
set_option maxRecDepth 20000 in
theorem lw_privs_ok : ∀ q ∈ lw_privs, lw_okq q := List.forall_mem_cons.mpr ⟨lw_p0, List.forall_mem_cons.mpr ⟨lw_p1, List.forall_mem_cons.mpr ⟨lw_p2, List.forall_mem_cons.mpr ⟨lw_p3, List.forall_mem_cons.mpr ⟨lw_p4, List.forall_mem_cons.mpr ⟨lw_p5, List.forall_mem_cons.mpr ⟨lw_p6, List.forall_mem_cons.mpr ⟨lw_p7, List.forall_mem_cons.mpr ⟨lw_p8, List.forall_mem_cons.mpr ⟨lw_p9, List.forall_mem_cons.mpr ⟨lw_p10, List.forall_mem_cons.mpr ⟨lw_p11, List.forall_mem_cons.mpr ⟨lw_p12, List.forall_mem_cons.mpr ⟨lw_p13, List.forall_mem_cons.mpr ⟨lw_p14, List.forall_mem_cons.mpr ⟨lw_p15, List.forall_mem_cons.mpr ⟨lw_p16, List.forall_mem_cons.mpr ⟨lw_p17, List.forall_mem_cons.mpr ⟨lw_p18, List.forall_mem_cons.mpr ⟨lw_p19, List.forall_mem_cons.mpr ⟨lw_p20, List.forall_mem_cons.mpr ⟨lw_p21, List.forall_mem_cons.mpr ⟨lw_p22, List.forall_mem_cons.mpr ⟨lw_p23, List.forall_mem_cons.mpr ⟨lw_p24, List.forall_mem_cons.mpr ⟨lw_p25, List.forall_mem_cons.mpr ⟨lw_p26, List.forall_mem_cons.mpr ⟨lw_p27, List.forall_mem_cons.mpr ⟨lw_p28, List.forall_mem_cons.mpr ⟨lw_p29, List.forall_mem_cons.mpr ⟨lw_p30, List.forall_mem_cons.mpr ⟨lw_p31, List.forall_mem_cons.mpr ⟨lw_p32, List.forall_mem_cons.mpr ⟨lw_p33, List.forall_mem_cons.mpr ⟨lw_p34, List.forall_mem_cons.mpr ⟨lw_p35, List.forall_mem_cons.mpr ⟨lw_p36, List.forall_mem_cons.mpr ⟨lw_p37, List.forall_mem_cons.mpr ⟨lw_p38, List.forall_mem_cons.mpr ⟨lw_p39, List.forall_mem_cons.mpr ⟨lw_p40, List.forall_mem_cons.mpr ⟨lw_p41, List.forall_mem_cons.mpr ⟨lw_p42, List.forall_mem_cons.mpr ⟨lw_p43, List.forall_mem_cons.mpr ⟨lw_p44, List.forall_mem_cons.mpr ⟨lw_p45, List.forall_mem_cons.mpr ⟨lw_p46, List.forall_mem_cons.mpr ⟨lw_p47, List.forall_mem_cons.mpr ⟨lw_p48, List.forall_mem_cons.mpr ⟨lw_p49, List.forall_mem_cons.mpr ⟨lw_p50, List.forall_mem_cons.mpr ⟨lw_p51, List.forall_mem_cons.mpr ⟨lw_p52, List.forall_mem_cons.mpr ⟨lw_p53, List.forall_mem_cons.mpr ⟨lw_p54, List.forall_mem_cons.mpr ⟨lw_p55, List.forall_mem_cons.mpr ⟨lw_p56, List.forall_mem_cons.mpr ⟨lw_p57, List.forall_mem_cons.mpr ⟨lw_p58, List.forall_mem_cons.mpr ⟨lw_p59, List.forall_mem_cons.mpr ⟨lw_p60, List.forall_mem_cons.mpr ⟨lw_p61, List.forall_mem_cons.mpr ⟨lw_p62, List.forall_mem_cons.mpr ⟨lw_p63, List.forall_mem_cons.mpr ⟨lw_p64, List.forall_mem_cons.mpr ⟨lw_p65, List.forall_mem_cons.mpr ⟨lw_p66, List.forall_mem_cons.mpr ⟨lw_p67, List.forall_mem_cons.mpr ⟨lw_p68, List.forall_mem_cons.mpr ⟨lw_p69, List.forall_mem_cons.mpr ⟨lw_p70, List.forall_mem_cons.mpr ⟨lw_p71, List.forall_mem_cons.mpr ⟨lw_p72, List.forall_mem_cons.mpr ⟨lw_p73, List.forall_mem_cons.mpr ⟨lw_p74, List.forall_mem_cons.mpr ⟨lw_p75, List.forall_mem_cons.mpr ⟨lw_p76, List.forall_mem_cons.mpr ⟨lw_p77, List.forall_mem_cons.mpr ⟨lw_p78, List.forall_mem_cons.mpr ⟨lw_p79, List.forall_mem_cons.mpr ⟨lw_p80, List.forall_mem_cons.mpr ⟨lw_p81, List.forall_mem_cons.mpr ⟨lw_p82, List.forall_mem_cons.mpr ⟨lw_p83, List.forall_mem_cons.mpr ⟨lw_p84, List.forall_mem_cons.mpr ⟨lw_p85, List.forall_mem_cons.mpr ⟨lw_p86, List.forall_mem_cons.mpr ⟨lw_p87, List.forall_mem_cons.mpr ⟨lw_p88, List.forall_mem_cons.mpr ⟨lw_p89, List.forall_mem_cons.mpr ⟨lw_p90, List.forall_mem_cons.mpr ⟨lw_p91, List.forall_mem_cons.mpr ⟨lw_p92, List.forall_mem_cons.mpr ⟨lw_p93, List.forall_mem_cons.mpr ⟨lw_p94, List.forall_mem_cons.mpr ⟨lw_p95, List.forall_mem_cons.mpr ⟨lw_p96, List.forall_mem_cons.mpr ⟨lw_p97, List.forall_mem_cons.mpr ⟨lw_p98, List.forall_mem_cons.mpr ⟨lw_p99, List.forall_mem_cons.mpr ⟨lw_p100, List.forall_mem_cons.mpr ⟨lw_p101, List.forall_mem_cons.mpr ⟨lw_p102, List.forall_mem_cons.mpr ⟨lw_p103, List.forall_mem_cons.mpr ⟨lw_p104, List.forall_mem_cons.mpr ⟨lw_p105, List.forall_mem_cons.mpr ⟨lw_p106, List.forall_mem_cons.mpr ⟨lw_p107, List.forall_mem_cons.mpr ⟨lw_p108, List.forall_mem_cons.mpr ⟨lw_p109, List.forall_mem_cons.mpr ⟨lw_p110, List.forall_mem_cons.mpr ⟨lw_p111, List.forall_mem_cons.mpr ⟨lw_p112, List.forall_mem_cons.mpr ⟨lw_p113, List.forall_mem_cons.mpr ⟨lw_p114, List.forall_mem_cons.mpr ⟨lw_p115, List.forall_mem_cons.mpr ⟨lw_p116, List.forall_mem_cons.mpr ⟨lw_p117, List.forall_mem_cons.mpr ⟨lw_p118, List.forall_mem_cons.mpr ⟨lw_p119, List.forall_mem_cons.mpr ⟨lw_p120, List.forall_mem_cons.mpr ⟨lw_p121, List.forall_mem_cons.mpr ⟨lw_p122, List.forall_mem_cons.mpr ⟨lw_p123, List.forall_mem_cons.mpr ⟨lw_p124, List.forall_mem_cons.mpr ⟨lw_p125, List.forall_mem_cons.mpr ⟨lw_p126, List.forall_mem_cons.mpr ⟨lw_p127, List.forall_mem_cons.mpr ⟨lw_p128, List.forall_mem_cons.mpr ⟨lw_p129, List.forall_mem_cons.mpr ⟨lw_p130, List.forall_mem_cons.mpr ⟨lw_p131, List.forall_mem_cons.mpr ⟨lw_p132, List.forall_mem_cons.mpr ⟨lw_p133, List.forall_mem_cons.mpr ⟨lw_p134, List.forall_mem_cons.mpr ⟨lw_p135, List.forall_mem_cons.mpr ⟨lw_p136, List.forall_mem_cons.mpr ⟨lw_p137, List.forall_mem_cons.mpr ⟨lw_p138, List.forall_mem_cons.mpr ⟨lw_p139, List.forall_mem_cons.mpr ⟨lw_p140, List.forall_mem_cons.mpr ⟨lw_p141, List.forall_mem_cons.mpr ⟨lw_p142, fun _ h => absurd h List.not_mem_nil⟩⟩⟩⟩⟩⟩⟩⟩⟩⟩⟩⟩⟩⟩⟩⟩⟩⟩⟩⟩⟩⟩⟩⟩⟩⟩⟩⟩⟩⟩⟩⟩⟩⟩⟩⟩⟩⟩⟩⟩⟩⟩⟩⟩⟩⟩⟩⟩⟩⟩⟩⟩⟩⟩⟩⟩⟩⟩⟩⟩⟩⟩⟩⟩⟩⟩⟩⟩⟩⟩⟩⟩⟩⟩⟩⟩⟩⟩⟩⟩⟩⟩⟩⟩⟩⟩⟩⟩⟩⟩⟩⟩⟩⟩⟩⟩⟩⟩⟩⟩⟩⟩⟩⟩⟩⟩⟩⟩⟩⟩⟩⟩⟩⟩⟩⟩⟩⟩⟩⟩⟩⟩⟩⟩⟩⟩⟩⟩⟩⟩⟩⟩⟩⟩⟩⟩⟩⟩⟩⟩⟩⟩⟩
/-- the words that any caller can hand to any method: those of the tables that stay what they are -/
theorem lwG_ex : ∃ G : List Cond, ∀ w : Cond, w ∈ G ↔ (w ∈ lw_tbl ∧ goodWord w = true) := ⟨lw_tbl.filter goodWord, fun _ => List.mem_filter⟩
noncomputable def lw_G : List Cond := Classical.choose lwG_ex
theorem lwG_iff (w : Cond) : w ∈ lw_G ↔ (w ∈ lw_tbl ∧ goodWord w = true) := Classical.choose_spec lwG_ex w
theorem lwG {w : Cond} {l : List Cond} (h : ∀ w ∈ l, w ∈ lw_tbl) (m : w ∈ l) (g : goodWord w = true) : w ∈ lw_G := (lwG_iff w).mpr ⟨h _ m, g⟩
theorem lwG_good {w : Cond} (h : w ∈ lw_G) : (w.onTables && w.keeps) = true ∨ ∃ ty, w = .arrayClass ty := good_of_word ((lwG_iff w).mp h).2
theorem tb_1 : ∀ w ∈ tables_1_1, w ∈ lw_tbl := fun w h => List.mem_append_right _ (ta_1 w h)
theorem tb_2 : ∀ w ∈ tables_1_2, w ∈ lw_tbl := fun w h => List.mem_append_right _ (ta_2 w h)
theorem tb_3 : ∀ w ∈ tables_1_3, w ∈ lw_tbl := fun w h => List.mem_append_right _ (ta_3 w h)
theorem tb_4 : ∀ w ∈ tables_1_4, w ∈ lw_tbl := fun w h => List.mem_append_right _ (ta_4 w h)
theorem tb_5 : ∀ w ∈ tables_1_5, w ∈ lw_tbl := fun w h => List.mem_append_right _ (ta_5 w h)
theorem tb_6 : ∀ w ∈ tables_1_6, w ∈ lw_tbl := fun w h => List.mem_append_right _ (ta_6 w h)
theorem tb_7 : ∀ w ∈ tables_1_7, w ∈ lw_tbl := fun w h => List.mem_append_right _ (ta_7 w h)
theorem gw_1_0 : Cond.initialized RL ∈ lw_G := lwG tb_1 (List.mem_of_getElem? (i := 0) rfl) rfl
theorem gw_1_1 : Cond.initialized RX8 ∈ lw_G := lwG tb_1 (List.mem_of_getElem? (i := 1) rfl) rfl
theorem gw_1_2 : Cond.initialized RX1 ∈ lw_G := lwG tb_1 (List.mem_of_getElem? (i := 2) rfl) rfl
theorem gw_1_3 : Cond.initialized RX4 ∈ lw_G := lwG tb_1 (List.mem_of_getElem? (i := 3) rfl) rfl
theorem gw_1_4 : Cond.initialized RX3 ∈ lw_G := lwG tb_1 (List.mem_of_getElem? (i := 4) rfl) rfl
theorem gw_1_5 : Cond.initialized RX2 ∈ lw_G := lwG tb_1 (List.mem_of_getElem? (i := 5) rfl) rfl
theorem gw_1_6 : Cond.initialized RX0 ∈ lw_G := lwG tb_1 (List.mem_of_getElem? (i := 6) rfl) rfl
theorem gw_1_7 : Cond.initialized RX5 ∈ lw_G := lwG tb_1 (List.mem_of_getElem? (i := 7) rfl) rfl
theorem gw_1_8 : Cond.initialized RX6 ∈ lw_G := lwG tb_1 (List.mem_of_getElem? (i := 8) rfl) rfl
theorem gw_1_9 : Cond.initialized RX7 ∈ lw_G := lwG tb_1 (List.mem_of_getElem? (i := 9) rfl) rfl
theorem gw_1_10 : Cond.initialized RX9 ∈ lw_G := lwG tb_1 (List.mem_of_getElem? (i := 10) rfl) rfl
theorem gw_1_11 : Cond.initialized "java/lang/Math" ∈ lw_G := lwG tb_1 (List.mem_of_getElem? (i := 11) rfl) rfl
theorem gw_1_12 : Cond.classLink RL 7 RX8 ∈ lw_G := lwG tb_1 (List.mem_of_getElem? (i := 12) rfl) rfl
theorem gw_1_13 : Cond.instantiable RX8 13 ∈ lw_G := lwG tb_1 (List.mem_of_getElem? (i := 13) rfl) rfl
theorem gw_1_14 : Cond.methodLink RL 9 yX8_init ∈ lw_G := lwG tb_1 (List.mem_of_getElem? (i := 14) rfl) rfl
theorem gw_1_15 : Cond.instanceMethod yX8_init ∈ lw_G := lwG tb_1 (List.mem_of_getElem? (i := 15) rfl) rfl
theorem gw_1_16 : Cond.code yX8_init cX8_init 1 none ∈ lw_G := lwG tb_1 (List.mem_of_getElem? (i := 16) rfl) rfl
theorem gw_1_17 : Cond.methodLink RX8 3 objectInit ∈ lw_G := lwG tb_1 (List.mem_of_getElem? (i := 17) rfl) rfl
theorem gw_1_18 : Cond.instanceMethod objectInit ∈ lw_G := lwG tb_1 (List.mem_of_getElem? (i := 18) rfl) rfl
theorem gw_1_19 : Cond.code objectInit ⟨#[0xb1]⟩ 1 none ∈ lw_G := lwG tb_1 (List.mem_of_getElem? (i := 19) rfl) rfl
theorem gw_1_20 : Cond.classLink RX8 17 RX1 ∈ lw_G := lwG tb_1 (List.mem_of_getElem? (i := 20) rfl) rfl
theorem gw_1_21 : Cond.instantiable RX1 18 ∈ lw_G := lwG tb_1 (List.mem_of_getElem? (i := 21) rfl) rfl
theorem gw_1_23 : Cond.instanceMethod yX1_init ∈ lw_G := lwG tb_1 (List.mem_of_getElem? (i := 23) rfl) rfl
theorem gw_1_24 : Cond.code yX1_init cX1_init 1 none ∈ lw_G := lwG tb_1 (List.mem_of_getElem? (i := 24) rfl) rfl
theorem gw_1_25 : Cond.methodLink RX1 3 objectInit ∈ lw_G := lwG tb_1 (List.mem_of_getElem? (i := 25) rfl) rfl
theorem gw_1_26 : Cond.fieldLink RX1 9 "AttributeDesk$Grammar" "symbolCount" "I" ∈ lw_G := lwG tb_1 (List.mem_of_getElem? (i := 26) rfl) rfl
theorem gw_1_27 : Cond.fieldLink RX6 78 "AttributeDesk$Grammar" "symbolCount" "I" ∈ lw_G := lwG tb_1 (List.mem_of_getElem? (i := 27) rfl) rfl
theorem gw_1_28 : Cond.fieldLink RX8 114 "AttributeDesk$Grammar" "symbolCount" "I" ∈ lw_G := lwG tb_1 (List.mem_of_getElem? (i := 28) rfl) rfl
theorem gw_1_29 : Cond.fieldLink RX2 101 "AttributeDesk$Grammar" "symbolCount" "I" ∈ lw_G := lwG tb_1 (List.mem_of_getElem? (i := 29) rfl) rfl
theorem gw_1_30 : Cond.fieldLink RX1 15 "AttributeDesk$Grammar" "symbolNames" "[J" ∈ lw_G := lwG tb_1 (List.mem_of_getElem? (i := 30) rfl) rfl
theorem gw_1_31 : Cond.fieldLink RX1 19 "AttributeDesk$Grammar" "attributeCounts" "[I" ∈ lw_G := lwG tb_1 (List.mem_of_getElem? (i := 31) rfl) rfl
theorem gw_1_32 : Cond.fieldLink RX8 117 "AttributeDesk$Grammar" "attributeCounts" "[I" ∈ lw_G := lwG tb_1 (List.mem_of_getElem? (i := 32) rfl) rfl
theorem gw_1_33 : Cond.fieldLink RX2 112 "AttributeDesk$Grammar" "attributeCounts" "[I" ∈ lw_G := lwG tb_1 (List.mem_of_getElem? (i := 33) rfl) rfl
theorem gw_1_34 : Cond.fieldLink RX6 141 "AttributeDesk$Grammar" "attributeCounts" "[I" ∈ lw_G := lwG tb_1 (List.mem_of_getElem? (i := 34) rfl) rfl
theorem gw_1_35 : Cond.fieldLink RX1 23 "AttributeDesk$Grammar" "inheritedCounts" "[I" ∈ lw_G := lwG tb_1 (List.mem_of_getElem? (i := 35) rfl) rfl
theorem gw_1_36 : Cond.fieldLink RX8 121 "AttributeDesk$Grammar" "inheritedCounts" "[I" ∈ lw_G := lwG tb_1 (List.mem_of_getElem? (i := 36) rfl) rfl
theorem gw_1_37 : Cond.fieldLink RX2 157 "AttributeDesk$Grammar" "inheritedCounts" "[I" ∈ lw_G := lwG tb_1 (List.mem_of_getElem? (i := 37) rfl) rfl
theorem gw_1_38 : Cond.fieldLink RX1 26 "AttributeDesk$Grammar" "attributeNames" "[J" ∈ lw_G := lwG tb_1 (List.mem_of_getElem? (i := 38) rfl) rfl
theorem gw_1_39 : Cond.fieldLink RX1 29 "AttributeDesk$Grammar" "inherited" "[Z" ∈ lw_G := lwG tb_1 (List.mem_of_getElem? (i := 39) rfl) rfl
theorem gw_1_40 : Cond.fieldLink RX1 33 "AttributeDesk$Grammar" "ranks" "[I" ∈ lw_G := lwG tb_1 (List.mem_of_getElem? (i := 40) rfl) rfl
theorem gw_1_41 : Cond.fieldLink RX1 36 "AttributeDesk$Grammar" "ruleCount" "I" ∈ lw_G := lwG tb_1 (List.mem_of_getElem? (i := 41) rfl) rfl
theorem gw_1_42 : Cond.fieldLink RX6 72 "AttributeDesk$Grammar" "ruleCount" "I" ∈ lw_G := lwG tb_1 (List.mem_of_getElem? (i := 42) rfl) rfl
theorem gw_1_43 : Cond.fieldLink RX8 108 "AttributeDesk$Grammar" "ruleCount" "I" ∈ lw_G := lwG tb_1 (List.mem_of_getElem? (i := 43) rfl) rfl
theorem gw_1_44 : Cond.fieldLink RX2 123 "AttributeDesk$Grammar" "ruleCount" "I" ∈ lw_G := lwG tb_1 (List.mem_of_getElem? (i := 44) rfl) rfl
theorem gw_1_45 : Cond.fieldLink RX1 39 "AttributeDesk$Grammar" "ruleNames" "[J" ∈ lw_G := lwG tb_1 (List.mem_of_getElem? (i := 45) rfl) rfl
theorem gw_1_46 : Cond.fieldLink RX1 42 "AttributeDesk$Grammar" "ruleSymbols" "[I" ∈ lw_G := lwG tb_1 (List.mem_of_getElem? (i := 46) rfl) rfl
theorem gw_1_47 : Cond.fieldLink RX2 144 "AttributeDesk$Grammar" "ruleSymbols" "[I" ∈ lw_G := lwG tb_1 (List.mem_of_getElem? (i := 47) rfl) rfl
theorem gw_1_48 : Cond.fieldLink RX1 45 "AttributeDesk$Grammar" "childCounts" "[I" ∈ lw_G := lwG tb_1 (List.mem_of_getElem? (i := 48) rfl) rfl
theorem gw_1_49 : Cond.fieldLink RX0 97 "AttributeDesk$Grammar" "childCounts" "[I" ∈ lw_G := lwG tb_1 (List.mem_of_getElem? (i := 49) rfl) rfl
theorem gw_1_50 : Cond.fieldLink RX6 89 "AttributeDesk$Grammar" "childCounts" "[I" ∈ lw_G := lwG tb_1 (List.mem_of_getElem? (i := 50) rfl) rfl
theorem gw_1_51 : Cond.fieldLink RX5 111 "AttributeDesk$Grammar" "childCounts" "[I" ∈ lw_G := lwG tb_1 (List.mem_of_getElem? (i := 51) rfl) rfl
theorem gw_1_52 : Cond.fieldLink RX8 144 "AttributeDesk$Grammar" "childCounts" "[I" ∈ lw_G := lwG tb_1 (List.mem_of_getElem? (i := 52) rfl) rfl
theorem gw_1_53 : Cond.fieldLink RX2 147 "AttributeDesk$Grammar" "childCounts" "[I" ∈ lw_G := lwG tb_1 (List.mem_of_getElem? (i := 53) rfl) rfl
theorem gw_1_54 : Cond.fieldLink RX1 48 "AttributeDesk$Grammar" "equationCounts" "[I" ∈ lw_G := lwG tb_1 (List.mem_of_getElem? (i := 54) rfl) rfl
theorem gw_1_55 : Cond.fieldLink RX8 147 "AttributeDesk$Grammar" "equationCounts" "[I" ∈ lw_G := lwG tb_1 (List.mem_of_getElem? (i := 55) rfl) rfl
theorem gw_1_56 : Cond.fieldLink RX0 150 "AttributeDesk$Grammar" "equationCounts" "[I" ∈ lw_G := lwG tb_1 (List.mem_of_getElem? (i := 56) rfl) rfl
theorem gw_1_57 : Cond.fieldLink RX1 51 "AttributeDesk$Grammar" "codeStarts" "[I" ∈ lw_G := lwG tb_1 (List.mem_of_getElem? (i := 57) rfl) rfl
theorem gw_1_58 : Cond.fieldLink RX0 49 "AttributeDesk$Grammar" "codeStarts" "[I" ∈ lw_G := lwG tb_1 (List.mem_of_getElem? (i := 58) rfl) rfl
theorem gw_1_59 : Cond.fieldLink RX7 104 "AttributeDesk$Grammar" "codeStarts" "[I" ∈ lw_G := lwG tb_1 (List.mem_of_getElem? (i := 59) rfl) rfl
theorem gw_1_60 : Cond.fieldLink RX2 167 "AttributeDesk$Grammar" "codeStarts" "[I" ∈ lw_G := lwG tb_1 (List.mem_of_getElem? (i := 60) rfl) rfl
theorem gw_1_61 : Cond.fieldLink RX1 54 "AttributeDesk$Grammar" "codeEnds" "[I" ∈ lw_G := lwG tb_1 (List.mem_of_getElem? (i := 61) rfl) rfl
theorem gw_1_62 : Cond.fieldLink RX7 111 "AttributeDesk$Grammar" "codeEnds" "[I" ∈ lw_G := lwG tb_1 (List.mem_of_getElem? (i := 62) rfl) rfl
theorem gw_1_63 : Cond.fieldLink RX0 147 "AttributeDesk$Grammar" "codeEnds" "[I" ∈ lw_G := lwG tb_1 (List.mem_of_getElem? (i := 63) rfl) rfl
theorem gw_1_64 : Cond.fieldLink RX1 57 "AttributeDesk$Grammar" "hangs" "[I" ∈ lw_G := lwG tb_1 (List.mem_of_getElem? (i := 64) rfl) rfl
theorem gw_1_65 : Cond.fieldLink RX0 113 "AttributeDesk$Grammar" "hangs" "[I" ∈ lw_G := lwG tb_1 (List.mem_of_getElem? (i := 65) rfl) rfl
theorem gw_1_66 : Cond.fieldLink RX6 138 "AttributeDesk$Grammar" "hangs" "[I" ∈ lw_G := lwG tb_1 (List.mem_of_getElem? (i := 66) rfl) rfl
theorem gw_1_67 : Cond.fieldLink RX1 60 "AttributeDesk$Grammar" "operations" "[I" ∈ lw_G := lwG tb_1 (List.mem_of_getElem? (i := 67) rfl) rfl
theorem gw_1_68 : Cond.fieldLink RX7 114 "AttributeDesk$Grammar" "operations" "[I" ∈ lw_G := lwG tb_1 (List.mem_of_getElem? (i := 68) rfl) rfl
theorem gw_1_69 : Cond.fieldLink RX1 63 "AttributeDesk$Grammar" "operands" "[I" ∈ lw_G := lwG tb_1 (List.mem_of_getElem? (i := 69) rfl) rfl
theorem gw_1_70 : Cond.fieldLink RX7 117 "AttributeDesk$Grammar" "operands" "[I" ∈ lw_G := lwG tb_1 (List.mem_of_getElem? (i := 70) rfl) rfl
theorem gw_1_71 : Cond.fieldLink RX1 66 "AttributeDesk$Grammar" "codeSize" "I" ∈ lw_G := lwG tb_1 (List.mem_of_getElem? (i := 71) rfl) rfl
theorem gw_1_72 : Cond.fieldLink RX0 54 "AttributeDesk$Grammar" "codeSize" "I" ∈ lw_G := lwG tb_1 (List.mem_of_getElem? (i := 72) rfl) rfl
theorem gw_1_73 : Cond.lays RX1 "AttributeDesk$Grammar" "symbolCount" "I" ∈ lw_G := lwG tb_1 (List.mem_of_getElem? (i := 73) rfl) rfl
theorem gw_1_75 : Cond.laysFinal RX1 "AttributeDesk$Grammar" "symbolNames" "[J" ∈ lw_G := lwG tb_1 (List.mem_of_getElem? (i := 75) rfl) rfl
theorem gw_1_77 : Cond.laysFinal RX1 "AttributeDesk$Grammar" "attributeCounts" "[I" ∈ lw_G := lwG tb_1 (List.mem_of_getElem? (i := 77) rfl) rfl
theorem gw_1_79 : Cond.laysFinal RX1 "AttributeDesk$Grammar" "inheritedCounts" "[I" ∈ lw_G := lwG tb_1 (List.mem_of_getElem? (i := 79) rfl) rfl
theorem gw_1_81 : Cond.laysFinal RX1 "AttributeDesk$Grammar" "attributeNames" "[J" ∈ lw_G := lwG tb_1 (List.mem_of_getElem? (i := 81) rfl) rfl
theorem gw_1_83 : Cond.laysFinal RX1 "AttributeDesk$Grammar" "inherited" "[Z" ∈ lw_G := lwG tb_1 (List.mem_of_getElem? (i := 83) rfl) rfl
theorem gw_1_85 : Cond.laysFinal RX1 "AttributeDesk$Grammar" "ranks" "[I" ∈ lw_G := lwG tb_1 (List.mem_of_getElem? (i := 85) rfl) rfl
theorem gw_1_87 : Cond.lays RX1 "AttributeDesk$Grammar" "ruleCount" "I" ∈ lw_G := lwG tb_1 (List.mem_of_getElem? (i := 87) rfl) rfl
theorem gw_1_89 : Cond.laysFinal RX1 "AttributeDesk$Grammar" "ruleNames" "[J" ∈ lw_G := lwG tb_1 (List.mem_of_getElem? (i := 89) rfl) rfl
theorem gw_1_91 : Cond.laysFinal RX1 "AttributeDesk$Grammar" "ruleSymbols" "[I" ∈ lw_G := lwG tb_1 (List.mem_of_getElem? (i := 91) rfl) rfl
theorem gw_1_93 : Cond.laysFinal RX1 "AttributeDesk$Grammar" "childCounts" "[I" ∈ lw_G := lwG tb_1 (List.mem_of_getElem? (i := 93) rfl) rfl
theorem gw_1_95 : Cond.laysFinal RX1 "AttributeDesk$Grammar" "equationCounts" "[I" ∈ lw_G := lwG tb_1 (List.mem_of_getElem? (i := 95) rfl) rfl
theorem gw_1_97 : Cond.laysFinal RX1 "AttributeDesk$Grammar" "codeStarts" "[I" ∈ lw_G := lwG tb_1 (List.mem_of_getElem? (i := 97) rfl) rfl
theorem gw_1_99 : Cond.laysFinal RX1 "AttributeDesk$Grammar" "codeEnds" "[I" ∈ lw_G := lwG tb_1 (List.mem_of_getElem? (i := 99) rfl) rfl
theorem gw_1_101 : Cond.laysFinal RX1 "AttributeDesk$Grammar" "hangs" "[I" ∈ lw_G := lwG tb_1 (List.mem_of_getElem? (i := 101) rfl) rfl
theorem gw_1_103 : Cond.laysFinal RX1 "AttributeDesk$Grammar" "operations" "[I" ∈ lw_G := lwG tb_1 (List.mem_of_getElem? (i := 103) rfl) rfl
theorem gw_1_105 : Cond.laysFinal RX1 "AttributeDesk$Grammar" "operands" "[I" ∈ lw_G := lwG tb_1 (List.mem_of_getElem? (i := 105) rfl) rfl
theorem gw_1_107 : Cond.lays RX1 "AttributeDesk$Grammar" "codeSize" "I" ∈ lw_G := lwG tb_1 (List.mem_of_getElem? (i := 107) rfl) rfl
theorem gw_1_110 : Cond.arrayClass .byte ∈ lw_G := lwG tb_1 (List.mem_of_getElem? (i := 110) rfl) rfl
theorem gw_1_111 : Cond.arrayClass .long ∈ lw_G := lwG tb_1 (List.mem_of_getElem? (i := 111) rfl) rfl
theorem gw_1_112 : Cond.arrayClass .int ∈ lw_G := lwG tb_1 (List.mem_of_getElem? (i := 112) rfl) rfl
theorem gw_1_113 : Cond.arrayClass .boolean ∈ lw_G := lwG tb_1 (List.mem_of_getElem? (i := 113) rfl) rfl
theorem gw_1_114 : Cond.classLink RX8 27 RX4 ∈ lw_G := lwG tb_1 (List.mem_of_getElem? (i := 114) rfl) rfl
theorem gw_1_115 : Cond.instantiable RX4 6 ∈ lw_G := lwG tb_1 (List.mem_of_getElem? (i := 115) rfl) rfl
theorem gw_1_117 : Cond.instanceMethod yX4_init ∈ lw_G := lwG tb_1 (List.mem_of_getElem? (i := 117) rfl) rfl
theorem gw_1_118 : Cond.code yX4_init cX4_init 1 none ∈ lw_G := lwG tb_1 (List.mem_of_getElem? (i := 118) rfl) rfl
theorem gw_1_119 : Cond.methodLink RX4 3 objectInit ∈ lw_G := lwG tb_1 (List.mem_of_getElem? (i := 119) rfl) rfl
theorem gw_1_120 : Cond.fieldLink RX4 9 "AttributeDesk$Tree" "size" "I" ∈ lw_G := lwG tb_1 (List.mem_of_getElem? (i := 120) rfl) rfl
theorem gw_1_121 : Cond.fieldLink RX5 37 "AttributeDesk$Tree" "size" "I" ∈ lw_G := lwG tb_1 (List.mem_of_getElem? (i := 121) rfl) rfl
theorem gw_1_122 : Cond.fieldLink RX8 99 "AttributeDesk$Tree" "size" "I" ∈ lw_G := lwG tb_1 (List.mem_of_getElem? (i := 122) rfl) rfl
theorem gw_1_123 : Cond.fieldLink RX4 15 "AttributeDesk$Tree" "rules" "[I" ∈ lw_G := lwG tb_1 (List.mem_of_getElem? (i := 123) rfl) rfl
theorem gw_1_124 : Cond.fieldLink RX5 103 "AttributeDesk$Tree" "rules" "[I" ∈ lw_G := lwG tb_1 (List.mem_of_getElem? (i := 124) rfl) rfl
theorem gw_1_125 : Cond.fieldLink RX7 83 "AttributeDesk$Tree" "rules" "[I" ∈ lw_G := lwG tb_1 (List.mem_of_getElem? (i := 125) rfl) rfl
theorem gw_1_126 : Cond.fieldLink RX8 171 "AttributeDesk$Tree" "rules" "[I" ∈ lw_G := lwG tb_1 (List.mem_of_getElem? (i := 126) rfl) rfl
theorem gw_1_127 : Cond.fieldLink RX4 19 "AttributeDesk$Tree" "above" "[I" ∈ lw_G := lwG tb_1 (List.mem_of_getElem? (i := 127) rfl) rfl
theorem gw_1_128 : Cond.fieldLink RX5 74 "AttributeDesk$Tree" "above" "[I" ∈ lw_G := lwG tb_1 (List.mem_of_getElem? (i := 128) rfl) rfl
theorem gw_1_129 : Cond.fieldLink RX7 98 "AttributeDesk$Tree" "above" "[I" ∈ lw_G := lwG tb_1 (List.mem_of_getElem? (i := 129) rfl) rfl
theorem gw_1_130 : Cond.fieldLink RX8 174 "AttributeDesk$Tree" "above" "[I" ∈ lw_G := lwG tb_1 (List.mem_of_getElem? (i := 130) rfl) rfl
theorem gw_1_131 : Cond.fieldLink RX4 22 "AttributeDesk$Tree" "places" "[I" ∈ lw_G := lwG tb_1 (List.mem_of_getElem? (i := 131) rfl) rfl
theorem gw_1_132 : Cond.fieldLink RX5 77 "AttributeDesk$Tree" "places" "[I" ∈ lw_G := lwG tb_1 (List.mem_of_getElem? (i := 132) rfl) rfl
theorem gw_1_133 : Cond.fieldLink RX7 101 "AttributeDesk$Tree" "places" "[I" ∈ lw_G := lwG tb_1 (List.mem_of_getElem? (i := 133) rfl) rfl
theorem gw_1_134 : Cond.fieldLink RX8 177 "AttributeDesk$Tree" "places" "[I" ∈ lw_G := lwG tb_1 (List.mem_of_getElem? (i := 134) rfl) rfl
theorem gw_1_135 : Cond.fieldLink RX4 25 "AttributeDesk$Tree" "owns" "[I" ∈ lw_G := lwG tb_1 (List.mem_of_getElem? (i := 135) rfl) rfl
theorem gw_1_136 : Cond.fieldLink RX5 80 "AttributeDesk$Tree" "owns" "[I" ∈ lw_G := lwG tb_1 (List.mem_of_getElem? (i := 136) rfl) rfl
theorem gw_1_137 : Cond.fieldLink RX8 180 "AttributeDesk$Tree" "owns" "[I" ∈ lw_G := lwG tb_1 (List.mem_of_getElem? (i := 137) rfl) rfl
theorem gw_1_138 : Cond.fieldLink RX7 130 "AttributeDesk$Tree" "owns" "[I" ∈ lw_G := lwG tb_1 (List.mem_of_getElem? (i := 138) rfl) rfl
theorem gw_1_139 : Cond.fieldLink RX4 28 "AttributeDesk$Tree" "children" "[I" ∈ lw_G := lwG tb_1 (List.mem_of_getElem? (i := 139) rfl) rfl
theorem gw_1_140 : Cond.fieldLink RX5 83 "AttributeDesk$Tree" "children" "[I" ∈ lw_G := lwG tb_1 (List.mem_of_getElem? (i := 140) rfl) rfl
theorem gw_1_141 : Cond.lays RX4 "AttributeDesk$Tree" "size" "I" ∈ lw_G := lwG tb_1 (List.mem_of_getElem? (i := 141) rfl) rfl
theorem gw_1_143 : Cond.laysFinal RX4 "AttributeDesk$Tree" "rules" "[I" ∈ lw_G := lwG tb_1 (List.mem_of_getElem? (i := 143) rfl) rfl
theorem gw_1_145 : Cond.laysFinal RX4 "AttributeDesk$Tree" "above" "[I" ∈ lw_G := lwG tb_1 (List.mem_of_getElem? (i := 145) rfl) rfl
theorem gw_1_147 : Cond.laysFinal RX4 "AttributeDesk$Tree" "places" "[I" ∈ lw_G := lwG tb_1 (List.mem_of_getElem? (i := 147) rfl) rfl
theorem gw_1_149 : Cond.laysFinal RX4 "AttributeDesk$Tree" "owns" "[I" ∈ lw_G := lwG tb_1 (List.mem_of_getElem? (i := 149) rfl) rfl
theorem gw_1_151 : Cond.laysFinal RX4 "AttributeDesk$Tree" "children" "[I" ∈ lw_G := lwG tb_1 (List.mem_of_getElem? (i := 151) rfl) rfl
theorem gw_1_154 : Cond.classLink RX8 37 RX3 ∈ lw_G := lwG tb_1 (List.mem_of_getElem? (i := 154) rfl) rfl
theorem gw_1_155 : Cond.instantiable RX3 7 ∈ lw_G := lwG tb_1 (List.mem_of_getElem? (i := 155) rfl) rfl
theorem gw_1_156 : Cond.methodLink RX8 39 yX3_init ∈ lw_G := lwG tb_1 (List.mem_of_getElem? (i := 156) rfl) rfl
theorem gw_1_157 : Cond.instanceMethod yX3_init ∈ lw_G := lwG tb_1 (List.mem_of_getElem? (i := 157) rfl) rfl
theorem gw_1_158 : Cond.code yX3_init cX3_init 2 none ∈ lw_G := lwG tb_1 (List.mem_of_getElem? (i := 158) rfl) rfl
theorem gw_1_159 : Cond.methodLink RX3 3 objectInit ∈ lw_G := lwG tb_1 (List.mem_of_getElem? (i := 159) rfl) rfl
theorem gw_1_160 : Cond.fieldLink RX3 31 "AttributeDesk$Tokens" "text" "[B" ∈ lw_G := lwG tb_1 (List.mem_of_getElem? (i := 160) rfl) rfl
theorem gw_1_161 : Cond.fieldLink RX3 9 "AttributeDesk$Tokens" "size" "I" ∈ lw_G := lwG tb_1 (List.mem_of_getElem? (i := 161) rfl) rfl
theorem gw_1_162 : Cond.fieldLink RX3 15 "AttributeDesk$Tokens" "behind" "I" ∈ lw_G := lwG tb_1 (List.mem_of_getElem? (i := 162) rfl) rfl
theorem gw_1_163 : Cond.fieldLink RX3 18 "AttributeDesk$Tokens" "kind" "I" ∈ lw_G := lwG tb_1 (List.mem_of_getElem? (i := 163) rfl) rfl
theorem gw_1_164 : Cond.fieldLink RX5 55 "AttributeDesk$Tokens" "kind" "I" ∈ lw_G := lwG tb_1 (List.mem_of_getElem? (i := 164) rfl) rfl
theorem gw_1_165 : Cond.fieldLink RX0 70 "AttributeDesk$Tokens" "kind" "I" ∈ lw_G := lwG tb_1 (List.mem_of_getElem? (i := 165) rfl) rfl
theorem gw_1_166 : Cond.fieldLink RX2 73 "AttributeDesk$Tokens" "kind" "I" ∈ lw_G := lwG tb_1 (List.mem_of_getElem? (i := 166) rfl) rfl
theorem gw_1_167 : Cond.fieldLink RX3 21 "AttributeDesk$Tokens" "at" "I" ∈ lw_G := lwG tb_1 (List.mem_of_getElem? (i := 167) rfl) rfl
theorem gw_1_168 : Cond.fieldLink RX8 209 "AttributeDesk$Tokens" "at" "I" ∈ lw_G := lwG tb_1 (List.mem_of_getElem? (i := 168) rfl) rfl
theorem gw_1_169 : Cond.fieldLink RX3 24 "AttributeDesk$Tokens" "name" "J" ∈ lw_G := lwG tb_1 (List.mem_of_getElem? (i := 169) rfl) rfl
theorem gw_1_170 : Cond.fieldLink RX5 86 "AttributeDesk$Tokens" "name" "J" ∈ lw_G := lwG tb_1 (List.mem_of_getElem? (i := 170) rfl) rfl
theorem gw_1_171 : Cond.fieldLink RX2 93 "AttributeDesk$Tokens" "name" "J" ∈ lw_G := lwG tb_1 (List.mem_of_getElem? (i := 171) rfl) rfl
theorem gw_1_172 : Cond.fieldLink RX0 107 "AttributeDesk$Tokens" "name" "J" ∈ lw_G := lwG tb_1 (List.mem_of_getElem? (i := 172) rfl) rfl
theorem gw_1_173 : Cond.fieldLink RX3 28 "AttributeDesk$Tokens" "number" "J" ∈ lw_G := lwG tb_1 (List.mem_of_getElem? (i := 173) rfl) rfl
theorem gw_1_174 : Cond.fieldLink RX0 82 "AttributeDesk$Tokens" "number" "J" ∈ lw_G := lwG tb_1 (List.mem_of_getElem? (i := 174) rfl) rfl
theorem gw_1_175 : Cond.fieldLink RX5 106 "AttributeDesk$Tokens" "number" "J" ∈ lw_G := lwG tb_1 (List.mem_of_getElem? (i := 175) rfl) rfl
theorem gw_1_176 : Cond.fieldLink RX2 154 "AttributeDesk$Tokens" "number" "J" ∈ lw_G := lwG tb_1 (List.mem_of_getElem? (i := 176) rfl) rfl
theorem gw_1_177 : Cond.laysFinal RX3 "AttributeDesk$Tokens" "text" "[B" ∈ lw_G := lwG tb_1 (List.mem_of_getElem? (i := 177) rfl) rfl
theorem gw_1_179 : Cond.lays RX3 "AttributeDesk$Tokens" "size" "I" ∈ lw_G := lwG tb_1 (List.mem_of_getElem? (i := 179) rfl) rfl
theorem gw_1_181 : Cond.lays RX3 "AttributeDesk$Tokens" "behind" "I" ∈ lw_G := lwG tb_1 (List.mem_of_getElem? (i := 181) rfl) rfl
theorem gw_1_183 : Cond.lays RX3 "AttributeDesk$Tokens" "kind" "I" ∈ lw_G := lwG tb_1 (List.mem_of_getElem? (i := 183) rfl) rfl
theorem gw_1_185 : Cond.lays RX3 "AttributeDesk$Tokens" "at" "I" ∈ lw_G := lwG tb_1 (List.mem_of_getElem? (i := 185) rfl) rfl
theorem gw_1_187 : Cond.lays RX3 "AttributeDesk$Tokens" "name" "J" ∈ lw_G := lwG tb_1 (List.mem_of_getElem? (i := 187) rfl) rfl
theorem gw_1_189 : Cond.lays RX3 "AttributeDesk$Tokens" "number" "J" ∈ lw_G := lwG tb_1 (List.mem_of_getElem? (i := 189) rfl) rfl
theorem gw_1_192 : Cond.classLink RX8 46 RX2 ∈ lw_G := lwG tb_1 (List.mem_of_getElem? (i := 192) rfl) rfl
theorem gw_1_193 : Cond.instantiable RX2 7 ∈ lw_G := lwG tb_1 (List.mem_of_getElem? (i := 193) rfl) rfl
theorem gw_1_194 : Cond.methodLink RX8 48 yX2_init ∈ lw_G := lwG tb_1 (List.mem_of_getElem? (i := 194) rfl) rfl
theorem gw_1_195 : Cond.instanceMethod yX2_init ∈ lw_G := lwG tb_1 (List.mem_of_getElem? (i := 195) rfl) rfl
theorem gw_1_196 : Cond.code yX2_init cX2_init 3 none ∈ lw_G := lwG tb_1 (List.mem_of_getElem? (i := 196) rfl) rfl
theorem gw_1_197 : Cond.methodLink RX2 3 objectInit ∈ lw_G := lwG tb_1 (List.mem_of_getElem? (i := 197) rfl) rfl
theorem gw_1_198 : Cond.classLink RX2 33 RX0 ∈ lw_G := lwG tb_1 (List.mem_of_getElem? (i := 198) rfl) rfl
theorem gw_1_199 : Cond.instantiable RX0 11 ∈ lw_G := lwG tb_1 (List.mem_of_getElem? (i := 199) rfl) rfl
theorem gw_1_200 : Cond.methodLink RX2 35 yX0_init ∈ lw_G := lwG tb_1 (List.mem_of_getElem? (i := 200) rfl) rfl
theorem gw_1_201 : Cond.instanceMethod yX0_init ∈ lw_G := lwG tb_1 (List.mem_of_getElem? (i := 201) rfl) rfl
theorem gw_1_202 : Cond.code yX0_init cX0_init 3 none ∈ lw_G := lwG tb_1 (List.mem_of_getElem? (i := 202) rfl) rfl
theorem gw_1_203 : Cond.methodLink RX0 3 objectInit ∈ lw_G := lwG tb_1 (List.mem_of_getElem? (i := 203) rfl) rfl
theorem gw_1_204 : Cond.fieldLink RX0 41 "AttributeDesk$ExpressionReader" "tokens" "LAttributeDesk$Tokens;" ∈ lw_G := lwG tb_1 (List.mem_of_getElem? (i := 204) rfl) rfl
theorem gw_1_205 : Cond.fieldLink RX0 45 "AttributeDesk$ExpressionReader" "grammar" "LAttributeDesk$Grammar;" ∈ lw_G := lwG tb_1 (List.mem_of_getElem? (i := 205) rfl) rfl
theorem gw_1_206 : Cond.fieldLink RX0 9 "AttributeDesk$ExpressionReader" "rule" "I" ∈ lw_G := lwG tb_1 (List.mem_of_getElem? (i := 206) rfl) rfl
theorem gw_1_207 : Cond.fieldLink RX0 15 "AttributeDesk$ExpressionReader" "target" "I" ∈ lw_G := lwG tb_1 (List.mem_of_getElem? (i := 207) rfl) rfl
theorem gw_1_208 : Cond.fieldLink RX0 18 "AttributeDesk$ExpressionReader" "state" "I" ∈ lw_G := lwG tb_1 (List.mem_of_getElem? (i := 208) rfl) rfl
theorem gw_1_209 : Cond.fieldLink RX0 21 "AttributeDesk$ExpressionReader" "tokenCount" "I" ∈ lw_G := lwG tb_1 (List.mem_of_getElem? (i := 209) rfl) rfl
theorem gw_1_210 : Cond.fieldLink RX0 24 "AttributeDesk$ExpressionReader" "occPlace" "I" ∈ lw_G := lwG tb_1 (List.mem_of_getElem? (i := 210) rfl) rfl
theorem gw_1_211 : Cond.fieldLink RX0 27 "AttributeDesk$ExpressionReader" "waiting" "[I" ∈ lw_G := lwG tb_1 (List.mem_of_getElem? (i := 211) rfl) rfl
theorem gw_1_212 : Cond.fieldLink RX0 31 "AttributeDesk$ExpressionReader" "waitingCount" "I" ∈ lw_G := lwG tb_1 (List.mem_of_getElem? (i := 212) rfl) rfl
theorem gw_1_213 : Cond.fieldLink RX0 34 "AttributeDesk$ExpressionReader" "openCount" "I" ∈ lw_G := lwG tb_1 (List.mem_of_getElem? (i := 213) rfl) rfl
theorem gw_1_214 : Cond.fieldLink RX0 37 "AttributeDesk$ExpressionReader" "isComplete" "Z" ∈ lw_G := lwG tb_1 (List.mem_of_getElem? (i := 214) rfl) rfl
theorem gw_1_215 : Cond.fieldLink RX2 61 "AttributeDesk$ExpressionReader" "isComplete" "Z" ∈ lw_G := lwG tb_1 (List.mem_of_getElem? (i := 215) rfl) rfl
theorem gw_1_216 : Cond.laysFinal RX0 "AttributeDesk$ExpressionReader" "tokens" "LAttributeDesk$Tokens;" ∈ lw_G := lwG tb_1 (List.mem_of_getElem? (i := 216) rfl) rfl
theorem gw_1_218 : Cond.lays RX0 "AttributeDesk$ExpressionReader" "grammar" "LAttributeDesk$Grammar;" ∈ lw_G := lwG tb_1 (List.mem_of_getElem? (i := 218) rfl) rfl
theorem gw_1_220 : Cond.lays RX0 "AttributeDesk$ExpressionReader" "rule" "I" ∈ lw_G := lwG tb_1 (List.mem_of_getElem? (i := 220) rfl) rfl
theorem gw_1_222 : Cond.lays RX0 "AttributeDesk$ExpressionReader" "target" "I" ∈ lw_G := lwG tb_1 (List.mem_of_getElem? (i := 222) rfl) rfl
theorem gw_1_224 : Cond.lays RX0 "AttributeDesk$ExpressionReader" "state" "I" ∈ lw_G := lwG tb_1 (List.mem_of_getElem? (i := 224) rfl) rfl
theorem gw_1_226 : Cond.lays RX0 "AttributeDesk$ExpressionReader" "tokenCount" "I" ∈ lw_G := lwG tb_1 (List.mem_of_getElem? (i := 226) rfl) rfl
theorem gw_1_228 : Cond.lays RX0 "AttributeDesk$ExpressionReader" "occPlace" "I" ∈ lw_G := lwG tb_1 (List.mem_of_getElem? (i := 228) rfl) rfl
theorem gw_1_230 : Cond.laysFinal RX0 "AttributeDesk$ExpressionReader" "waiting" "[I" ∈ lw_G := lwG tb_1 (List.mem_of_getElem? (i := 230) rfl) rfl
theorem gw_1_232 : Cond.lays RX0 "AttributeDesk$ExpressionReader" "waitingCount" "I" ∈ lw_G := lwG tb_1 (List.mem_of_getElem? (i := 232) rfl) rfl
theorem gw_1_234 : Cond.lays RX0 "AttributeDesk$ExpressionReader" "openCount" "I" ∈ lw_G := lwG tb_1 (List.mem_of_getElem? (i := 234) rfl) rfl
theorem gw_1_236 : Cond.lays RX0 "AttributeDesk$ExpressionReader" "isComplete" "Z" ∈ lw_G := lwG tb_1 (List.mem_of_getElem? (i := 236) rfl) rfl
theorem gw_1_239 : Cond.fieldLink RX2 25 "AttributeDesk$GrammarReader" "tokens" "LAttributeDesk$Tokens;" ∈ lw_G := lwG tb_1 (List.mem_of_getElem? (i := 239) rfl) rfl
theorem gw_2_0 : Cond.fieldLink RX2 38 "AttributeDesk$GrammarReader" "expression" "LAttributeDesk$ExpressionReader;" ∈ lw_G := lwG tb_2 (List.mem_of_getElem? (i := 0) rfl) rfl
theorem gw_2_1 : Cond.fieldLink RX2 29 "AttributeDesk$GrammarReader" "grammar" "LAttributeDesk$Grammar;" ∈ lw_G := lwG tb_2 (List.mem_of_getElem? (i := 1) rfl) rfl
theorem gw_2_2 : Cond.fieldLink RX2 11 "AttributeDesk$GrammarReader" "state" "I" ∈ lw_G := lwG tb_2 (List.mem_of_getElem? (i := 2) rfl) rfl
theorem gw_2_3 : Cond.fieldLink RX2 15 "AttributeDesk$GrammarReader" "readsInherited" "Z" ∈ lw_G := lwG tb_2 (List.mem_of_getElem? (i := 3) rfl) rfl
theorem gw_2_4 : Cond.fieldLink RX2 19 "AttributeDesk$GrammarReader" "targetPlace" "I" ∈ lw_G := lwG tb_2 (List.mem_of_getElem? (i := 4) rfl) rfl
theorem gw_2_5 : Cond.fieldLink RX2 22 "AttributeDesk$GrammarReader" "targetSpot" "I" ∈ lw_G := lwG tb_2 (List.mem_of_getElem? (i := 5) rfl) rfl
theorem gw_2_6 : Cond.laysFinal RX2 "AttributeDesk$GrammarReader" "tokens" "LAttributeDesk$Tokens;" ∈ lw_G := lwG tb_2 (List.mem_of_getElem? (i := 6) rfl) rfl
theorem gw_2_8 : Cond.laysFinal RX2 "AttributeDesk$GrammarReader" "expression" "LAttributeDesk$ExpressionReader;" ∈ lw_G := lwG tb_2 (List.mem_of_getElem? (i := 8) rfl) rfl
theorem gw_2_10 : Cond.lays RX2 "AttributeDesk$GrammarReader" "grammar" "LAttributeDesk$Grammar;" ∈ lw_G := lwG tb_2 (List.mem_of_getElem? (i := 10) rfl) rfl
theorem gw_2_12 : Cond.lays RX2 "AttributeDesk$GrammarReader" "state" "I" ∈ lw_G := lwG tb_2 (List.mem_of_getElem? (i := 12) rfl) rfl
theorem gw_2_14 : Cond.lays RX2 "AttributeDesk$GrammarReader" "readsInherited" "Z" ∈ lw_G := lwG tb_2 (List.mem_of_getElem? (i := 14) rfl) rfl
theorem gw_2_16 : Cond.lays RX2 "AttributeDesk$GrammarReader" "targetPlace" "I" ∈ lw_G := lwG tb_2 (List.mem_of_getElem? (i := 16) rfl) rfl
theorem gw_2_18 : Cond.lays RX2 "AttributeDesk$GrammarReader" "targetSpot" "I" ∈ lw_G := lwG tb_2 (List.mem_of_getElem? (i := 18) rfl) rfl
theorem gw_2_21 : Cond.classLink RX8 55 RX5 ∈ lw_G := lwG tb_2 (List.mem_of_getElem? (i := 21) rfl) rfl
theorem gw_2_22 : Cond.instantiable RX5 7 ∈ lw_G := lwG tb_2 (List.mem_of_getElem? (i := 22) rfl) rfl
theorem gw_2_23 : Cond.methodLink RX8 57 yX5_init ∈ lw_G := lwG tb_2 (List.mem_of_getElem? (i := 23) rfl) rfl
theorem gw_2_24 : Cond.instanceMethod yX5_init ∈ lw_G := lwG tb_2 (List.mem_of_getElem? (i := 24) rfl) rfl
theorem gw_2_25 : Cond.code yX5_init cX5_init 4 none ∈ lw_G := lwG tb_2 (List.mem_of_getElem? (i := 25) rfl) rfl
theorem gw_2_26 : Cond.methodLink RX5 3 objectInit ∈ lw_G := lwG tb_2 (List.mem_of_getElem? (i := 26) rfl) rfl
theorem gw_2_27 : Cond.fieldLink RX5 25 "AttributeDesk$TreeReader" "tokens" "LAttributeDesk$Tokens;" ∈ lw_G := lwG tb_2 (List.mem_of_getElem? (i := 27) rfl) rfl
theorem gw_2_28 : Cond.fieldLink RX5 29 "AttributeDesk$TreeReader" "grammar" "LAttributeDesk$Grammar;" ∈ lw_G := lwG tb_2 (List.mem_of_getElem? (i := 28) rfl) rfl
theorem gw_2_29 : Cond.fieldLink RX5 33 "AttributeDesk$TreeReader" "tree" "LAttributeDesk$Tree;" ∈ lw_G := lwG tb_2 (List.mem_of_getElem? (i := 29) rfl) rfl
theorem gw_2_30 : Cond.fieldLink RX5 11 "AttributeDesk$TreeReader" "state" "I" ∈ lw_G := lwG tb_2 (List.mem_of_getElem? (i := 30) rfl) rfl
theorem gw_2_31 : Cond.fieldLink RX5 15 "AttributeDesk$TreeReader" "here" "I" ∈ lw_G := lwG tb_2 (List.mem_of_getElem? (i := 31) rfl) rfl
theorem gw_2_32 : Cond.fieldLink RX5 18 "AttributeDesk$TreeReader" "depth" "I" ∈ lw_G := lwG tb_2 (List.mem_of_getElem? (i := 32) rfl) rfl
theorem gw_2_33 : Cond.fieldLink RX5 21 "AttributeDesk$TreeReader" "filled" "[I" ∈ lw_G := lwG tb_2 (List.mem_of_getElem? (i := 33) rfl) rfl
theorem gw_2_34 : Cond.laysFinal RX5 "AttributeDesk$TreeReader" "tokens" "LAttributeDesk$Tokens;" ∈ lw_G := lwG tb_2 (List.mem_of_getElem? (i := 34) rfl) rfl
theorem gw_2_36 : Cond.lays RX5 "AttributeDesk$TreeReader" "grammar" "LAttributeDesk$Grammar;" ∈ lw_G := lwG tb_2 (List.mem_of_getElem? (i := 36) rfl) rfl
theorem gw_2_38 : Cond.lays RX5 "AttributeDesk$TreeReader" "tree" "LAttributeDesk$Tree;" ∈ lw_G := lwG tb_2 (List.mem_of_getElem? (i := 38) rfl) rfl
theorem gw_2_40 : Cond.lays RX5 "AttributeDesk$TreeReader" "state" "I" ∈ lw_G := lwG tb_2 (List.mem_of_getElem? (i := 40) rfl) rfl
theorem gw_2_42 : Cond.lays RX5 "AttributeDesk$TreeReader" "here" "I" ∈ lw_G := lwG tb_2 (List.mem_of_getElem? (i := 42) rfl) rfl
theorem gw_2_44 : Cond.lays RX5 "AttributeDesk$TreeReader" "depth" "I" ∈ lw_G := lwG tb_2 (List.mem_of_getElem? (i := 44) rfl) rfl
theorem gw_2_46 : Cond.laysFinal RX5 "AttributeDesk$TreeReader" "filled" "[I" ∈ lw_G := lwG tb_2 (List.mem_of_getElem? (i := 46) rfl) rfl
theorem gw_2_49 : Cond.classLink RX8 64 RX6 ∈ lw_G := lwG tb_2 (List.mem_of_getElem? (i := 49) rfl) rfl
theorem gw_2_50 : Cond.instantiable RX6 15 ∈ lw_G := lwG tb_2 (List.mem_of_getElem? (i := 50) rfl) rfl
theorem gw_2_51 : Cond.methodLink RX8 66 yX6_init ∈ lw_G := lwG tb_2 (List.mem_of_getElem? (i := 51) rfl) rfl
theorem gw_2_52 : Cond.instanceMethod yX6_init ∈ lw_G := lwG tb_2 (List.mem_of_getElem? (i := 52) rfl) rfl
theorem gw_2_53 : Cond.code yX6_init cX6_init 2 none ∈ lw_G := lwG tb_2 (List.mem_of_getElem? (i := 53) rfl) rfl
theorem gw_2_54 : Cond.methodLink RX6 3 objectInit ∈ lw_G := lwG tb_2 (List.mem_of_getElem? (i := 54) rfl) rfl
theorem gw_2_55 : Cond.fieldLink RX6 9 "AttributeDesk$Ways" "plain" "[I" ∈ lw_G := lwG tb_2 (List.mem_of_getElem? (i := 55) rfl) rfl
theorem gw_2_56 : Cond.fieldLink RX8 131 "AttributeDesk$Ways" "plain" "[I" ∈ lw_G := lwG tb_2 (List.mem_of_getElem? (i := 56) rfl) rfl
theorem gw_2_57 : Cond.fieldLink RX6 15 "AttributeDesk$Ways" "plainRound" "[Z" ∈ lw_G := lwG tb_2 (List.mem_of_getElem? (i := 57) rfl) rfl
theorem gw_2_58 : Cond.fieldLink RX8 154 "AttributeDesk$Ways" "plainRound" "[Z" ∈ lw_G := lwG tb_2 (List.mem_of_getElem? (i := 58) rfl) rfl
theorem gw_2_59 : Cond.fieldLink RX6 19 "AttributeDesk$Ways" "tooLarge" "Z" ∈ lw_G := lwG tb_2 (List.mem_of_getElem? (i := 59) rfl) rfl
theorem gw_2_60 : Cond.fieldLink RX8 124 "AttributeDesk$Ways" "tooLarge" "Z" ∈ lw_G := lwG tb_2 (List.mem_of_getElem? (i := 60) rfl) rfl
theorem gw_2_61 : Cond.fieldLink RX6 23 "AttributeDesk$Ways" "graphs" "[I" ∈ lw_G := lwG tb_2 (List.mem_of_getElem? (i := 61) rfl) rfl
theorem gw_2_62 : Cond.fieldLink RX8 138 "AttributeDesk$Ways" "graphs" "[I" ∈ lw_G := lwG tb_2 (List.mem_of_getElem? (i := 62) rfl) rfl
theorem gw_2_63 : Cond.fieldLink RX6 26 "AttributeDesk$Ways" "graphCounts" "[I" ∈ lw_G := lwG tb_2 (List.mem_of_getElem? (i := 63) rfl) rfl
theorem gw_2_64 : Cond.fieldLink RX8 128 "AttributeDesk$Ways" "graphCounts" "[I" ∈ lw_G := lwG tb_2 (List.mem_of_getElem? (i := 64) rfl) rfl
theorem gw_2_65 : Cond.fieldLink RX6 29 "AttributeDesk$Ways" "exactRound" "[Z" ∈ lw_G := lwG tb_2 (List.mem_of_getElem? (i := 65) rfl) rfl
theorem gw_2_66 : Cond.fieldLink RX8 157 "AttributeDesk$Ways" "exactRound" "[Z" ∈ lw_G := lwG tb_2 (List.mem_of_getElem? (i := 66) rfl) rfl
theorem gw_2_67 : Cond.fieldLink RX6 32 "AttributeDesk$Ways" "comes" "[Z" ∈ lw_G := lwG tb_2 (List.mem_of_getElem? (i := 67) rfl) rfl
theorem gw_2_68 : Cond.fieldLink RX8 150 "AttributeDesk$Ways" "comes" "[Z" ∈ lw_G := lwG tb_2 (List.mem_of_getElem? (i := 68) rfl) rfl
theorem gw_2_69 : Cond.fieldLink RX6 56 "AttributeDesk$Ways" "grammar" "LAttributeDesk$Grammar;" ∈ lw_G := lwG tb_2 (List.mem_of_getElem? (i := 69) rfl) rfl
theorem gw_2_70 : Cond.fieldLink RX6 35 "AttributeDesk$Ways" "hasGraph" "[Z" ∈ lw_G := lwG tb_2 (List.mem_of_getElem? (i := 70) rfl) rfl
theorem gw_2_71 : Cond.fieldLink RX6 38 "AttributeDesk$Ways" "hasTree" "[Z" ∈ lw_G := lwG tb_2 (List.mem_of_getElem? (i := 71) rfl) rfl
theorem gw_2_72 : Cond.fieldLink RX6 41 "AttributeDesk$Ways" "isReached" "[Z" ∈ lw_G := lwG tb_2 (List.mem_of_getElem? (i := 72) rfl) rfl
theorem gw_2_73 : Cond.fieldLink RX6 44 "AttributeDesk$Ways" "rows" "[I" ∈ lw_G := lwG tb_2 (List.mem_of_getElem? (i := 73) rfl) rfl
theorem gw_2_74 : Cond.fieldLink RX6 47 "AttributeDesk$Ways" "taken" "[I" ∈ lw_G := lwG tb_2 (List.mem_of_getElem? (i := 74) rfl) rfl
theorem gw_2_75 : Cond.fieldLink RX6 50 "AttributeDesk$Ways" "firsts" "[I" ∈ lw_G := lwG tb_2 (List.mem_of_getElem? (i := 75) rfl) rfl
theorem gw_2_76 : Cond.fieldLink RX6 53 "AttributeDesk$Ways" "spans" "[I" ∈ lw_G := lwG tb_2 (List.mem_of_getElem? (i := 76) rfl) rfl
theorem gw_2_77 : Cond.laysFinal RX6 "AttributeDesk$Ways" "plain" "[I" ∈ lw_G := lwG tb_2 (List.mem_of_getElem? (i := 77) rfl) rfl
theorem gw_2_79 : Cond.laysFinal RX6 "AttributeDesk$Ways" "plainRound" "[Z" ∈ lw_G := lwG tb_2 (List.mem_of_getElem? (i := 79) rfl) rfl
theorem gw_2_81 : Cond.lays RX6 "AttributeDesk$Ways" "tooLarge" "Z" ∈ lw_G := lwG tb_2 (List.mem_of_getElem? (i := 81) rfl) rfl
theorem gw_2_83 : Cond.laysFinal RX6 "AttributeDesk$Ways" "graphs" "[I" ∈ lw_G := lwG tb_2 (List.mem_of_getElem? (i := 83) rfl) rfl
theorem gw_2_85 : Cond.laysFinal RX6 "AttributeDesk$Ways" "graphCounts" "[I" ∈ lw_G := lwG tb_2 (List.mem_of_getElem? (i := 85) rfl) rfl
theorem gw_2_87 : Cond.laysFinal RX6 "AttributeDesk$Ways" "exactRound" "[Z" ∈ lw_G := lwG tb_2 (List.mem_of_getElem? (i := 87) rfl) rfl
theorem gw_2_89 : Cond.laysFinal RX6 "AttributeDesk$Ways" "comes" "[Z" ∈ lw_G := lwG tb_2 (List.mem_of_getElem? (i := 89) rfl) rfl
theorem gw_2_91 : Cond.lays RX6 "AttributeDesk$Ways" "grammar" "LAttributeDesk$Grammar;" ∈ lw_G := lwG tb_2 (List.mem_of_getElem? (i := 91) rfl) rfl
theorem gw_2_93 : Cond.laysFinal RX6 "AttributeDesk$Ways" "hasGraph" "[Z" ∈ lw_G := lwG tb_2 (List.mem_of_getElem? (i := 93) rfl) rfl
theorem gw_2_95 : Cond.laysFinal RX6 "AttributeDesk$Ways" "hasTree" "[Z" ∈ lw_G := lwG tb_2 (List.mem_of_getElem? (i := 95) rfl) rfl
theorem gw_2_97 : Cond.laysFinal RX6 "AttributeDesk$Ways" "isReached" "[Z" ∈ lw_G := lwG tb_2 (List.mem_of_getElem? (i := 97) rfl) rfl
theorem gw_2_99 : Cond.laysFinal RX6 "AttributeDesk$Ways" "rows" "[I" ∈ lw_G := lwG tb_2 (List.mem_of_getElem? (i := 99) rfl) rfl
theorem gw_2_101 : Cond.laysFinal RX6 "AttributeDesk$Ways" "taken" "[I" ∈ lw_G := lwG tb_2 (List.mem_of_getElem? (i := 101) rfl) rfl
theorem gw_2_103 : Cond.laysFinal RX6 "AttributeDesk$Ways" "firsts" "[I" ∈ lw_G := lwG tb_2 (List.mem_of_getElem? (i := 103) rfl) rfl
theorem gw_2_105 : Cond.laysFinal RX6 "AttributeDesk$Ways" "spans" "[I" ∈ lw_G := lwG tb_2 (List.mem_of_getElem? (i := 105) rfl) rfl
theorem gw_2_108 : Cond.classLink RX8 73 RX7 ∈ lw_G := lwG tb_2 (List.mem_of_getElem? (i := 108) rfl) rfl
theorem gw_2_109 : Cond.instantiable RX7 14 ∈ lw_G := lwG tb_2 (List.mem_of_getElem? (i := 109) rfl) rfl
theorem gw_2_110 : Cond.methodLink RX8 75 yX7_init ∈ lw_G := lwG tb_2 (List.mem_of_getElem? (i := 110) rfl) rfl
theorem gw_2_111 : Cond.instanceMethod yX7_init ∈ lw_G := lwG tb_2 (List.mem_of_getElem? (i := 111) rfl) rfl
theorem gw_2_112 : Cond.code yX7_init cX7_init 3 none ∈ lw_G := lwG tb_2 (List.mem_of_getElem? (i := 112) rfl) rfl
theorem gw_2_113 : Cond.methodLink RX7 3 objectInit ∈ lw_G := lwG tb_2 (List.mem_of_getElem? (i := 113) rfl) rfl
theorem gw_2_114 : Cond.fieldLink RX7 9 "AttributeDesk$Worker" "numbers" "[I" ∈ lw_G := lwG tb_2 (List.mem_of_getElem? (i := 114) rfl) rfl
theorem gw_2_115 : Cond.fieldLink RX8 200 "AttributeDesk$Worker" "numbers" "[I" ∈ lw_G := lwG tb_2 (List.mem_of_getElem? (i := 115) rfl) rfl
theorem gw_2_116 : Cond.fieldLink RX7 15 "AttributeDesk$Worker" "order" "[I" ∈ lw_G := lwG tb_2 (List.mem_of_getElem? (i := 116) rfl) rfl
theorem gw_2_117 : Cond.fieldLink RX8 206 "AttributeDesk$Worker" "order" "[I" ∈ lw_G := lwG tb_2 (List.mem_of_getElem? (i := 117) rfl) rfl
theorem gw_2_118 : Cond.fieldLink RX7 18 "AttributeDesk$Worker" "orderSize" "I" ∈ lw_G := lwG tb_2 (List.mem_of_getElem? (i := 118) rfl) rfl
theorem gw_2_119 : Cond.fieldLink RX8 203 "AttributeDesk$Worker" "orderSize" "I" ∈ lw_G := lwG tb_2 (List.mem_of_getElem? (i := 119) rfl) rfl
theorem gw_2_120 : Cond.fieldLink RX7 50 "AttributeDesk$Worker" "grammar" "LAttributeDesk$Grammar;" ∈ lw_G := lwG tb_2 (List.mem_of_getElem? (i := 120) rfl) rfl
theorem gw_2_121 : Cond.fieldLink RX7 54 "AttributeDesk$Worker" "tree" "LAttributeDesk$Tree;" ∈ lw_G := lwG tb_2 (List.mem_of_getElem? (i := 121) rfl) rfl
theorem gw_2_122 : Cond.fieldLink RX7 22 "AttributeDesk$Worker" "states" "[I" ∈ lw_G := lwG tb_2 (List.mem_of_getElem? (i := 122) rfl) rfl
theorem gw_2_123 : Cond.fieldLink RX7 25 "AttributeDesk$Worker" "way" "[I" ∈ lw_G := lwG tb_2 (List.mem_of_getElem? (i := 123) rfl) rfl
theorem gw_2_124 : Cond.fieldLink RX7 28 "AttributeDesk$Worker" "bases" "[I" ∈ lw_G := lwG tb_2 (List.mem_of_getElem? (i := 124) rfl) rfl
theorem gw_2_125 : Cond.fieldLink RX7 31 "AttributeDesk$Worker" "equations" "[I" ∈ lw_G := lwG tb_2 (List.mem_of_getElem? (i := 125) rfl) rfl
theorem gw_2_126 : Cond.fieldLink RX7 34 "AttributeDesk$Worker" "codeAt" "[I" ∈ lw_G := lwG tb_2 (List.mem_of_getElem? (i := 126) rfl) rfl
theorem gw_2_127 : Cond.fieldLink RX7 37 "AttributeDesk$Worker" "wayLength" "I" ∈ lw_G := lwG tb_2 (List.mem_of_getElem? (i := 127) rfl) rfl
theorem gw_2_128 : Cond.fieldLink RX7 40 "AttributeDesk$Worker" "values" "[I" ∈ lw_G := lwG tb_2 (List.mem_of_getElem? (i := 128) rfl) rfl
theorem gw_2_129 : Cond.fieldLink RX7 43 "AttributeDesk$Worker" "bads" "[Z" ∈ lw_G := lwG tb_2 (List.mem_of_getElem? (i := 129) rfl) rfl
theorem gw_2_130 : Cond.fieldLink RX7 47 "AttributeDesk$Worker" "valueCount" "I" ∈ lw_G := lwG tb_2 (List.mem_of_getElem? (i := 130) rfl) rfl
theorem gw_2_131 : Cond.laysFinal RX7 "AttributeDesk$Worker" "numbers" "[I" ∈ lw_G := lwG tb_2 (List.mem_of_getElem? (i := 131) rfl) rfl
theorem gw_2_133 : Cond.laysFinal RX7 "AttributeDesk$Worker" "order" "[I" ∈ lw_G := lwG tb_2 (List.mem_of_getElem? (i := 133) rfl) rfl
theorem gw_2_135 : Cond.lays RX7 "AttributeDesk$Worker" "orderSize" "I" ∈ lw_G := lwG tb_2 (List.mem_of_getElem? (i := 135) rfl) rfl
theorem gw_2_137 : Cond.lays RX7 "AttributeDesk$Worker" "grammar" "LAttributeDesk$Grammar;" ∈ lw_G := lwG tb_2 (List.mem_of_getElem? (i := 137) rfl) rfl
theorem gw_2_139 : Cond.lays RX7 "AttributeDesk$Worker" "tree" "LAttributeDesk$Tree;" ∈ lw_G := lwG tb_2 (List.mem_of_getElem? (i := 139) rfl) rfl
theorem gw_2_141 : Cond.laysFinal RX7 "AttributeDesk$Worker" "states" "[I" ∈ lw_G := lwG tb_2 (List.mem_of_getElem? (i := 141) rfl) rfl
theorem gw_2_143 : Cond.laysFinal RX7 "AttributeDesk$Worker" "way" "[I" ∈ lw_G := lwG tb_2 (List.mem_of_getElem? (i := 143) rfl) rfl
theorem gw_2_145 : Cond.laysFinal RX7 "AttributeDesk$Worker" "bases" "[I" ∈ lw_G := lwG tb_2 (List.mem_of_getElem? (i := 145) rfl) rfl
theorem gw_2_147 : Cond.laysFinal RX7 "AttributeDesk$Worker" "equations" "[I" ∈ lw_G := lwG tb_2 (List.mem_of_getElem? (i := 147) rfl) rfl
theorem gw_2_149 : Cond.laysFinal RX7 "AttributeDesk$Worker" "codeAt" "[I" ∈ lw_G := lwG tb_2 (List.mem_of_getElem? (i := 149) rfl) rfl
theorem gw_2_151 : Cond.lays RX7 "AttributeDesk$Worker" "wayLength" "I" ∈ lw_G := lwG tb_2 (List.mem_of_getElem? (i := 151) rfl) rfl
theorem gw_2_153 : Cond.laysFinal RX7 "AttributeDesk$Worker" "values" "[I" ∈ lw_G := lwG tb_2 (List.mem_of_getElem? (i := 153) rfl) rfl
theorem gw_2_155 : Cond.laysFinal RX7 "AttributeDesk$Worker" "bads" "[Z" ∈ lw_G := lwG tb_2 (List.mem_of_getElem? (i := 155) rfl) rfl
theorem gw_2_157 : Cond.lays RX7 "AttributeDesk$Worker" "valueCount" "I" ∈ lw_G := lwG tb_2 (List.mem_of_getElem? (i := 157) rfl) rfl
theorem gw_2_160 : Cond.fieldLink RX8 9 "AttributeDesk" "tape" "[B" ∈ lw_G := lwG tb_2 (List.mem_of_getElem? (i := 160) rfl) rfl
theorem gw_2_161 : Cond.fieldLink RX8 13 "AttributeDesk" "tapeSize" "I" ∈ lw_G := lwG tb_2 (List.mem_of_getElem? (i := 161) rfl) rfl
theorem gw_2_162 : Cond.fieldLink RX8 20 "AttributeDesk" "known" "LAttributeDesk$Grammar;" ∈ lw_G := lwG tb_2 (List.mem_of_getElem? (i := 162) rfl) rfl
theorem gw_2_163 : Cond.fieldLink RX8 24 "AttributeDesk" "spareGrammar" "LAttributeDesk$Grammar;" ∈ lw_G := lwG tb_2 (List.mem_of_getElem? (i := 163) rfl) rfl
theorem gw_2_164 : Cond.fieldLink RX8 30 "AttributeDesk" "grown" "LAttributeDesk$Tree;" ∈ lw_G := lwG tb_2 (List.mem_of_getElem? (i := 164) rfl) rfl
theorem gw_2_165 : Cond.fieldLink RX8 34 "AttributeDesk" "spareTree" "LAttributeDesk$Tree;" ∈ lw_G := lwG tb_2 (List.mem_of_getElem? (i := 165) rfl) rfl
theorem gw_2_166 : Cond.fieldLink RX8 42 "AttributeDesk" "tokens" "LAttributeDesk$Tokens;" ∈ lw_G := lwG tb_2 (List.mem_of_getElem? (i := 166) rfl) rfl
theorem gw_2_167 : Cond.fieldLink RX8 51 "AttributeDesk" "grammarReader" "LAttributeDesk$GrammarReader;" ∈ lw_G := lwG tb_2 (List.mem_of_getElem? (i := 167) rfl) rfl
theorem gw_2_168 : Cond.fieldLink RX8 60 "AttributeDesk" "treeReader" "LAttributeDesk$TreeReader;" ∈ lw_G := lwG tb_2 (List.mem_of_getElem? (i := 168) rfl) rfl
theorem gw_2_169 : Cond.fieldLink RX8 69 "AttributeDesk" "ways" "LAttributeDesk$Ways;" ∈ lw_G := lwG tb_2 (List.mem_of_getElem? (i := 169) rfl) rfl
theorem gw_2_170 : Cond.fieldLink RX8 78 "AttributeDesk" "worker" "LAttributeDesk$Worker;" ∈ lw_G := lwG tb_2 (List.mem_of_getElem? (i := 170) rfl) rfl
theorem gw_2_171 : Cond.fieldLink RX8 82 "AttributeDesk" "latestFault" "I" ∈ lw_G := lwG tb_2 (List.mem_of_getElem? (i := 171) rfl) rfl
theorem gw_2_172 : Cond.fieldLink RX8 85 "AttributeDesk" "latestPlace" "I" ∈ lw_G := lwG tb_2 (List.mem_of_getElem? (i := 172) rfl) rfl
theorem gw_2_173 : Cond.laysFinal RX8 "AttributeDesk" "tape" "[B" ∈ lw_G := lwG tb_2 (List.mem_of_getElem? (i := 173) rfl) rfl
theorem gw_2_175 : Cond.lays RX8 "AttributeDesk" "tapeSize" "I" ∈ lw_G := lwG tb_2 (List.mem_of_getElem? (i := 175) rfl) rfl
theorem gw_2_177 : Cond.lays RX8 "AttributeDesk" "known" "LAttributeDesk$Grammar;" ∈ lw_G := lwG tb_2 (List.mem_of_getElem? (i := 177) rfl) rfl
theorem gw_2_179 : Cond.lays RX8 "AttributeDesk" "spareGrammar" "LAttributeDesk$Grammar;" ∈ lw_G := lwG tb_2 (List.mem_of_getElem? (i := 179) rfl) rfl
theorem gw_2_181 : Cond.lays RX8 "AttributeDesk" "grown" "LAttributeDesk$Tree;" ∈ lw_G := lwG tb_2 (List.mem_of_getElem? (i := 181) rfl) rfl
theorem gw_2_183 : Cond.lays RX8 "AttributeDesk" "spareTree" "LAttributeDesk$Tree;" ∈ lw_G := lwG tb_2 (List.mem_of_getElem? (i := 183) rfl) rfl
theorem gw_2_185 : Cond.laysFinal RX8 "AttributeDesk" "tokens" "LAttributeDesk$Tokens;" ∈ lw_G := lwG tb_2 (List.mem_of_getElem? (i := 185) rfl) rfl
theorem gw_2_187 : Cond.laysFinal RX8 "AttributeDesk" "grammarReader" "LAttributeDesk$GrammarReader;" ∈ lw_G := lwG tb_2 (List.mem_of_getElem? (i := 187) rfl) rfl
theorem gw_2_189 : Cond.laysFinal RX8 "AttributeDesk" "treeReader" "LAttributeDesk$TreeReader;" ∈ lw_G := lwG tb_2 (List.mem_of_getElem? (i := 189) rfl) rfl
theorem gw_2_191 : Cond.laysFinal RX8 "AttributeDesk" "ways" "LAttributeDesk$Ways;" ∈ lw_G := lwG tb_2 (List.mem_of_getElem? (i := 191) rfl) rfl
theorem gw_2_193 : Cond.laysFinal RX8 "AttributeDesk" "worker" "LAttributeDesk$Worker;" ∈ lw_G := lwG tb_2 (List.mem_of_getElem? (i := 193) rfl) rfl
theorem gw_2_195 : Cond.lays RX8 "AttributeDesk" "latestFault" "I" ∈ lw_G := lwG tb_2 (List.mem_of_getElem? (i := 195) rfl) rfl
theorem gw_2_197 : Cond.lays RX8 "AttributeDesk" "latestPlace" "I" ∈ lw_G := lwG tb_2 (List.mem_of_getElem? (i := 197) rfl) rfl
theorem gw_2_200 : Cond.methodLink RL 13 yX8_feed ∈ lw_G := lwG tb_2 (List.mem_of_getElem? (i := 200) rfl) rfl
theorem gw_2_201 : Cond.instanceMethod yX8_feed ∈ lw_G := lwG tb_2 (List.mem_of_getElem? (i := 201) rfl) rfl
theorem gw_2_202 : Cond.selects RX8 yX8_feed yX8_feed ∈ lw_G := lwG tb_2 (List.mem_of_getElem? (i := 202) rfl) rfl
theorem gw_2_203 : Cond.code yX8_feed cX8_feed 6 (some .int) ∈ lw_G := lwG tb_2 (List.mem_of_getElem? (i := 203) rfl) rfl
theorem gw_2_204 : Cond.methodLink RX8 88 yX8_putWord ∈ lw_G := lwG tb_2 (List.mem_of_getElem? (i := 204) rfl) rfl
theorem gw_2_206 : Cond.instanceMethod yX8_putWord ∈ lw_G := lwG tb_2 (List.mem_of_getElem? (i := 206) rfl) rfl
theorem gw_2_207 : Cond.code yX8_putWord cX8_putWord 3 none ∈ lw_G := lwG tb_2 (List.mem_of_getElem? (i := 207) rfl) rfl
theorem gw_2_208 : Cond.methodLink RL 18 yX8_end ∈ lw_G := lwG tb_2 (List.mem_of_getElem? (i := 208) rfl) rfl
theorem gw_2_209 : Cond.instanceMethod yX8_end ∈ lw_G := lwG tb_2 (List.mem_of_getElem? (i := 209) rfl) rfl
theorem gw_2_210 : Cond.selects RX8 yX8_end yX8_end ∈ lw_G := lwG tb_2 (List.mem_of_getElem? (i := 210) rfl) rfl
theorem gw_2_211 : Cond.code yX8_end cX8_end 2 (some .int) ∈ lw_G := lwG tb_2 (List.mem_of_getElem? (i := 211) rfl) rfl
theorem gw_2_212 : Cond.methodLink RL 23 yX8_grammar ∈ lw_G := lwG tb_2 (List.mem_of_getElem? (i := 212) rfl) rfl
theorem gw_2_213 : Cond.instanceMethod yX8_grammar ∈ lw_G := lwG tb_2 (List.mem_of_getElem? (i := 213) rfl) rfl
theorem gw_2_214 : Cond.selects RX8 yX8_grammar yX8_grammar ∈ lw_G := lwG tb_2 (List.mem_of_getElem? (i := 214) rfl) rfl
theorem gw_2_215 : Cond.code yX8_grammar cX8_grammar 3 (some .int) ∈ lw_G := lwG tb_2 (List.mem_of_getElem? (i := 215) rfl) rfl
theorem gw_2_216 : Cond.methodLink RX8 92 yX2_read ∈ lw_G := lwG tb_2 (List.mem_of_getElem? (i := 216) rfl) rfl
theorem gw_2_217 : Cond.instanceMethod yX2_read ∈ lw_G := lwG tb_2 (List.mem_of_getElem? (i := 217) rfl) rfl
theorem gw_2_218 : Cond.selects RX2 yX2_read yX2_read ∈ lw_G := lwG tb_2 (List.mem_of_getElem? (i := 218) rfl) rfl
theorem gw_2_219 : Cond.code yX2_read cX2_read 5 (some .int) ∈ lw_G := lwG tb_2 (List.mem_of_getElem? (i := 219) rfl) rfl
theorem gw_2_220 : Cond.methodLink RX2 42 yX1_clear ∈ lw_G := lwG tb_2 (List.mem_of_getElem? (i := 220) rfl) rfl
theorem gw_2_221 : Cond.instanceMethod yX1_clear ∈ lw_G := lwG tb_2 (List.mem_of_getElem? (i := 221) rfl) rfl
theorem gw_2_222 : Cond.selects RX1 yX1_clear yX1_clear ∈ lw_G := lwG tb_2 (List.mem_of_getElem? (i := 222) rfl) rfl
theorem gw_2_223 : Cond.code yX1_clear cX1_clear 1 none ∈ lw_G := lwG tb_2 (List.mem_of_getElem? (i := 223) rfl) rfl
theorem gw_2_224 : Cond.methodLink RX2 47 yX3_begin ∈ lw_G := lwG tb_2 (List.mem_of_getElem? (i := 224) rfl) rfl
theorem gw_2_225 : Cond.instanceMethod yX3_begin ∈ lw_G := lwG tb_2 (List.mem_of_getElem? (i := 225) rfl) rfl
theorem gw_2_226 : Cond.selects RX3 yX3_begin yX3_begin ∈ lw_G := lwG tb_2 (List.mem_of_getElem? (i := 226) rfl) rfl
theorem gw_2_227 : Cond.code yX3_begin cX3_begin 2 none ∈ lw_G := lwG tb_2 (List.mem_of_getElem? (i := 227) rfl) rfl
theorem gw_2_228 : Cond.methodLink RX3 35 Lib.Math.min.name ∈ lw_G := lwG tb_2 (List.mem_of_getElem? (i := 228) rfl) rfl
theorem gw_2_229 : Cond.static Lib.Math.min.name ∈ lw_G := lwG tb_2 (List.mem_of_getElem? (i := 229) rfl) rfl
theorem gw_2_230 : Cond.code Lib.Math.min.name Lib.Math.min.code 2 (some .int) ∈ lw_G := lwG tb_2 (List.mem_of_getElem? (i := 230) rfl) rfl
theorem gw_2_231 : Cond.methodLink RX2 53 yX3_next ∈ lw_G := lwG tb_2 (List.mem_of_getElem? (i := 231) rfl) rfl
theorem gw_2_232 : Cond.instanceMethod yX3_next ∈ lw_G := lwG tb_2 (List.mem_of_getElem? (i := 232) rfl) rfl
theorem gw_2_233 : Cond.selects RX3 yX3_next yX3_next ∈ lw_G := lwG tb_2 (List.mem_of_getElem? (i := 233) rfl) rfl
theorem gw_2_234 : Cond.code yX3_next cX3_next 2 none ∈ lw_G := lwG tb_2 (List.mem_of_getElem? (i := 234) rfl) rfl
theorem gw_2_235 : Cond.methodLink RX3 41 yX3_skipBlanks ∈ lw_G := lwG tb_2 (List.mem_of_getElem? (i := 235) rfl) rfl
theorem gw_2_237 : Cond.instanceMethod yX3_skipBlanks ∈ lw_G := lwG tb_2 (List.mem_of_getElem? (i := 237) rfl) rfl
theorem gw_2_238 : Cond.code yX3_skipBlanks cX3_skipBlanks 3 (some .int) ∈ lw_G := lwG tb_2 (List.mem_of_getElem? (i := 238) rfl) rfl
theorem gw_2_239 : Cond.methodLink RX3 45 yX3_isLetter ∈ lw_G := lwG tb_2 (List.mem_of_getElem? (i := 239) rfl) rfl
theorem gw_3_0 : Cond.static yX3_isLetter ∈ lw_G := lwG tb_3 (List.mem_of_getElem? (i := 0) rfl) rfl
theorem gw_3_1 : Cond.code yX3_isLetter cX3_isLetter 1 (some .boolean) ∈ lw_G := lwG tb_3 (List.mem_of_getElem? (i := 1) rfl) rfl
theorem gw_3_2 : Cond.methodLink RX3 49 yX3_takeLetters ∈ lw_G := lwG tb_3 (List.mem_of_getElem? (i := 2) rfl) rfl
theorem gw_3_4 : Cond.instanceMethod yX3_takeLetters ∈ lw_G := lwG tb_3 (List.mem_of_getElem? (i := 4) rfl) rfl
theorem gw_3_5 : Cond.code yX3_takeLetters cX3_takeLetters 5 none ∈ lw_G := lwG tb_3 (List.mem_of_getElem? (i := 5) rfl) rfl
theorem gw_3_6 : Cond.methodLink RX3 61 yX3_keywordOrName ∈ lw_G := lwG tb_3 (List.mem_of_getElem? (i := 6) rfl) rfl
theorem gw_3_7 : Cond.static yX3_keywordOrName ∈ lw_G := lwG tb_3 (List.mem_of_getElem? (i := 7) rfl) rfl
theorem gw_3_8 : Cond.code yX3_keywordOrName cX3_keywordOrName 1 (some .int) ∈ lw_G := lwG tb_3 (List.mem_of_getElem? (i := 8) rfl) rfl
theorem gw_3_9 : Cond.methodLink RX3 52 yX3_isDigit ∈ lw_G := lwG tb_3 (List.mem_of_getElem? (i := 9) rfl) rfl
theorem gw_3_10 : Cond.static yX3_isDigit ∈ lw_G := lwG tb_3 (List.mem_of_getElem? (i := 10) rfl) rfl
theorem gw_3_11 : Cond.code yX3_isDigit cX3_isDigit 1 (some .boolean) ∈ lw_G := lwG tb_3 (List.mem_of_getElem? (i := 11) rfl) rfl
theorem gw_3_12 : Cond.methodLink RX3 55 yX3_takeDigits ∈ lw_G := lwG tb_3 (List.mem_of_getElem? (i := 12) rfl) rfl
theorem gw_3_14 : Cond.instanceMethod yX3_takeDigits ∈ lw_G := lwG tb_3 (List.mem_of_getElem? (i := 14) rfl) rfl
theorem gw_3_15 : Cond.code yX3_takeDigits cX3_takeDigits 4 none ∈ lw_G := lwG tb_3 (List.mem_of_getElem? (i := 15) rfl) rfl
theorem gw_3_16 : Cond.constantLong RX3 64 (2147483647) ∈ lw_G := lwG tb_3 (List.mem_of_getElem? (i := 16) rfl) rfl
theorem gw_3_17 : Cond.constantLong RX3 66 (10) ∈ lw_G := lwG tb_3 (List.mem_of_getElem? (i := 17) rfl) rfl
theorem gw_3_18 : Cond.methodLink RX3 58 yX3_isSign ∈ lw_G := lwG tb_3 (List.mem_of_getElem? (i := 18) rfl) rfl
theorem gw_3_19 : Cond.static yX3_isSign ∈ lw_G := lwG tb_3 (List.mem_of_getElem? (i := 19) rfl) rfl
theorem gw_3_20 : Cond.code yX3_isSign cX3_isSign 1 (some .boolean) ∈ lw_G := lwG tb_3 (List.mem_of_getElem? (i := 20) rfl) rfl
theorem gw_3_21 : Cond.methodLink RX2 56 yX0_step ∈ lw_G := lwG tb_3 (List.mem_of_getElem? (i := 21) rfl) rfl
theorem gw_3_22 : Cond.instanceMethod yX0_step ∈ lw_G := lwG tb_3 (List.mem_of_getElem? (i := 22) rfl) rfl
theorem gw_3_23 : Cond.selects RX0 yX0_step yX0_step ∈ lw_G := lwG tb_3 (List.mem_of_getElem? (i := 23) rfl) rfl
theorem gw_3_24 : Cond.code yX0_step cX0_step 1 (some .int) ∈ lw_G := lwG tb_3 (List.mem_of_getElem? (i := 24) rfl) rfl
theorem gw_3_25 : Cond.methodLink RX0 57 yX0_operand ∈ lw_G := lwG tb_3 (List.mem_of_getElem? (i := 25) rfl) rfl
theorem gw_3_27 : Cond.instanceMethod yX0_operand ∈ lw_G := lwG tb_3 (List.mem_of_getElem? (i := 27) rfl) rfl
theorem gw_3_28 : Cond.code yX0_operand cX0_operand 1 (some .int) ∈ lw_G := lwG tb_3 (List.mem_of_getElem? (i := 28) rfl) rfl
theorem gw_3_29 : Cond.methodLink RX0 75 yX3_hasDotBehind ∈ lw_G := lwG tb_3 (List.mem_of_getElem? (i := 29) rfl) rfl
theorem gw_3_30 : Cond.instanceMethod yX3_hasDotBehind ∈ lw_G := lwG tb_3 (List.mem_of_getElem? (i := 30) rfl) rfl
theorem gw_3_31 : Cond.selects RX3 yX3_hasDotBehind yX3_hasDotBehind ∈ lw_G := lwG tb_3 (List.mem_of_getElem? (i := 31) rfl) rfl
theorem gw_3_32 : Cond.code yX3_hasDotBehind cX3_hasDotBehind 2 (some .boolean) ∈ lw_G := lwG tb_3 (List.mem_of_getElem? (i := 32) rfl) rfl
theorem gw_3_33 : Cond.methodLink RX0 79 yX0_occNumber ∈ lw_G := lwG tb_3 (List.mem_of_getElem? (i := 33) rfl) rfl
theorem gw_3_35 : Cond.instanceMethod yX0_occNumber ∈ lw_G := lwG tb_3 (List.mem_of_getElem? (i := 35) rfl) rfl
theorem gw_3_36 : Cond.code yX0_occNumber cX0_occNumber 1 (some .int) ∈ lw_G := lwG tb_3 (List.mem_of_getElem? (i := 36) rfl) rfl
theorem gw_3_37 : Cond.methodLink RX0 100 yX0_isOneTooMany ∈ lw_G := lwG tb_3 (List.mem_of_getElem? (i := 37) rfl) rfl
theorem gw_3_39 : Cond.instanceMethod yX0_isOneTooMany ∈ lw_G := lwG tb_3 (List.mem_of_getElem? (i := 39) rfl) rfl
theorem gw_3_40 : Cond.code yX0_isOneTooMany cX0_isOneTooMany 1 (some .boolean) ∈ lw_G := lwG tb_3 (List.mem_of_getElem? (i := 40) rfl) rfl
theorem gw_3_41 : Cond.methodLink RX0 86 yX0_emitOperand ∈ lw_G := lwG tb_3 (List.mem_of_getElem? (i := 41) rfl) rfl
theorem gw_3_43 : Cond.instanceMethod yX0_emitOperand ∈ lw_G := lwG tb_3 (List.mem_of_getElem? (i := 43) rfl) rfl
theorem gw_3_44 : Cond.code yX0_emitOperand cX0_emitOperand 4 (some .int) ∈ lw_G := lwG tb_3 (List.mem_of_getElem? (i := 44) rfl) rfl
theorem gw_3_45 : Cond.constantLong RX0 116 (2147483647) ∈ lw_G := lwG tb_3 (List.mem_of_getElem? (i := 45) rfl) rfl
theorem gw_3_46 : Cond.methodLink RX0 118 yX1_addCode ∈ lw_G := lwG tb_3 (List.mem_of_getElem? (i := 46) rfl) rfl
theorem gw_3_47 : Cond.instanceMethod yX1_addCode ∈ lw_G := lwG tb_3 (List.mem_of_getElem? (i := 47) rfl) rfl
theorem gw_3_48 : Cond.selects RX1 yX1_addCode yX1_addCode ∈ lw_G := lwG tb_3 (List.mem_of_getElem? (i := 48) rfl) rfl
theorem gw_3_49 : Cond.code yX1_addCode cX1_addCode 3 none ∈ lw_G := lwG tb_3 (List.mem_of_getElem? (i := 49) rfl) rfl
theorem gw_3_50 : Cond.methodLink RX0 122 yX0_settle ∈ lw_G := lwG tb_3 (List.mem_of_getElem? (i := 50) rfl) rfl
theorem gw_3_52 : Cond.instanceMethod yX0_settle ∈ lw_G := lwG tb_3 (List.mem_of_getElem? (i := 52) rfl) rfl
theorem gw_3_53 : Cond.code yX0_settle cX0_settle 4 none ∈ lw_G := lwG tb_3 (List.mem_of_getElem? (i := 53) rfl) rfl
theorem gw_3_54 : Cond.methodLink RX0 153 yX0_bindingOf ∈ lw_G := lwG tb_3 (List.mem_of_getElem? (i := 54) rfl) rfl
theorem gw_3_55 : Cond.static yX0_bindingOf ∈ lw_G := lwG tb_3 (List.mem_of_getElem? (i := 55) rfl) rfl
theorem gw_3_56 : Cond.code yX0_bindingOf cX0_bindingOf 1 (some .int) ∈ lw_G := lwG tb_3 (List.mem_of_getElem? (i := 56) rfl) rfl
theorem gw_3_57 : Cond.methodLink RX0 90 yX0_open ∈ lw_G := lwG tb_3 (List.mem_of_getElem? (i := 57) rfl) rfl
theorem gw_3_59 : Cond.instanceMethod yX0_open ∈ lw_G := lwG tb_3 (List.mem_of_getElem? (i := 59) rfl) rfl
theorem gw_3_60 : Cond.code yX0_open cX0_open 2 (some .int) ∈ lw_G := lwG tb_3 (List.mem_of_getElem? (i := 60) rfl) rfl
theorem gw_3_61 : Cond.methodLink RX0 126 yX0_await ∈ lw_G := lwG tb_3 (List.mem_of_getElem? (i := 61) rfl) rfl
theorem gw_3_63 : Cond.instanceMethod yX0_await ∈ lw_G := lwG tb_3 (List.mem_of_getElem? (i := 63) rfl) rfl
theorem gw_3_64 : Cond.code yX0_await cX0_await 2 (some .int) ∈ lw_G := lwG tb_3 (List.mem_of_getElem? (i := 64) rfl) rfl
theorem gw_3_65 : Cond.methodLink RX0 94 yX0_topBinds ∈ lw_G := lwG tb_3 (List.mem_of_getElem? (i := 65) rfl) rfl
theorem gw_3_67 : Cond.instanceMethod yX0_topBinds ∈ lw_G := lwG tb_3 (List.mem_of_getElem? (i := 67) rfl) rfl
theorem gw_3_68 : Cond.code yX0_topBinds cX0_topBinds 1 (some .int) ∈ lw_G := lwG tb_3 (List.mem_of_getElem? (i := 68) rfl) rfl
theorem gw_3_69 : Cond.methodLink RX0 144 yX0_top ∈ lw_G := lwG tb_3 (List.mem_of_getElem? (i := 69) rfl) rfl
theorem gw_3_71 : Cond.instanceMethod yX0_top ∈ lw_G := lwG tb_3 (List.mem_of_getElem? (i := 71) rfl) rfl
theorem gw_3_72 : Cond.code yX0_top cX0_top 1 (some .int) ∈ lw_G := lwG tb_3 (List.mem_of_getElem? (i := 72) rfl) rfl
theorem gw_3_73 : Cond.methodLink RX0 61 yX0_occDot ∈ lw_G := lwG tb_3 (List.mem_of_getElem? (i := 73) rfl) rfl
theorem gw_3_75 : Cond.instanceMethod yX0_occDot ∈ lw_G := lwG tb_3 (List.mem_of_getElem? (i := 75) rfl) rfl
theorem gw_3_76 : Cond.code yX0_occDot cX0_occDot 1 (some .int) ∈ lw_G := lwG tb_3 (List.mem_of_getElem? (i := 76) rfl) rfl
theorem gw_3_77 : Cond.methodLink RX0 64 yX0_occName ∈ lw_G := lwG tb_3 (List.mem_of_getElem? (i := 77) rfl) rfl
theorem gw_3_79 : Cond.instanceMethod yX0_occName ∈ lw_G := lwG tb_3 (List.mem_of_getElem? (i := 79) rfl) rfl
theorem gw_3_80 : Cond.code yX0_occName cX0_occName 3 (some .int) ∈ lw_G := lwG tb_3 (List.mem_of_getElem? (i := 80) rfl) rfl
theorem gw_3_81 : Cond.methodLink RX0 103 yX1_symbolAt ∈ lw_G := lwG tb_3 (List.mem_of_getElem? (i := 81) rfl) rfl
theorem gw_3_82 : Cond.instanceMethod yX1_symbolAt ∈ lw_G := lwG tb_3 (List.mem_of_getElem? (i := 82) rfl) rfl
theorem gw_3_83 : Cond.selects RX1 yX1_symbolAt yX1_symbolAt ∈ lw_G := lwG tb_3 (List.mem_of_getElem? (i := 83) rfl) rfl
theorem gw_3_84 : Cond.code yX1_symbolAt cX1_symbolAt 3 (some .int) ∈ lw_G := lwG tb_3 (List.mem_of_getElem? (i := 84) rfl) rfl
theorem gw_3_85 : Cond.methodLink RX0 110 yX1_findAttribute ∈ lw_G := lwG tb_3 (List.mem_of_getElem? (i := 85) rfl) rfl
theorem gw_3_86 : Cond.instanceMethod yX1_findAttribute ∈ lw_G := lwG tb_3 (List.mem_of_getElem? (i := 86) rfl) rfl
theorem gw_3_87 : Cond.selects RX1 yX1_findAttribute yX1_findAttribute ∈ lw_G := lwG tb_3 (List.mem_of_getElem? (i := 87) rfl) rfl
theorem gw_3_88 : Cond.code yX1_findAttribute cX1_findAttribute 5 (some .int) ∈ lw_G := lwG tb_3 (List.mem_of_getElem? (i := 88) rfl) rfl
theorem gw_3_89 : Cond.methodLink RX0 67 yX0_operator ∈ lw_G := lwG tb_3 (List.mem_of_getElem? (i := 89) rfl) rfl
theorem gw_3_91 : Cond.instanceMethod yX0_operator ∈ lw_G := lwG tb_3 (List.mem_of_getElem? (i := 91) rfl) rfl
theorem gw_3_92 : Cond.code yX0_operator cX0_operator 1 (some .int) ∈ lw_G := lwG tb_3 (List.mem_of_getElem? (i := 92) rfl) rfl
theorem gw_3_93 : Cond.methodLink RX0 129 yX0_binary ∈ lw_G := lwG tb_3 (List.mem_of_getElem? (i := 93) rfl) rfl
theorem gw_3_95 : Cond.instanceMethod yX0_binary ∈ lw_G := lwG tb_3 (List.mem_of_getElem? (i := 95) rfl) rfl
theorem gw_3_96 : Cond.code yX0_binary cX0_binary 2 (some .int) ∈ lw_G := lwG tb_3 (List.mem_of_getElem? (i := 96) rfl) rfl
theorem gw_3_97 : Cond.methodLink RX0 132 yX0_compare ∈ lw_G := lwG tb_3 (List.mem_of_getElem? (i := 97) rfl) rfl
theorem gw_3_99 : Cond.instanceMethod yX0_compare ∈ lw_G := lwG tb_3 (List.mem_of_getElem? (i := 99) rfl) rfl
theorem gw_3_100 : Cond.code yX0_compare cX0_compare 1 (some .int) ∈ lw_G := lwG tb_3 (List.mem_of_getElem? (i := 100) rfl) rfl
theorem gw_3_101 : Cond.methodLink RX0 135 yX0_closeParenthesis ∈ lw_G := lwG tb_3 (List.mem_of_getElem? (i := 101) rfl) rfl
theorem gw_3_103 : Cond.instanceMethod yX0_closeParenthesis ∈ lw_G := lwG tb_3 (List.mem_of_getElem? (i := 103) rfl) rfl
theorem gw_3_104 : Cond.code yX0_closeParenthesis cX0_closeParenthesis 1 (some .int) ∈ lw_G := lwG tb_3 (List.mem_of_getElem? (i := 104) rfl) rfl
theorem gw_3_105 : Cond.methodLink RX0 138 yX0_turn ∈ lw_G := lwG tb_3 (List.mem_of_getElem? (i := 105) rfl) rfl
theorem gw_3_107 : Cond.instanceMethod yX0_turn ∈ lw_G := lwG tb_3 (List.mem_of_getElem? (i := 107) rfl) rfl
theorem gw_3_108 : Cond.code yX0_turn cX0_turn 3 (some .int) ∈ lw_G := lwG tb_3 (List.mem_of_getElem? (i := 108) rfl) rfl
theorem gw_3_109 : Cond.methodLink RX0 141 yX0_finish ∈ lw_G := lwG tb_3 (List.mem_of_getElem? (i := 109) rfl) rfl
theorem gw_3_111 : Cond.instanceMethod yX0_finish ∈ lw_G := lwG tb_3 (List.mem_of_getElem? (i := 111) rfl) rfl
theorem gw_3_112 : Cond.code yX0_finish cX0_finish 1 (some .int) ∈ lw_G := lwG tb_3 (List.mem_of_getElem? (i := 112) rfl) rfl
theorem gw_3_113 : Cond.methodLink RX2 60 yX2_step ∈ lw_G := lwG tb_3 (List.mem_of_getElem? (i := 113) rfl) rfl
theorem gw_3_115 : Cond.instanceMethod yX2_step ∈ lw_G := lwG tb_3 (List.mem_of_getElem? (i := 115) rfl) rfl
theorem gw_3_116 : Cond.code yX2_step cX2_step 1 (some .int) ∈ lw_G := lwG tb_3 (List.mem_of_getElem? (i := 116) rfl) rfl
theorem gw_3_117 : Cond.methodLink RX2 64 yX2_symbolStep ∈ lw_G := lwG tb_3 (List.mem_of_getElem? (i := 117) rfl) rfl
theorem gw_3_119 : Cond.instanceMethod yX2_symbolStep ∈ lw_G := lwG tb_3 (List.mem_of_getElem? (i := 119) rfl) rfl
theorem gw_3_120 : Cond.code yX2_symbolStep cX2_symbolStep 1 (some .int) ∈ lw_G := lwG tb_3 (List.mem_of_getElem? (i := 120) rfl) rfl
theorem gw_3_121 : Cond.methodLink RX2 80 yX2_symbolName ∈ lw_G := lwG tb_3 (List.mem_of_getElem? (i := 121) rfl) rfl
theorem gw_3_123 : Cond.instanceMethod yX2_symbolName ∈ lw_G := lwG tb_3 (List.mem_of_getElem? (i := 123) rfl) rfl
theorem gw_3_124 : Cond.code yX2_symbolName cX2_symbolName 1 (some .int) ∈ lw_G := lwG tb_3 (List.mem_of_getElem? (i := 124) rfl) rfl
theorem gw_3_125 : Cond.methodLink RX2 97 yX1_findSymbol ∈ lw_G := lwG tb_3 (List.mem_of_getElem? (i := 125) rfl) rfl
theorem gw_3_126 : Cond.instanceMethod yX1_findSymbol ∈ lw_G := lwG tb_3 (List.mem_of_getElem? (i := 126) rfl) rfl
theorem gw_3_127 : Cond.selects RX1 yX1_findSymbol yX1_findSymbol ∈ lw_G := lwG tb_3 (List.mem_of_getElem? (i := 127) rfl) rfl
theorem gw_3_128 : Cond.code yX1_findSymbol cX1_findSymbol 4 (some .int) ∈ lw_G := lwG tb_3 (List.mem_of_getElem? (i := 128) rfl) rfl
theorem gw_3_129 : Cond.methodLink RX2 104 yX1_addSymbol ∈ lw_G := lwG tb_3 (List.mem_of_getElem? (i := 129) rfl) rfl
theorem gw_3_130 : Cond.instanceMethod yX1_addSymbol ∈ lw_G := lwG tb_3 (List.mem_of_getElem? (i := 130) rfl) rfl
theorem gw_3_131 : Cond.selects RX1 yX1_addSymbol yX1_addSymbol ∈ lw_G := lwG tb_3 (List.mem_of_getElem? (i := 131) rfl) rfl
theorem gw_3_132 : Cond.code yX1_addSymbol cX1_addSymbol 3 none ∈ lw_G := lwG tb_3 (List.mem_of_getElem? (i := 132) rfl) rfl
theorem gw_3_133 : Cond.methodLink RX2 76 yX2_go ∈ lw_G := lwG tb_3 (List.mem_of_getElem? (i := 133) rfl) rfl
theorem gw_3_135 : Cond.instanceMethod yX2_go ∈ lw_G := lwG tb_3 (List.mem_of_getElem? (i := 135) rfl) rfl
theorem gw_3_136 : Cond.code yX2_go cX2_go 2 (some .int) ∈ lw_G := lwG tb_3 (List.mem_of_getElem? (i := 136) rfl) rfl
theorem gw_3_137 : Cond.methodLink RX2 83 yX2_symbolBody ∈ lw_G := lwG tb_3 (List.mem_of_getElem? (i := 137) rfl) rfl
theorem gw_3_139 : Cond.instanceMethod yX2_symbolBody ∈ lw_G := lwG tb_3 (List.mem_of_getElem? (i := 139) rfl) rfl
theorem gw_3_140 : Cond.code yX2_symbolBody cX2_symbolBody 1 (some .int) ∈ lw_G := lwG tb_3 (List.mem_of_getElem? (i := 140) rfl) rfl
theorem gw_3_141 : Cond.methodLink RX2 86 yX2_attributeName ∈ lw_G := lwG tb_3 (List.mem_of_getElem? (i := 141) rfl) rfl
theorem gw_3_143 : Cond.instanceMethod yX2_attributeName ∈ lw_G := lwG tb_3 (List.mem_of_getElem? (i := 143) rfl) rfl
theorem gw_3_144 : Cond.code yX2_attributeName cX2_attributeName 2 (some .int) ∈ lw_G := lwG tb_3 (List.mem_of_getElem? (i := 144) rfl) rfl
theorem gw_3_145 : Cond.methodLink RX2 108 yX1_findAttribute ∈ lw_G := lwG tb_3 (List.mem_of_getElem? (i := 145) rfl) rfl
theorem gw_3_146 : Cond.methodLink RX2 116 yX1_addAttribute ∈ lw_G := lwG tb_3 (List.mem_of_getElem? (i := 146) rfl) rfl
theorem gw_3_147 : Cond.instanceMethod yX1_addAttribute ∈ lw_G := lwG tb_3 (List.mem_of_getElem? (i := 147) rfl) rfl
theorem gw_3_148 : Cond.selects RX1 yX1_addAttribute yX1_addAttribute ∈ lw_G := lwG tb_3 (List.mem_of_getElem? (i := 148) rfl) rfl
theorem gw_3_149 : Cond.code yX1_addAttribute cX1_addAttribute 7 none ∈ lw_G := lwG tb_3 (List.mem_of_getElem? (i := 149) rfl) rfl
theorem gw_3_150 : Cond.methodLink RX2 89 yX2_goIf ∈ lw_G := lwG tb_3 (List.mem_of_getElem? (i := 150) rfl) rfl
theorem gw_3_152 : Cond.instanceMethod yX2_goIf ∈ lw_G := lwG tb_3 (List.mem_of_getElem? (i := 152) rfl) rfl
theorem gw_3_153 : Cond.code yX2_goIf cX2_goIf 3 (some .int) ∈ lw_G := lwG tb_3 (List.mem_of_getElem? (i := 153) rfl) rfl
theorem gw_3_154 : Cond.methodLink RX2 67 yX2_ruleStep ∈ lw_G := lwG tb_3 (List.mem_of_getElem? (i := 154) rfl) rfl
theorem gw_3_156 : Cond.instanceMethod yX2_ruleStep ∈ lw_G := lwG tb_3 (List.mem_of_getElem? (i := 156) rfl) rfl
theorem gw_3_157 : Cond.code yX2_ruleStep cX2_ruleStep 2 (some .int) ∈ lw_G := lwG tb_3 (List.mem_of_getElem? (i := 157) rfl) rfl
theorem gw_3_158 : Cond.methodLink RX2 120 yX2_ruleName ∈ lw_G := lwG tb_3 (List.mem_of_getElem? (i := 158) rfl) rfl
theorem gw_3_160 : Cond.instanceMethod yX2_ruleName ∈ lw_G := lwG tb_3 (List.mem_of_getElem? (i := 160) rfl) rfl
theorem gw_3_161 : Cond.code yX2_ruleName cX2_ruleName 1 (some .int) ∈ lw_G := lwG tb_3 (List.mem_of_getElem? (i := 161) rfl) rfl
theorem gw_3_162 : Cond.methodLink RX2 138 yX1_findRule ∈ lw_G := lwG tb_3 (List.mem_of_getElem? (i := 162) rfl) rfl
theorem gw_3_163 : Cond.instanceMethod yX1_findRule ∈ lw_G := lwG tb_3 (List.mem_of_getElem? (i := 163) rfl) rfl
theorem gw_3_164 : Cond.selects RX1 yX1_findRule yX1_findRule ∈ lw_G := lwG tb_3 (List.mem_of_getElem? (i := 164) rfl) rfl
theorem gw_3_165 : Cond.code yX1_findRule cX1_findRule 4 (some .int) ∈ lw_G := lwG tb_3 (List.mem_of_getElem? (i := 165) rfl) rfl
theorem gw_3_166 : Cond.methodLink RX2 141 yX1_addRule ∈ lw_G := lwG tb_3 (List.mem_of_getElem? (i := 166) rfl) rfl
theorem gw_3_167 : Cond.instanceMethod yX1_addRule ∈ lw_G := lwG tb_3 (List.mem_of_getElem? (i := 167) rfl) rfl
theorem gw_3_168 : Cond.selects RX1 yX1_addRule yX1_addRule ∈ lw_G := lwG tb_3 (List.mem_of_getElem? (i := 168) rfl) rfl
theorem gw_3_169 : Cond.code yX1_addRule cX1_addRule 4 none ∈ lw_G := lwG tb_3 (List.mem_of_getElem? (i := 169) rfl) rfl
theorem gw_3_170 : Cond.methodLink RX2 126 yX2_ruleHead ∈ lw_G := lwG tb_3 (List.mem_of_getElem? (i := 170) rfl) rfl
theorem gw_3_172 : Cond.instanceMethod yX2_ruleHead ∈ lw_G := lwG tb_3 (List.mem_of_getElem? (i := 172) rfl) rfl
theorem gw_3_173 : Cond.code yX2_ruleHead cX2_ruleHead 3 (some .int) ∈ lw_G := lwG tb_3 (List.mem_of_getElem? (i := 173) rfl) rfl
theorem gw_3_174 : Cond.methodLink RX2 129 yX2_ruleChild ∈ lw_G := lwG tb_3 (List.mem_of_getElem? (i := 174) rfl) rfl
theorem gw_3_176 : Cond.instanceMethod yX2_ruleChild ∈ lw_G := lwG tb_3 (List.mem_of_getElem? (i := 176) rfl) rfl
theorem gw_3_177 : Cond.code yX2_ruleChild cX2_ruleChild 3 (some .int) ∈ lw_G := lwG tb_3 (List.mem_of_getElem? (i := 177) rfl) rfl
theorem gw_3_178 : Cond.methodLink RX2 132 yX2_ruleBody ∈ lw_G := lwG tb_3 (List.mem_of_getElem? (i := 178) rfl) rfl
theorem gw_3_180 : Cond.instanceMethod yX2_ruleBody ∈ lw_G := lwG tb_3 (List.mem_of_getElem? (i := 180) rfl) rfl
theorem gw_3_181 : Cond.code yX2_ruleBody cX2_ruleBody 2 (some .int) ∈ lw_G := lwG tb_3 (List.mem_of_getElem? (i := 181) rfl) rfl
theorem gw_3_182 : Cond.methodLink RX2 150 yX2_lacksEquation ∈ lw_G := lwG tb_3 (List.mem_of_getElem? (i := 182) rfl) rfl
theorem gw_3_184 : Cond.instanceMethod yX2_lacksEquation ∈ lw_G := lwG tb_3 (List.mem_of_getElem? (i := 184) rfl) rfl
theorem gw_3_185 : Cond.code yX2_lacksEquation cX2_lacksEquation 6 (some .boolean) ∈ lw_G := lwG tb_3 (List.mem_of_getElem? (i := 185) rfl) rfl
theorem gw_3_186 : Cond.methodLink RX2 160 yX1_symbolAt ∈ lw_G := lwG tb_3 (List.mem_of_getElem? (i := 186) rfl) rfl
theorem gw_3_187 : Cond.methodLink RX2 163 yX1_mayTell ∈ lw_G := lwG tb_3 (List.mem_of_getElem? (i := 187) rfl) rfl
theorem gw_3_188 : Cond.instanceMethod yX1_mayTell ∈ lw_G := lwG tb_3 (List.mem_of_getElem? (i := 188) rfl) rfl
theorem gw_3_189 : Cond.selects RX1 yX1_mayTell yX1_mayTell ∈ lw_G := lwG tb_3 (List.mem_of_getElem? (i := 189) rfl) rfl
theorem gw_3_190 : Cond.code yX1_mayTell cX1_mayTell 4 (some .boolean) ∈ lw_G := lwG tb_3 (List.mem_of_getElem? (i := 190) rfl) rfl
theorem gw_3_191 : Cond.methodLink RX2 135 yX2_behindRule ∈ lw_G := lwG tb_3 (List.mem_of_getElem? (i := 191) rfl) rfl
theorem gw_3_193 : Cond.instanceMethod yX2_behindRule ∈ lw_G := lwG tb_3 (List.mem_of_getElem? (i := 193) rfl) rfl
theorem gw_3_194 : Cond.code yX2_behindRule cX2_behindRule 1 (some .int) ∈ lw_G := lwG tb_3 (List.mem_of_getElem? (i := 194) rfl) rfl
theorem gw_3_195 : Cond.methodLink RX2 70 yX2_targetStep ∈ lw_G := lwG tb_3 (List.mem_of_getElem? (i := 195) rfl) rfl
theorem gw_3_197 : Cond.instanceMethod yX2_targetStep ∈ lw_G := lwG tb_3 (List.mem_of_getElem? (i := 197) rfl) rfl
theorem gw_3_198 : Cond.code yX2_targetStep cX2_targetStep 2 (some .int) ∈ lw_G := lwG tb_3 (List.mem_of_getElem? (i := 198) rfl) rfl
theorem gw_3_199 : Cond.methodLink RX2 170 yX2_targetName ∈ lw_G := lwG tb_3 (List.mem_of_getElem? (i := 199) rfl) rfl
theorem gw_3_201 : Cond.instanceMethod yX2_targetName ∈ lw_G := lwG tb_3 (List.mem_of_getElem? (i := 201) rfl) rfl
theorem gw_3_202 : Cond.code yX2_targetName cX2_targetName 4 (some .int) ∈ lw_G := lwG tb_3 (List.mem_of_getElem? (i := 202) rfl) rfl
theorem gw_3_203 : Cond.methodLink RX2 173 yX0_begin ∈ lw_G := lwG tb_3 (List.mem_of_getElem? (i := 203) rfl) rfl
theorem gw_3_204 : Cond.instanceMethod yX0_begin ∈ lw_G := lwG tb_3 (List.mem_of_getElem? (i := 204) rfl) rfl
theorem gw_3_205 : Cond.selects RX0 yX0_begin yX0_begin ∈ lw_G := lwG tb_3 (List.mem_of_getElem? (i := 205) rfl) rfl
theorem gw_3_206 : Cond.code yX0_begin cX0_begin 4 none ∈ lw_G := lwG tb_3 (List.mem_of_getElem? (i := 206) rfl) rfl
theorem gw_3_207 : Cond.methodLink RX8 96 yX8_keepFault ∈ lw_G := lwG tb_3 (List.mem_of_getElem? (i := 207) rfl) rfl
theorem gw_3_209 : Cond.instanceMethod yX8_keepFault ∈ lw_G := lwG tb_3 (List.mem_of_getElem? (i := 209) rfl) rfl
theorem gw_3_210 : Cond.code yX8_keepFault cX8_keepFault 2 none ∈ lw_G := lwG tb_3 (List.mem_of_getElem? (i := 210) rfl) rfl
theorem gw_3_211 : Cond.methodLink RX8 102 yX7_begin ∈ lw_G := lwG tb_3 (List.mem_of_getElem? (i := 211) rfl) rfl
theorem gw_3_212 : Cond.instanceMethod yX7_begin ∈ lw_G := lwG tb_3 (List.mem_of_getElem? (i := 212) rfl) rfl
theorem gw_3_213 : Cond.selects RX7 yX7_begin yX7_begin ∈ lw_G := lwG tb_3 (List.mem_of_getElem? (i := 213) rfl) rfl
theorem gw_3_214 : Cond.code yX7_begin cX7_begin 3 none ∈ lw_G := lwG tb_3 (List.mem_of_getElem? (i := 214) rfl) rfl
theorem gw_3_215 : Cond.methodLink RX7 58 yX7_forget ∈ lw_G := lwG tb_3 (List.mem_of_getElem? (i := 215) rfl) rfl
theorem gw_3_216 : Cond.instanceMethod yX7_forget ∈ lw_G := lwG tb_3 (List.mem_of_getElem? (i := 216) rfl) rfl
theorem gw_3_217 : Cond.selects RX7 yX7_forget yX7_forget ∈ lw_G := lwG tb_3 (List.mem_of_getElem? (i := 217) rfl) rfl
theorem gw_3_218 : Cond.code yX7_forget cX7_forget 2 none ∈ lw_G := lwG tb_3 (List.mem_of_getElem? (i := 218) rfl) rfl
theorem gw_3_219 : Cond.methodLink RX8 105 yX6_study ∈ lw_G := lwG tb_3 (List.mem_of_getElem? (i := 219) rfl) rfl
theorem gw_3_220 : Cond.instanceMethod yX6_study ∈ lw_G := lwG tb_3 (List.mem_of_getElem? (i := 220) rfl) rfl
theorem gw_3_221 : Cond.selects RX6 yX6_study yX6_study ∈ lw_G := lwG tb_3 (List.mem_of_getElem? (i := 221) rfl) rfl
theorem gw_3_222 : Cond.code yX6_study cX6_study 2 none ∈ lw_G := lwG tb_3 (List.mem_of_getElem? (i := 222) rfl) rfl
theorem gw_3_223 : Cond.methodLink RX6 60 yX6_findPlain ∈ lw_G := lwG tb_3 (List.mem_of_getElem? (i := 223) rfl) rfl
theorem gw_3_225 : Cond.instanceMethod yX6_findPlain ∈ lw_G := lwG tb_3 (List.mem_of_getElem? (i := 225) rfl) rfl
theorem gw_3_226 : Cond.code yX6_findPlain cX6_findPlain 4 none ∈ lw_G := lwG tb_3 (List.mem_of_getElem? (i := 226) rfl) rfl
theorem gw_3_227 : Cond.methodLink RX6 81 yX6_takePlain ∈ lw_G := lwG tb_3 (List.mem_of_getElem? (i := 227) rfl) rfl
theorem gw_3_229 : Cond.instanceMethod yX6_takePlain ∈ lw_G := lwG tb_3 (List.mem_of_getElem? (i := 229) rfl) rfl
theorem gw_3_230 : Cond.code yX6_takePlain cX6_takePlain 5 (some .boolean) ∈ lw_G := lwG tb_3 (List.mem_of_getElem? (i := 230) rfl) rfl
theorem gw_3_231 : Cond.methodLink RX6 85 yX6_loadEquations ∈ lw_G := lwG tb_3 (List.mem_of_getElem? (i := 231) rfl) rfl
theorem gw_3_233 : Cond.instanceMethod yX6_loadEquations ∈ lw_G := lwG tb_3 (List.mem_of_getElem? (i := 233) rfl) rfl
theorem gw_3_234 : Cond.code yX6_loadEquations cX6_loadEquations 3 none ∈ lw_G := lwG tb_3 (List.mem_of_getElem? (i := 234) rfl) rfl
theorem gw_3_235 : Cond.methodLink RX6 92 yX1_symbolAt ∈ lw_G := lwG tb_3 (List.mem_of_getElem? (i := 235) rfl) rfl
theorem gw_3_236 : Cond.methodLink RX6 96 yX6_loadGraph ∈ lw_G := lwG tb_3 (List.mem_of_getElem? (i := 236) rfl) rfl
theorem gw_3_238 : Cond.instanceMethod yX6_loadGraph ∈ lw_G := lwG tb_3 (List.mem_of_getElem? (i := 238) rfl) rfl
theorem gw_3_239 : Cond.code yX6_loadGraph cX6_loadGraph 8 none ∈ lw_G := lwG tb_3 (List.mem_of_getElem? (i := 239) rfl) rfl
theorem gw_4_0 : Cond.methodLink RX6 144 yX1_graphBit ∈ lw_G := lwG tb_4 (List.mem_of_getElem? (i := 0) rfl) rfl
theorem gw_4_1 : Cond.instanceMethod yX1_graphBit ∈ lw_G := lwG tb_4 (List.mem_of_getElem? (i := 1) rfl) rfl
theorem gw_4_2 : Cond.selects RX1 yX1_graphBit yX1_graphBit ∈ lw_G := lwG tb_4 (List.mem_of_getElem? (i := 2) rfl) rfl
theorem gw_4_3 : Cond.code yX1_graphBit cX1_graphBit 6 (some .int) ∈ lw_G := lwG tb_4 (List.mem_of_getElem? (i := 3) rfl) rfl
theorem gw_4_4 : Cond.methodLink RX6 100 yX6_closeRows ∈ lw_G := lwG tb_4 (List.mem_of_getElem? (i := 4) rfl) rfl
theorem gw_4_6 : Cond.instanceMethod yX6_closeRows ∈ lw_G := lwG tb_4 (List.mem_of_getElem? (i := 6) rfl) rfl
theorem gw_4_7 : Cond.code yX6_closeRows cX6_closeRows 3 none ∈ lw_G := lwG tb_4 (List.mem_of_getElem? (i := 7) rfl) rfl
theorem gw_4_8 : Cond.methodLink RX6 103 yX6_goesRound ∈ lw_G := lwG tb_4 (List.mem_of_getElem? (i := 8) rfl) rfl
theorem gw_4_10 : Cond.instanceMethod yX6_goesRound ∈ lw_G := lwG tb_4 (List.mem_of_getElem? (i := 10) rfl) rfl
theorem gw_4_11 : Cond.code yX6_goesRound cX6_goesRound 2 (some .boolean) ∈ lw_G := lwG tb_4 (List.mem_of_getElem? (i := 11) rfl) rfl
theorem gw_4_12 : Cond.methodLink RX6 107 yX6_headGraph ∈ lw_G := lwG tb_4 (List.mem_of_getElem? (i := 12) rfl) rfl
theorem gw_4_14 : Cond.instanceMethod yX6_headGraph ∈ lw_G := lwG tb_4 (List.mem_of_getElem? (i := 14) rfl) rfl
theorem gw_4_15 : Cond.code yX6_headGraph cX6_headGraph 5 (some .int) ∈ lw_G := lwG tb_4 (List.mem_of_getElem? (i := 15) rfl) rfl
theorem gw_4_16 : Cond.methodLink RX6 63 yX6_findTrees ∈ lw_G := lwG tb_4 (List.mem_of_getElem? (i := 16) rfl) rfl
theorem gw_4_18 : Cond.instanceMethod yX6_findTrees ∈ lw_G := lwG tb_4 (List.mem_of_getElem? (i := 18) rfl) rfl
theorem gw_4_19 : Cond.code yX6_findTrees cX6_findTrees 3 none ∈ lw_G := lwG tb_4 (List.mem_of_getElem? (i := 19) rfl) rfl
theorem gw_4_20 : Cond.methodLink RX6 111 yX6_childrenHaveTrees ∈ lw_G := lwG tb_4 (List.mem_of_getElem? (i := 20) rfl) rfl
theorem gw_4_22 : Cond.instanceMethod yX6_childrenHaveTrees ∈ lw_G := lwG tb_4 (List.mem_of_getElem? (i := 22) rfl) rfl
theorem gw_4_23 : Cond.code yX6_childrenHaveTrees cX6_childrenHaveTrees 3 (some .boolean) ∈ lw_G := lwG tb_4 (List.mem_of_getElem? (i := 23) rfl) rfl
theorem gw_4_24 : Cond.methodLink RX6 66 yX6_findComing ∈ lw_G := lwG tb_4 (List.mem_of_getElem? (i := 24) rfl) rfl
theorem gw_4_26 : Cond.instanceMethod yX6_findComing ∈ lw_G := lwG tb_4 (List.mem_of_getElem? (i := 26) rfl) rfl
theorem gw_4_27 : Cond.code yX6_findComing cX6_findComing 4 none ∈ lw_G := lwG tb_4 (List.mem_of_getElem? (i := 27) rfl) rfl
theorem gw_4_28 : Cond.methodLink RX6 69 yX6_findExact ∈ lw_G := lwG tb_4 (List.mem_of_getElem? (i := 28) rfl) rfl
theorem gw_4_30 : Cond.instanceMethod yX6_findExact ∈ lw_G := lwG tb_4 (List.mem_of_getElem? (i := 30) rfl) rfl
theorem gw_4_31 : Cond.code yX6_findExact cX6_findExact 4 none ∈ lw_G := lwG tb_4 (List.mem_of_getElem? (i := 31) rfl) rfl
theorem gw_4_32 : Cond.methodLink RX6 114 yX6_clearExact ∈ lw_G := lwG tb_4 (List.mem_of_getElem? (i := 32) rfl) rfl
theorem gw_4_34 : Cond.instanceMethod yX6_clearExact ∈ lw_G := lwG tb_4 (List.mem_of_getElem? (i := 34) rfl) rfl
theorem gw_4_35 : Cond.code yX6_clearExact cX6_clearExact 2 none ∈ lw_G := lwG tb_4 (List.mem_of_getElem? (i := 35) rfl) rfl
theorem gw_4_36 : Cond.methodLink RX6 117 yX6_takeNewChoices ∈ lw_G := lwG tb_4 (List.mem_of_getElem? (i := 36) rfl) rfl
theorem gw_4_38 : Cond.instanceMethod yX6_takeNewChoices ∈ lw_G := lwG tb_4 (List.mem_of_getElem? (i := 38) rfl) rfl
theorem gw_4_39 : Cond.code yX6_takeNewChoices cX6_takeNewChoices 9 (some .boolean) ∈ lw_G := lwG tb_4 (List.mem_of_getElem? (i := 39) rfl) rfl
theorem gw_4_40 : Cond.methodLink RX6 127 yX6_countChoices ∈ lw_G := lwG tb_4 (List.mem_of_getElem? (i := 40) rfl) rfl
theorem gw_4_42 : Cond.instanceMethod yX6_countChoices ∈ lw_G := lwG tb_4 (List.mem_of_getElem? (i := 42) rfl) rfl
theorem gw_4_43 : Cond.code yX6_countChoices cX6_countChoices 4 (some .int) ∈ lw_G := lwG tb_4 (List.mem_of_getElem? (i := 43) rfl) rfl
theorem gw_4_44 : Cond.methodLink RX6 120 yX6_takeChoice ∈ lw_G := lwG tb_4 (List.mem_of_getElem? (i := 44) rfl) rfl
theorem gw_4_46 : Cond.instanceMethod yX6_takeChoice ∈ lw_G := lwG tb_4 (List.mem_of_getElem? (i := 46) rfl) rfl
theorem gw_4_47 : Cond.code yX6_takeChoice cX6_takeChoice 7 (some .boolean) ∈ lw_G := lwG tb_4 (List.mem_of_getElem? (i := 47) rfl) rfl
theorem gw_4_48 : Cond.methodLink RX6 130 Lib.Math.max.name ∈ lw_G := lwG tb_4 (List.mem_of_getElem? (i := 48) rfl) rfl
theorem gw_4_49 : Cond.static Lib.Math.max.name ∈ lw_G := lwG tb_4 (List.mem_of_getElem? (i := 49) rfl) rfl
theorem gw_4_50 : Cond.code Lib.Math.max.name Lib.Math.max.code 2 (some .int) ∈ lw_G := lwG tb_4 (List.mem_of_getElem? (i := 50) rfl) rfl
theorem gw_4_51 : Cond.methodLink RX6 135 yX6_addGraph ∈ lw_G := lwG tb_4 (List.mem_of_getElem? (i := 51) rfl) rfl
theorem gw_4_53 : Cond.instanceMethod yX6_addGraph ∈ lw_G := lwG tb_4 (List.mem_of_getElem? (i := 53) rfl) rfl
theorem gw_4_54 : Cond.code yX6_addGraph cX6_addGraph 3 (some .boolean) ∈ lw_G := lwG tb_4 (List.mem_of_getElem? (i := 54) rfl) rfl
theorem gw_4_55 : Cond.methodLink RX6 124 yX6_sortGraphs ∈ lw_G := lwG tb_4 (List.mem_of_getElem? (i := 55) rfl) rfl
theorem gw_4_57 : Cond.instanceMethod yX6_sortGraphs ∈ lw_G := lwG tb_4 (List.mem_of_getElem? (i := 57) rfl) rfl
theorem gw_4_58 : Cond.code yX6_sortGraphs cX6_sortGraphs 4 none ∈ lw_G := lwG tb_4 (List.mem_of_getElem? (i := 58) rfl) rfl
theorem gw_4_59 : Cond.methodLink RL 28 yX8_tree ∈ lw_G := lwG tb_4 (List.mem_of_getElem? (i := 59) rfl) rfl
theorem gw_4_60 : Cond.instanceMethod yX8_tree ∈ lw_G := lwG tb_4 (List.mem_of_getElem? (i := 60) rfl) rfl
theorem gw_4_61 : Cond.selects RX8 yX8_tree yX8_tree ∈ lw_G := lwG tb_4 (List.mem_of_getElem? (i := 61) rfl) rfl
theorem gw_4_62 : Cond.code yX8_tree cX8_tree 3 (some .int) ∈ lw_G := lwG tb_4 (List.mem_of_getElem? (i := 62) rfl) rfl
theorem gw_4_63 : Cond.methodLink RX8 111 yX5_read ∈ lw_G := lwG tb_4 (List.mem_of_getElem? (i := 63) rfl) rfl
theorem gw_4_64 : Cond.instanceMethod yX5_read ∈ lw_G := lwG tb_4 (List.mem_of_getElem? (i := 64) rfl) rfl
theorem gw_4_65 : Cond.selects RX5 yX5_read yX5_read ∈ lw_G := lwG tb_4 (List.mem_of_getElem? (i := 65) rfl) rfl
theorem gw_4_66 : Cond.code yX5_read cX5_read 6 (some .int) ∈ lw_G := lwG tb_4 (List.mem_of_getElem? (i := 66) rfl) rfl
theorem gw_4_67 : Cond.methodLink RX5 42 yX3_begin ∈ lw_G := lwG tb_4 (List.mem_of_getElem? (i := 67) rfl) rfl
theorem gw_4_68 : Cond.methodLink RX5 48 yX3_next ∈ lw_G := lwG tb_4 (List.mem_of_getElem? (i := 68) rfl) rfl
theorem gw_4_69 : Cond.methodLink RX5 51 yX5_step ∈ lw_G := lwG tb_4 (List.mem_of_getElem? (i := 69) rfl) rfl
theorem gw_4_71 : Cond.instanceMethod yX5_step ∈ lw_G := lwG tb_4 (List.mem_of_getElem? (i := 71) rfl) rfl
theorem gw_4_72 : Cond.code yX5_step cX5_step 1 (some .int) ∈ lw_G := lwG tb_4 (List.mem_of_getElem? (i := 72) rfl) rfl
theorem gw_4_73 : Cond.methodLink RX5 58 yX5_openNode ∈ lw_G := lwG tb_4 (List.mem_of_getElem? (i := 73) rfl) rfl
theorem gw_4_75 : Cond.instanceMethod yX5_openNode ∈ lw_G := lwG tb_4 (List.mem_of_getElem? (i := 75) rfl) rfl
theorem gw_4_76 : Cond.code yX5_openNode cX5_openNode 2 (some .int) ∈ lw_G := lwG tb_4 (List.mem_of_getElem? (i := 76) rfl) rfl
theorem gw_4_77 : Cond.methodLink RX5 70 yX5_go ∈ lw_G := lwG tb_4 (List.mem_of_getElem? (i := 77) rfl) rfl
theorem gw_4_79 : Cond.instanceMethod yX5_go ∈ lw_G := lwG tb_4 (List.mem_of_getElem? (i := 79) rfl) rfl
theorem gw_4_80 : Cond.code yX5_go cX5_go 3 (some .int) ∈ lw_G := lwG tb_4 (List.mem_of_getElem? (i := 80) rfl) rfl
theorem gw_4_81 : Cond.methodLink RX5 61 yX5_ruleName ∈ lw_G := lwG tb_4 (List.mem_of_getElem? (i := 81) rfl) rfl
theorem gw_4_83 : Cond.instanceMethod yX5_ruleName ∈ lw_G := lwG tb_4 (List.mem_of_getElem? (i := 83) rfl) rfl
theorem gw_4_84 : Cond.code yX5_ruleName cX5_ruleName 2 (some .int) ∈ lw_G := lwG tb_4 (List.mem_of_getElem? (i := 84) rfl) rfl
theorem gw_4_85 : Cond.methodLink RX5 90 yX1_findRule ∈ lw_G := lwG tb_4 (List.mem_of_getElem? (i := 85) rfl) rfl
theorem gw_4_86 : Cond.methodLink RX5 96 yX1_symbolAt ∈ lw_G := lwG tb_4 (List.mem_of_getElem? (i := 86) rfl) rfl
theorem gw_4_87 : Cond.methodLink RX5 100 yX5_dueSymbol ∈ lw_G := lwG tb_4 (List.mem_of_getElem? (i := 87) rfl) rfl
theorem gw_4_89 : Cond.instanceMethod yX5_dueSymbol ∈ lw_G := lwG tb_4 (List.mem_of_getElem? (i := 89) rfl) rfl
theorem gw_4_90 : Cond.code yX5_dueSymbol cX5_dueSymbol 2 (some .int) ∈ lw_G := lwG tb_4 (List.mem_of_getElem? (i := 90) rfl) rfl
theorem gw_4_91 : Cond.methodLink RX5 64 yX5_ownNumber ∈ lw_G := lwG tb_4 (List.mem_of_getElem? (i := 91) rfl) rfl
theorem gw_4_93 : Cond.instanceMethod yX5_ownNumber ∈ lw_G := lwG tb_4 (List.mem_of_getElem? (i := 93) rfl) rfl
theorem gw_4_94 : Cond.code yX5_ownNumber cX5_ownNumber 1 (some .int) ∈ lw_G := lwG tb_4 (List.mem_of_getElem? (i := 94) rfl) rfl
theorem gw_4_95 : Cond.constantLong RX5 109 (2147483647) ∈ lw_G := lwG tb_4 (List.mem_of_getElem? (i := 95) rfl) rfl
theorem gw_4_96 : Cond.methodLink RX5 67 yX5_childOrEnd ∈ lw_G := lwG tb_4 (List.mem_of_getElem? (i := 96) rfl) rfl
theorem gw_4_98 : Cond.instanceMethod yX5_childOrEnd ∈ lw_G := lwG tb_4 (List.mem_of_getElem? (i := 98) rfl) rfl
theorem gw_4_99 : Cond.code yX5_childOrEnd cX5_childOrEnd 2 (some .int) ∈ lw_G := lwG tb_4 (List.mem_of_getElem? (i := 99) rfl) rfl
theorem gw_4_100 : Cond.methodLink RL 32 yX8_fault ∈ lw_G := lwG tb_4 (List.mem_of_getElem? (i := 100) rfl) rfl
theorem gw_4_101 : Cond.instanceMethod yX8_fault ∈ lw_G := lwG tb_4 (List.mem_of_getElem? (i := 101) rfl) rfl
theorem gw_4_102 : Cond.selects RX8 yX8_fault yX8_fault ∈ lw_G := lwG tb_4 (List.mem_of_getElem? (i := 102) rfl) rfl
theorem gw_4_103 : Cond.code yX8_fault cX8_fault 2 (some .int) ∈ lw_G := lwG tb_4 (List.mem_of_getElem? (i := 103) rfl) rfl
theorem gw_4_104 : Cond.methodLink RL 36 yX8_symbol ∈ lw_G := lwG tb_4 (List.mem_of_getElem? (i := 104) rfl) rfl
theorem gw_4_105 : Cond.instanceMethod yX8_symbol ∈ lw_G := lwG tb_4 (List.mem_of_getElem? (i := 105) rfl) rfl
theorem gw_4_106 : Cond.selects RX8 yX8_symbol yX8_symbol ∈ lw_G := lwG tb_4 (List.mem_of_getElem? (i := 106) rfl) rfl
theorem gw_4_107 : Cond.code yX8_symbol cX8_symbol 3 (some .int) ∈ lw_G := lwG tb_4 (List.mem_of_getElem? (i := 107) rfl) rfl
theorem gw_4_108 : Cond.methodLink RX8 134 yX8_inheritance ∈ lw_G := lwG tb_4 (List.mem_of_getElem? (i := 108) rfl) rfl
theorem gw_4_110 : Cond.instanceMethod yX8_inheritance ∈ lw_G := lwG tb_4 (List.mem_of_getElem? (i := 110) rfl) rfl
theorem gw_4_111 : Cond.code yX8_inheritance cX8_inheritance 3 (some .int) ∈ lw_G := lwG tb_4 (List.mem_of_getElem? (i := 111) rfl) rfl
theorem gw_4_112 : Cond.methodLink RX8 212 yX1_isInherited ∈ lw_G := lwG tb_4 (List.mem_of_getElem? (i := 112) rfl) rfl
theorem gw_4_113 : Cond.instanceMethod yX1_isInherited ∈ lw_G := lwG tb_4 (List.mem_of_getElem? (i := 113) rfl) rfl
theorem gw_4_114 : Cond.selects RX1 yX1_isInherited yX1_isInherited ∈ lw_G := lwG tb_4 (List.mem_of_getElem? (i := 114) rfl) rfl
theorem gw_4_115 : Cond.code yX1_isInherited cX1_isInherited 3 (some .boolean) ∈ lw_G := lwG tb_4 (List.mem_of_getElem? (i := 115) rfl) rfl
theorem gw_4_116 : Cond.methodLink RL 41 yX8_graph ∈ lw_G := lwG tb_4 (List.mem_of_getElem? (i := 116) rfl) rfl
theorem gw_4_117 : Cond.instanceMethod yX8_graph ∈ lw_G := lwG tb_4 (List.mem_of_getElem? (i := 117) rfl) rfl
theorem gw_4_118 : Cond.selects RX8 yX8_graph yX8_graph ∈ lw_G := lwG tb_4 (List.mem_of_getElem? (i := 118) rfl) rfl
theorem gw_4_119 : Cond.code yX8_graph cX8_graph 3 (some .int) ∈ lw_G := lwG tb_4 (List.mem_of_getElem? (i := 119) rfl) rfl
theorem gw_4_120 : Cond.methodLink RL 45 yX8_rule ∈ lw_G := lwG tb_4 (List.mem_of_getElem? (i := 120) rfl) rfl
theorem gw_4_121 : Cond.instanceMethod yX8_rule ∈ lw_G := lwG tb_4 (List.mem_of_getElem? (i := 121) rfl) rfl
theorem gw_4_122 : Cond.selects RX8 yX8_rule yX8_rule ∈ lw_G := lwG tb_4 (List.mem_of_getElem? (i := 122) rfl) rfl
theorem gw_4_123 : Cond.code yX8_rule cX8_rule 3 (some .int) ∈ lw_G := lwG tb_4 (List.mem_of_getElem? (i := 123) rfl) rfl
theorem gw_4_124 : Cond.methodLink RX8 141 yX1_symbolAt ∈ lw_G := lwG tb_4 (List.mem_of_getElem? (i := 124) rfl) rfl
theorem gw_4_125 : Cond.methodLink RL 49 yX8_test ∈ lw_G := lwG tb_4 (List.mem_of_getElem? (i := 125) rfl) rfl
theorem gw_4_126 : Cond.instanceMethod yX8_test ∈ lw_G := lwG tb_4 (List.mem_of_getElem? (i := 126) rfl) rfl
theorem gw_4_127 : Cond.selects RX8 yX8_test yX8_test ∈ lw_G := lwG tb_4 (List.mem_of_getElem? (i := 127) rfl) rfl
theorem gw_4_128 : Cond.code yX8_test cX8_test 2 (some .int) ∈ lw_G := lwG tb_4 (List.mem_of_getElem? (i := 128) rfl) rfl
theorem gw_4_129 : Cond.methodLink RX8 160 yX6_plainGoesRound ∈ lw_G := lwG tb_4 (List.mem_of_getElem? (i := 129) rfl) rfl
theorem gw_4_130 : Cond.instanceMethod yX6_plainGoesRound ∈ lw_G := lwG tb_4 (List.mem_of_getElem? (i := 130) rfl) rfl
theorem gw_4_131 : Cond.selects RX6 yX6_plainGoesRound yX6_plainGoesRound ∈ lw_G := lwG tb_4 (List.mem_of_getElem? (i := 131) rfl) rfl
theorem gw_4_132 : Cond.code yX6_plainGoesRound cX6_plainGoesRound 2 (some .boolean) ∈ lw_G := lwG tb_4 (List.mem_of_getElem? (i := 132) rfl) rfl
theorem gw_4_133 : Cond.methodLink RX8 164 yX6_someTreeGoesRound ∈ lw_G := lwG tb_4 (List.mem_of_getElem? (i := 133) rfl) rfl
theorem gw_4_134 : Cond.instanceMethod yX6_someTreeGoesRound ∈ lw_G := lwG tb_4 (List.mem_of_getElem? (i := 134) rfl) rfl
theorem gw_4_135 : Cond.selects RX6 yX6_someTreeGoesRound yX6_someTreeGoesRound ∈ lw_G := lwG tb_4 (List.mem_of_getElem? (i := 135) rfl) rfl
theorem gw_4_136 : Cond.code yX6_someTreeGoesRound cX6_someTreeGoesRound 2 (some .boolean) ∈ lw_G := lwG tb_4 (List.mem_of_getElem? (i := 136) rfl) rfl
theorem gw_4_137 : Cond.methodLink RL 53 yX8_node ∈ lw_G := lwG tb_4 (List.mem_of_getElem? (i := 137) rfl) rfl
theorem gw_4_138 : Cond.instanceMethod yX8_node ∈ lw_G := lwG tb_4 (List.mem_of_getElem? (i := 138) rfl) rfl
theorem gw_4_139 : Cond.selects RX8 yX8_node yX8_node ∈ lw_G := lwG tb_4 (List.mem_of_getElem? (i := 139) rfl) rfl
theorem gw_4_140 : Cond.code yX8_node cX8_node 3 (some .int) ∈ lw_G := lwG tb_4 (List.mem_of_getElem? (i := 140) rfl) rfl
theorem gw_4_141 : Cond.methodLink RX8 167 yX8_isNode ∈ lw_G := lwG tb_4 (List.mem_of_getElem? (i := 141) rfl) rfl
theorem gw_4_143 : Cond.instanceMethod yX8_isNode ∈ lw_G := lwG tb_4 (List.mem_of_getElem? (i := 143) rfl) rfl
theorem gw_4_144 : Cond.code yX8_isNode cX8_isNode 2 (some .boolean) ∈ lw_G := lwG tb_4 (List.mem_of_getElem? (i := 144) rfl) rfl
theorem gw_4_145 : Cond.methodLink RX8 183 yX8_symbolOf ∈ lw_G := lwG tb_4 (List.mem_of_getElem? (i := 145) rfl) rfl
theorem gw_4_147 : Cond.instanceMethod yX8_symbolOf ∈ lw_G := lwG tb_4 (List.mem_of_getElem? (i := 147) rfl) rfl
theorem gw_4_148 : Cond.code yX8_symbolOf cX8_symbolOf 2 (some .int) ∈ lw_G := lwG tb_4 (List.mem_of_getElem? (i := 148) rfl) rfl
theorem gw_4_149 : Cond.methodLink RL 57 yX8_own ∈ lw_G := lwG tb_4 (List.mem_of_getElem? (i := 149) rfl) rfl
theorem gw_4_150 : Cond.instanceMethod yX8_own ∈ lw_G := lwG tb_4 (List.mem_of_getElem? (i := 150) rfl) rfl
theorem gw_4_151 : Cond.selects RX8 yX8_own yX8_own ∈ lw_G := lwG tb_4 (List.mem_of_getElem? (i := 151) rfl) rfl
theorem gw_4_152 : Cond.code yX8_own cX8_own 3 (some .boolean) ∈ lw_G := lwG tb_4 (List.mem_of_getElem? (i := 152) rfl) rfl
theorem gw_4_153 : Cond.methodLink RX8 187 yX7_forget ∈ lw_G := lwG tb_4 (List.mem_of_getElem? (i := 153) rfl) rfl
theorem gw_4_154 : Cond.methodLink RL 62 yX8_demand ∈ lw_G := lwG tb_4 (List.mem_of_getElem? (i := 154) rfl) rfl
theorem gw_4_155 : Cond.instanceMethod yX8_demand ∈ lw_G := lwG tb_4 (List.mem_of_getElem? (i := 155) rfl) rfl
theorem gw_4_156 : Cond.selects RX8 yX8_demand yX8_demand ∈ lw_G := lwG tb_4 (List.mem_of_getElem? (i := 156) rfl) rfl
theorem gw_4_157 : Cond.code yX8_demand cX8_demand 3 (some .int) ∈ lw_G := lwG tb_4 (List.mem_of_getElem? (i := 157) rfl) rfl
theorem gw_4_158 : Cond.methodLink RX8 190 yX8_isItem ∈ lw_G := lwG tb_4 (List.mem_of_getElem? (i := 158) rfl) rfl
theorem gw_4_160 : Cond.instanceMethod yX8_isItem ∈ lw_G := lwG tb_4 (List.mem_of_getElem? (i := 160) rfl) rfl
theorem gw_4_161 : Cond.code yX8_isItem cX8_isItem 3 (some .boolean) ∈ lw_G := lwG tb_4 (List.mem_of_getElem? (i := 161) rfl) rfl
theorem gw_4_162 : Cond.methodLink RX8 194 yX7_workOut ∈ lw_G := lwG tb_4 (List.mem_of_getElem? (i := 162) rfl) rfl
theorem gw_4_163 : Cond.instanceMethod yX7_workOut ∈ lw_G := lwG tb_4 (List.mem_of_getElem? (i := 163) rfl) rfl
theorem gw_4_164 : Cond.selects RX7 yX7_workOut yX7_workOut ∈ lw_G := lwG tb_4 (List.mem_of_getElem? (i := 164) rfl) rfl
theorem gw_4_165 : Cond.code yX7_workOut cX7_workOut 4 (some .int) ∈ lw_G := lwG tb_4 (List.mem_of_getElem? (i := 165) rfl) rfl
theorem gw_4_166 : Cond.methodLink RX7 61 yX7_isOpen ∈ lw_G := lwG tb_4 (List.mem_of_getElem? (i := 166) rfl) rfl
theorem gw_4_168 : Cond.instanceMethod yX7_isOpen ∈ lw_G := lwG tb_4 (List.mem_of_getElem? (i := 168) rfl) rfl
theorem gw_4_169 : Cond.code yX7_isOpen cX7_isOpen 2 (some .boolean) ∈ lw_G := lwG tb_4 (List.mem_of_getElem? (i := 169) rfl) rfl
theorem gw_4_170 : Cond.methodLink RX7 65 yX7_enter ∈ lw_G := lwG tb_4 (List.mem_of_getElem? (i := 170) rfl) rfl
theorem gw_4_172 : Cond.instanceMethod yX7_enter ∈ lw_G := lwG tb_4 (List.mem_of_getElem? (i := 172) rfl) rfl
theorem gw_4_173 : Cond.code yX7_enter cX7_enter 9 none ∈ lw_G := lwG tb_4 (List.mem_of_getElem? (i := 173) rfl) rfl
theorem gw_4_174 : Cond.methodLink RX7 88 yX1_symbolAt ∈ lw_G := lwG tb_4 (List.mem_of_getElem? (i := 174) rfl) rfl
theorem gw_4_175 : Cond.methodLink RX7 94 yX1_isInherited ∈ lw_G := lwG tb_4 (List.mem_of_getElem? (i := 175) rfl) rfl
theorem gw_4_176 : Cond.methodLink RX7 69 yX7_nextOpen ∈ lw_G := lwG tb_4 (List.mem_of_getElem? (i := 176) rfl) rfl
theorem gw_4_178 : Cond.instanceMethod yX7_nextOpen ∈ lw_G := lwG tb_4 (List.mem_of_getElem? (i := 178) rfl) rfl
theorem gw_4_179 : Cond.code yX7_nextOpen cX7_nextOpen 5 (some .int) ∈ lw_G := lwG tb_4 (List.mem_of_getElem? (i := 179) rfl) rfl
theorem gw_4_180 : Cond.methodLink RX7 120 yX7_itemAt ∈ lw_G := lwG tb_4 (List.mem_of_getElem? (i := 180) rfl) rfl
theorem gw_4_182 : Cond.instanceMethod yX7_itemAt ∈ lw_G := lwG tb_4 (List.mem_of_getElem? (i := 182) rfl) rfl
theorem gw_4_183 : Cond.code yX7_itemAt cX7_itemAt 3 (some .int) ∈ lw_G := lwG tb_4 (List.mem_of_getElem? (i := 183) rfl) rfl
theorem gw_4_184 : Cond.methodLink RX7 123 yX4_nodeAt ∈ lw_G := lwG tb_4 (List.mem_of_getElem? (i := 184) rfl) rfl
theorem gw_4_185 : Cond.instanceMethod yX4_nodeAt ∈ lw_G := lwG tb_4 (List.mem_of_getElem? (i := 185) rfl) rfl
theorem gw_4_186 : Cond.selects RX4 yX4_nodeAt yX4_nodeAt ∈ lw_G := lwG tb_4 (List.mem_of_getElem? (i := 186) rfl) rfl
theorem gw_4_187 : Cond.code yX4_nodeAt cX4_nodeAt 3 (some .int) ∈ lw_G := lwG tb_4 (List.mem_of_getElem? (i := 187) rfl) rfl
theorem gw_4_188 : Cond.methodLink RX7 73 yX7_leave ∈ lw_G := lwG tb_4 (List.mem_of_getElem? (i := 188) rfl) rfl
theorem gw_4_190 : Cond.instanceMethod yX7_leave ∈ lw_G := lwG tb_4 (List.mem_of_getElem? (i := 190) rfl) rfl
theorem gw_4_191 : Cond.code yX7_leave cX7_leave 2 none ∈ lw_G := lwG tb_4 (List.mem_of_getElem? (i := 191) rfl) rfl
theorem gw_4_192 : Cond.methodLink RX7 107 yX7_evaluate ∈ lw_G := lwG tb_4 (List.mem_of_getElem? (i := 192) rfl) rfl
theorem gw_4_194 : Cond.instanceMethod yX7_evaluate ∈ lw_G := lwG tb_4 (List.mem_of_getElem? (i := 194) rfl) rfl
theorem gw_4_195 : Cond.code yX7_evaluate cX7_evaluate 5 none ∈ lw_G := lwG tb_4 (List.mem_of_getElem? (i := 195) rfl) rfl
theorem gw_4_196 : Cond.methodLink RX7 126 yX7_put ∈ lw_G := lwG tb_4 (List.mem_of_getElem? (i := 196) rfl) rfl
theorem gw_4_198 : Cond.instanceMethod yX7_put ∈ lw_G := lwG tb_4 (List.mem_of_getElem? (i := 198) rfl) rfl
theorem gw_4_199 : Cond.code yX7_put cX7_put 3 none ∈ lw_G := lwG tb_4 (List.mem_of_getElem? (i := 199) rfl) rfl
theorem gw_4_200 : Cond.methodLink RX7 133 yX7_operate ∈ lw_G := lwG tb_4 (List.mem_of_getElem? (i := 200) rfl) rfl
theorem gw_4_202 : Cond.instanceMethod yX7_operate ∈ lw_G := lwG tb_4 (List.mem_of_getElem? (i := 202) rfl) rfl
theorem gw_4_203 : Cond.code yX7_operate cX7_operate 2 none ∈ lw_G := lwG tb_4 (List.mem_of_getElem? (i := 203) rfl) rfl
theorem gw_4_204 : Cond.methodLink RX7 136 yX7_choose ∈ lw_G := lwG tb_4 (List.mem_of_getElem? (i := 204) rfl) rfl
theorem gw_4_206 : Cond.instanceMethod yX7_choose ∈ lw_G := lwG tb_4 (List.mem_of_getElem? (i := 206) rfl) rfl
theorem gw_4_207 : Cond.code yX7_choose cX7_choose 3 none ∈ lw_G := lwG tb_4 (List.mem_of_getElem? (i := 207) rfl) rfl
theorem gw_4_208 : Cond.methodLink RX7 139 yX7_combine ∈ lw_G := lwG tb_4 (List.mem_of_getElem? (i := 208) rfl) rfl
theorem gw_4_210 : Cond.instanceMethod yX7_combine ∈ lw_G := lwG tb_4 (List.mem_of_getElem? (i := 210) rfl) rfl
theorem gw_4_211 : Cond.code yX7_combine cX7_combine 6 none ∈ lw_G := lwG tb_4 (List.mem_of_getElem? (i := 211) rfl) rfl
theorem gw_4_212 : Cond.methodLink RX7 142 yX7_result ∈ lw_G := lwG tb_4 (List.mem_of_getElem? (i := 212) rfl) rfl
theorem gw_4_213 : Cond.static yX7_result ∈ lw_G := lwG tb_4 (List.mem_of_getElem? (i := 213) rfl) rfl
theorem gw_4_214 : Cond.code yX7_result cX7_result 3 (some .int) ∈ lw_G := lwG tb_4 (List.mem_of_getElem? (i := 214) rfl) rfl
theorem gw_4_215 : Cond.methodLink RX7 76 yX7_giveUp ∈ lw_G := lwG tb_4 (List.mem_of_getElem? (i := 215) rfl) rfl
theorem gw_4_217 : Cond.instanceMethod yX7_giveUp ∈ lw_G := lwG tb_4 (List.mem_of_getElem? (i := 217) rfl) rfl
theorem gw_4_218 : Cond.code yX7_giveUp cX7_giveUp 2 none ∈ lw_G := lwG tb_4 (List.mem_of_getElem? (i := 218) rfl) rfl
theorem gw_4_219 : Cond.methodLink RX7 79 yX7_outcome ∈ lw_G := lwG tb_4 (List.mem_of_getElem? (i := 219) rfl) rfl
theorem gw_4_220 : Cond.instanceMethod yX7_outcome ∈ lw_G := lwG tb_4 (List.mem_of_getElem? (i := 220) rfl) rfl
theorem gw_4_221 : Cond.selects RX7 yX7_outcome yX7_outcome ∈ lw_G := lwG tb_4 (List.mem_of_getElem? (i := 221) rfl) rfl
theorem gw_4_222 : Cond.code yX7_outcome cX7_outcome 3 (some .int) ∈ lw_G := lwG tb_4 (List.mem_of_getElem? (i := 222) rfl) rfl
theorem gw_4_223 : Cond.methodLink RL 66 yX8_value ∈ lw_G := lwG tb_4 (List.mem_of_getElem? (i := 223) rfl) rfl
theorem gw_4_224 : Cond.instanceMethod yX8_value ∈ lw_G := lwG tb_4 (List.mem_of_getElem? (i := 224) rfl) rfl
theorem gw_4_225 : Cond.selects RX8 yX8_value yX8_value ∈ lw_G := lwG tb_4 (List.mem_of_getElem? (i := 225) rfl) rfl
theorem gw_4_226 : Cond.code yX8_value cX8_value 5 (some .int) ∈ lw_G := lwG tb_4 (List.mem_of_getElem? (i := 226) rfl) rfl
theorem gw_4_227 : Cond.methodLink RX8 197 yX7_outcome ∈ lw_G := lwG tb_4 (List.mem_of_getElem? (i := 227) rfl) rfl
theorem gw_4_228 : Cond.methodLink RL 71 yX8_order ∈ lw_G := lwG tb_4 (List.mem_of_getElem? (i := 228) rfl) rfl
theorem gw_4_229 : Cond.instanceMethod yX8_order ∈ lw_G := lwG tb_4 (List.mem_of_getElem? (i := 229) rfl) rfl
theorem gw_4_230 : Cond.selects RX8 yX8_order yX8_order ∈ lw_G := lwG tb_4 (List.mem_of_getElem? (i := 230) rfl) rfl
theorem gw_4_231 : Cond.code yX8_order cX8_order 2 (some .int) ∈ lw_G := lwG tb_4 (List.mem_of_getElem? (i := 231) rfl) rfl
theorem gw_4_232 : Cond.methodLink RL 75 yX8_about ∈ lw_G := lwG tb_4 (List.mem_of_getElem? (i := 232) rfl) rfl
theorem gw_4_233 : Cond.instanceMethod yX8_about ∈ lw_G := lwG tb_4 (List.mem_of_getElem? (i := 233) rfl) rfl
theorem gw_4_234 : Cond.selects RX8 yX8_about yX8_about ∈ lw_G := lwG tb_4 (List.mem_of_getElem? (i := 234) rfl) rfl
theorem gw_4_235 : Cond.code yX8_about cX8_about 2 (some .int) ∈ lw_G := lwG tb_4 (List.mem_of_getElem? (i := 235) rfl) rfl
theorem gw_4_236 : Cond.classLink RL 10 RX9 ∈ lw_G := lwG tb_4 (List.mem_of_getElem? (i := 236) rfl) rfl
theorem gw_4_237 : Cond.instantiable RX9 80 ∈ lw_G := lwG tb_4 (List.mem_of_getElem? (i := 237) rfl) rfl
theorem gw_4_238 : Cond.methodLink RL 12 yX9_init ∈ lw_G := lwG tb_4 (List.mem_of_getElem? (i := 238) rfl) rfl
theorem gw_4_239 : Cond.instanceMethod yX9_init ∈ lw_G := lwG tb_4 (List.mem_of_getElem? (i := 239) rfl) rfl
theorem gw_5_0 : Cond.code yX9_init cX9_init 1 none ∈ lw_G := lwG tb_5 (List.mem_of_getElem? (i := 0) rfl) rfl
theorem gw_5_1 : Cond.methodLink RX9 1 objectInit ∈ lw_G := lwG tb_5 (List.mem_of_getElem? (i := 1) rfl) rfl
theorem gw_5_2 : Cond.fieldLink RX9 7 "AttributeDeskModel" "tape" "[B" ∈ lw_G := lwG tb_5 (List.mem_of_getElem? (i := 2) rfl) rfl
theorem gw_5_3 : Cond.fieldLink RX9 173 "AttributeDeskModel" "taped" "I" ∈ lw_G := lwG tb_5 (List.mem_of_getElem? (i := 3) rfl) rfl
theorem gw_5_4 : Cond.fieldLink RX9 13 "AttributeDeskModel" "text" "[B" ∈ lw_G := lwG tb_5 (List.mem_of_getElem? (i := 4) rfl) rfl
theorem gw_5_5 : Cond.fieldLink RX9 200 "AttributeDeskModel" "length" "I" ∈ lw_G := lwG tb_5 (List.mem_of_getElem? (i := 5) rfl) rfl
theorem gw_5_6 : Cond.fieldLink RX9 16 "AttributeDeskModel" "former" "[B" ∈ lw_G := lwG tb_5 (List.mem_of_getElem? (i := 6) rfl) rfl
theorem gw_5_7 : Cond.fieldLink RX9 393 "AttributeDeskModel" "formerLength" "I" ∈ lw_G := lwG tb_5 (List.mem_of_getElem? (i := 7) rfl) rfl
theorem gw_5_8 : Cond.fieldLink RX9 389 "AttributeDeskModel" "hasGrammar" "Z" ∈ lw_G := lwG tb_5 (List.mem_of_getElem? (i := 8) rfl) rfl
theorem gw_5_9 : Cond.fieldLink RX9 197 "AttributeDeskModel" "at" "I" ∈ lw_G := lwG tb_5 (List.mem_of_getElem? (i := 9) rfl) rfl
theorem gw_5_10 : Cond.fieldLink RX9 190 "AttributeDeskModel" "token" "I" ∈ lw_G := lwG tb_5 (List.mem_of_getElem? (i := 10) rfl) rfl
theorem gw_5_11 : Cond.fieldLink RX9 210 "AttributeDeskModel" "sort" "I" ∈ lw_G := lwG tb_5 (List.mem_of_getElem? (i := 11) rfl) rfl
theorem gw_5_12 : Cond.fieldLink RX9 206 "AttributeDeskModel" "told" "J" ∈ lw_G := lwG tb_5 (List.mem_of_getElem? (i := 12) rfl) rfl
theorem gw_5_13 : Cond.fieldLink RX9 184 "AttributeDeskModel" "wrong" "I" ∈ lw_G := lwG tb_5 (List.mem_of_getElem? (i := 13) rfl) rfl
theorem gw_5_14 : Cond.fieldLink RX9 187 "AttributeDeskModel" "wrongAt" "I" ∈ lw_G := lwG tb_5 (List.mem_of_getElem? (i := 14) rfl) rfl
theorem gw_5_15 : Cond.fieldLink RX9 19 "AttributeDeskModel" "fault" "I" ∈ lw_G := lwG tb_5 (List.mem_of_getElem? (i := 15) rfl) rfl
theorem gw_5_16 : Cond.fieldLink RX9 23 "AttributeDeskModel" "faultAt" "I" ∈ lw_G := lwG tb_5 (List.mem_of_getElem? (i := 16) rfl) rfl
theorem gw_5_17 : Cond.fieldLink RX9 308 "AttributeDeskModel" "nest" "I" ∈ lw_G := lwG tb_5 (List.mem_of_getElem? (i := 17) rfl) rfl
theorem gw_5_18 : Cond.fieldLink RX9 248 "AttributeDeskModel" "symbols" "I" ∈ lw_G := lwG tb_5 (List.mem_of_getElem? (i := 18) rfl) rfl
theorem gw_5_19 : Cond.fieldLink RX9 26 "AttributeDeskModel" "symbolName" "[J" ∈ lw_G := lwG tb_5 (List.mem_of_getElem? (i := 19) rfl) rfl
theorem gw_5_20 : Cond.fieldLink RX9 30 "AttributeDeskModel" "attributes" "[I" ∈ lw_G := lwG tb_5 (List.mem_of_getElem? (i := 20) rfl) rfl
theorem gw_5_21 : Cond.fieldLink RX9 34 "AttributeDeskModel" "attributeName" "[J" ∈ lw_G := lwG tb_5 (List.mem_of_getElem? (i := 21) rfl) rfl
theorem gw_5_22 : Cond.fieldLink RX9 37 "AttributeDeskModel" "isInherited" "[Z" ∈ lw_G := lwG tb_5 (List.mem_of_getElem? (i := 22) rfl) rfl
theorem gw_5_23 : Cond.fieldLink RX9 272 "AttributeDeskModel" "rules" "I" ∈ lw_G := lwG tb_5 (List.mem_of_getElem? (i := 23) rfl) rfl
theorem gw_5_24 : Cond.fieldLink RX9 41 "AttributeDeskModel" "ruleName" "[J" ∈ lw_G := lwG tb_5 (List.mem_of_getElem? (i := 24) rfl) rfl
theorem gw_5_25 : Cond.fieldLink RX9 44 "AttributeDeskModel" "children" "[I" ∈ lw_G := lwG tb_5 (List.mem_of_getElem? (i := 25) rfl) rfl
theorem gw_5_26 : Cond.fieldLink RX9 47 "AttributeDeskModel" "ruleSymbol" "[I" ∈ lw_G := lwG tb_5 (List.mem_of_getElem? (i := 26) rfl) rfl
theorem gw_5_27 : Cond.fieldLink RX9 50 "AttributeDeskModel" "equations" "[I" ∈ lw_G := lwG tb_5 (List.mem_of_getElem? (i := 27) rfl) rfl
theorem gw_5_28 : Cond.fieldLink RX9 53 "AttributeDeskModel" "eqFrom" "[I" ∈ lw_G := lwG tb_5 (List.mem_of_getElem? (i := 28) rfl) rfl
theorem gw_5_29 : Cond.fieldLink RX9 56 "AttributeDeskModel" "eqOccs" "[I" ∈ lw_G := lwG tb_5 (List.mem_of_getElem? (i := 29) rfl) rfl
theorem gw_5_30 : Cond.fieldLink RX9 59 "AttributeDeskModel" "eqMany" "[I" ∈ lw_G := lwG tb_5 (List.mem_of_getElem? (i := 30) rfl) rfl
theorem gw_5_31 : Cond.fieldLink RX9 302 "AttributeDeskModel" "orders" "I" ∈ lw_G := lwG tb_5 (List.mem_of_getElem? (i := 31) rfl) rfl
theorem gw_5_32 : Cond.fieldLink RX9 62 "AttributeDeskModel" "order" "[I" ∈ lw_G := lwG tb_5 (List.mem_of_getElem? (i := 32) rfl) rfl
theorem gw_5_33 : Cond.fieldLink RX9 65 "AttributeDeskModel" "orderOf" "[I" ∈ lw_G := lwG tb_5 (List.mem_of_getElem? (i := 33) rfl) rfl
theorem gw_5_34 : Cond.fieldLink RX9 305 "AttributeDeskModel" "occs" "I" ∈ lw_G := lwG tb_5 (List.mem_of_getElem? (i := 34) rfl) rfl
theorem gw_5_35 : Cond.fieldLink RX9 68 "AttributeDeskModel" "occPlace" "[I" ∈ lw_G := lwG tb_5 (List.mem_of_getElem? (i := 35) rfl) rfl
theorem gw_5_36 : Cond.fieldLink RX9 71 "AttributeDeskModel" "occAttribute" "[I" ∈ lw_G := lwG tb_5 (List.mem_of_getElem? (i := 36) rfl) rfl
theorem gw_5_37 : Cond.fieldLink RX9 293 "AttributeDeskModel" "occurK" "I" ∈ lw_G := lwG tb_5 (List.mem_of_getElem? (i := 37) rfl) rfl
theorem gw_5_38 : Cond.fieldLink RX9 296 "AttributeDeskModel" "occurA" "I" ∈ lw_G := lwG tb_5 (List.mem_of_getElem? (i := 38) rfl) rfl
theorem gw_5_39 : Cond.fieldLink RX9 319 "AttributeDeskModel" "frames" "I" ∈ lw_G := lwG tb_5 (List.mem_of_getElem? (i := 39) rfl) rfl
theorem gw_5_40 : Cond.fieldLink RX9 74 "AttributeDeskModel" "frame" "[I" ∈ lw_G := lwG tb_5 (List.mem_of_getElem? (i := 40) rfl) rfl
theorem gw_5_41 : Cond.fieldLink RX9 77 "AttributeDeskModel" "frameOf" "[I" ∈ lw_G := lwG tb_5 (List.mem_of_getElem? (i := 41) rfl) rfl
theorem gw_5_42 : Cond.fieldLink RX9 311 "AttributeDeskModel" "tokens" "I" ∈ lw_G := lwG tb_5 (List.mem_of_getElem? (i := 42) rfl) rfl
theorem gw_5_43 : Cond.fieldLink RX9 328 "AttributeDeskModel" "mode" "I" ∈ lw_G := lwG tb_5 (List.mem_of_getElem? (i := 43) rfl) rfl
theorem gw_5_44 : Cond.fieldLink RX9 396 "AttributeDeskModel" "nodes" "I" ∈ lw_G := lwG tb_5 (List.mem_of_getElem? (i := 44) rfl) rfl
theorem gw_5_45 : Cond.fieldLink RX9 80 "AttributeDeskModel" "nodeRule" "[I" ∈ lw_G := lwG tb_5 (List.mem_of_getElem? (i := 45) rfl) rfl
theorem gw_5_46 : Cond.fieldLink RX9 83 "AttributeDeskModel" "nodeAbove" "[I" ∈ lw_G := lwG tb_5 (List.mem_of_getElem? (i := 46) rfl) rfl
theorem gw_5_47 : Cond.fieldLink RX9 86 "AttributeDeskModel" "nodePlace" "[I" ∈ lw_G := lwG tb_5 (List.mem_of_getElem? (i := 47) rfl) rfl
theorem gw_5_48 : Cond.fieldLink RX9 89 "AttributeDeskModel" "nodeOwn" "[I" ∈ lw_G := lwG tb_5 (List.mem_of_getElem? (i := 48) rfl) rfl
theorem gw_5_49 : Cond.fieldLink RX9 92 "AttributeDeskModel" "nodeChild" "[I" ∈ lw_G := lwG tb_5 (List.mem_of_getElem? (i := 49) rfl) rfl
theorem gw_5_50 : Cond.fieldLink RX9 405 "AttributeDeskModel" "newNodes" "I" ∈ lw_G := lwG tb_5 (List.mem_of_getElem? (i := 50) rfl) rfl
theorem gw_5_51 : Cond.fieldLink RX9 95 "AttributeDeskModel" "newRule" "[I" ∈ lw_G := lwG tb_5 (List.mem_of_getElem? (i := 51) rfl) rfl
theorem gw_5_52 : Cond.fieldLink RX9 98 "AttributeDeskModel" "newAbove" "[I" ∈ lw_G := lwG tb_5 (List.mem_of_getElem? (i := 52) rfl) rfl
theorem gw_5_53 : Cond.fieldLink RX9 101 "AttributeDeskModel" "newPlace" "[I" ∈ lw_G := lwG tb_5 (List.mem_of_getElem? (i := 53) rfl) rfl
theorem gw_5_54 : Cond.fieldLink RX9 104 "AttributeDeskModel" "newOwn" "[I" ∈ lw_G := lwG tb_5 (List.mem_of_getElem? (i := 54) rfl) rfl
theorem gw_5_55 : Cond.fieldLink RX9 107 "AttributeDeskModel" "newMany" "[I" ∈ lw_G := lwG tb_5 (List.mem_of_getElem? (i := 55) rfl) rfl
theorem gw_5_56 : Cond.fieldLink RX9 110 "AttributeDeskModel" "newChild" "[I" ∈ lw_G := lwG tb_5 (List.mem_of_getElem? (i := 56) rfl) rfl
theorem gw_5_57 : Cond.fieldLink RX9 113 "AttributeDeskModel" "canBe" "[Z" ∈ lw_G := lwG tb_5 (List.mem_of_getElem? (i := 57) rfl) rfl
theorem gw_5_58 : Cond.fieldLink RX9 116 "AttributeDeskModel" "canCome" "[Z" ∈ lw_G := lwG tb_5 (List.mem_of_getElem? (i := 58) rfl) rfl
theorem gw_5_59 : Cond.fieldLink RX9 119 "AttributeDeskModel" "isAbove" "[Z" ∈ lw_G := lwG tb_5 (List.mem_of_getElem? (i := 59) rfl) rfl
theorem gw_5_60 : Cond.fieldLink RX9 446 "AttributeDeskModel" "isLarge" "Z" ∈ lw_G := lwG tb_5 (List.mem_of_getElem? (i := 60) rfl) rfl
theorem gw_5_61 : Cond.fieldLink RX9 122 "AttributeDeskModel" "hasGraph" "[Z" ∈ lw_G := lwG tb_5 (List.mem_of_getElem? (i := 61) rfl) rfl
theorem gw_5_62 : Cond.fieldLink RX9 125 "AttributeDeskModel" "graphs" "[I" ∈ lw_G := lwG tb_5 (List.mem_of_getElem? (i := 62) rfl) rfl
theorem gw_5_63 : Cond.fieldLink RX9 128 "AttributeDeskModel" "plain" "[I" ∈ lw_G := lwG tb_5 (List.mem_of_getElem? (i := 63) rfl) rfl
theorem gw_5_64 : Cond.fieldLink RX9 131 "AttributeDeskModel" "isRoundPlain" "[Z" ∈ lw_G := lwG tb_5 (List.mem_of_getElem? (i := 64) rfl) rfl
theorem gw_5_65 : Cond.fieldLink RX9 134 "AttributeDeskModel" "isRound" "[Z" ∈ lw_G := lwG tb_5 (List.mem_of_getElem? (i := 65) rfl) rfl
theorem gw_5_66 : Cond.fieldLink RX9 137 "AttributeDeskModel" "reach" "[I" ∈ lw_G := lwG tb_5 (List.mem_of_getElem? (i := 66) rfl) rfl
theorem gw_5_67 : Cond.fieldLink RX9 140 "AttributeDeskModel" "chosen" "[I" ∈ lw_G := lwG tb_5 (List.mem_of_getElem? (i := 67) rfl) rfl
theorem gw_5_68 : Cond.fieldLink RX9 461 "AttributeDeskModel" "fresh0" "I" ∈ lw_G := lwG tb_5 (List.mem_of_getElem? (i := 68) rfl) rfl
theorem gw_5_69 : Cond.fieldLink RX9 143 "AttributeDeskModel" "fresh" "[I" ∈ lw_G := lwG tb_5 (List.mem_of_getElem? (i := 69) rfl) rfl
theorem gw_5_70 : Cond.fieldLink RX9 399 "AttributeDeskModel" "worked" "I" ∈ lw_G := lwG tb_5 (List.mem_of_getElem? (i := 70) rfl) rfl
theorem gw_5_71 : Cond.fieldLink RX9 146 "AttributeDeskModel" "workedAt" "[I" ∈ lw_G := lwG tb_5 (List.mem_of_getElem? (i := 71) rfl) rfl
theorem gw_5_72 : Cond.fieldLink RX9 149 "AttributeDeskModel" "isWorked" "[Z" ∈ lw_G := lwG tb_5 (List.mem_of_getElem? (i := 72) rfl) rfl
theorem gw_5_73 : Cond.fieldLink RX9 152 "AttributeDeskModel" "isBad" "[Z" ∈ lw_G := lwG tb_5 (List.mem_of_getElem? (i := 73) rfl) rfl
theorem gw_5_74 : Cond.fieldLink RX9 155 "AttributeDeskModel" "number" "[I" ∈ lw_G := lwG tb_5 (List.mem_of_getElem? (i := 74) rfl) rfl
theorem gw_5_75 : Cond.fieldLink RX9 158 "AttributeDeskModel" "isWaiting" "[Z" ∈ lw_G := lwG tb_5 (List.mem_of_getElem? (i := 75) rfl) rfl
theorem gw_5_76 : Cond.fieldLink RX9 477 "AttributeDeskModel" "waits" "I" ∈ lw_G := lwG tb_5 (List.mem_of_getElem? (i := 76) rfl) rfl
theorem gw_5_77 : Cond.fieldLink RX9 161 "AttributeDeskModel" "waitsFor" "[I" ∈ lw_G := lwG tb_5 (List.mem_of_getElem? (i := 77) rfl) rfl
theorem gw_5_78 : Cond.fieldLink RX9 164 "AttributeDeskModel" "waitsAt" "[I" ∈ lw_G := lwG tb_5 (List.mem_of_getElem? (i := 78) rfl) rfl
theorem gw_5_79 : Cond.fieldLink RX9 492 "AttributeDeskModel" "top" "I" ∈ lw_G := lwG tb_5 (List.mem_of_getElem? (i := 79) rfl) rfl
theorem gw_5_80 : Cond.fieldLink RX9 167 "AttributeDeskModel" "stack" "[I" ∈ lw_G := lwG tb_5 (List.mem_of_getElem? (i := 80) rfl) rfl
theorem gw_5_81 : Cond.fieldLink RX9 170 "AttributeDeskModel" "stackBad" "[Z" ∈ lw_G := lwG tb_5 (List.mem_of_getElem? (i := 81) rfl) rfl
theorem gw_5_82 : Cond.laysFinal RX9 "AttributeDeskModel" "tape" "[B" ∈ lw_G := lwG tb_5 (List.mem_of_getElem? (i := 82) rfl) rfl
theorem gw_5_84 : Cond.lays RX9 "AttributeDeskModel" "taped" "I" ∈ lw_G := lwG tb_5 (List.mem_of_getElem? (i := 84) rfl) rfl
theorem gw_5_86 : Cond.laysFinal RX9 "AttributeDeskModel" "text" "[B" ∈ lw_G := lwG tb_5 (List.mem_of_getElem? (i := 86) rfl) rfl
theorem gw_5_88 : Cond.lays RX9 "AttributeDeskModel" "length" "I" ∈ lw_G := lwG tb_5 (List.mem_of_getElem? (i := 88) rfl) rfl
theorem gw_5_90 : Cond.laysFinal RX9 "AttributeDeskModel" "former" "[B" ∈ lw_G := lwG tb_5 (List.mem_of_getElem? (i := 90) rfl) rfl
theorem gw_5_92 : Cond.lays RX9 "AttributeDeskModel" "formerLength" "I" ∈ lw_G := lwG tb_5 (List.mem_of_getElem? (i := 92) rfl) rfl
theorem gw_5_94 : Cond.lays RX9 "AttributeDeskModel" "hasGrammar" "Z" ∈ lw_G := lwG tb_5 (List.mem_of_getElem? (i := 94) rfl) rfl
theorem gw_5_96 : Cond.lays RX9 "AttributeDeskModel" "at" "I" ∈ lw_G := lwG tb_5 (List.mem_of_getElem? (i := 96) rfl) rfl
theorem gw_5_98 : Cond.lays RX9 "AttributeDeskModel" "token" "I" ∈ lw_G := lwG tb_5 (List.mem_of_getElem? (i := 98) rfl) rfl
theorem gw_5_100 : Cond.lays RX9 "AttributeDeskModel" "sort" "I" ∈ lw_G := lwG tb_5 (List.mem_of_getElem? (i := 100) rfl) rfl
theorem gw_5_102 : Cond.lays RX9 "AttributeDeskModel" "told" "J" ∈ lw_G := lwG tb_5 (List.mem_of_getElem? (i := 102) rfl) rfl
theorem gw_5_104 : Cond.lays RX9 "AttributeDeskModel" "wrong" "I" ∈ lw_G := lwG tb_5 (List.mem_of_getElem? (i := 104) rfl) rfl
theorem gw_5_106 : Cond.lays RX9 "AttributeDeskModel" "wrongAt" "I" ∈ lw_G := lwG tb_5 (List.mem_of_getElem? (i := 106) rfl) rfl
theorem gw_5_108 : Cond.lays RX9 "AttributeDeskModel" "fault" "I" ∈ lw_G := lwG tb_5 (List.mem_of_getElem? (i := 108) rfl) rfl
theorem gw_5_110 : Cond.lays RX9 "AttributeDeskModel" "faultAt" "I" ∈ lw_G := lwG tb_5 (List.mem_of_getElem? (i := 110) rfl) rfl
theorem gw_5_112 : Cond.lays RX9 "AttributeDeskModel" "nest" "I" ∈ lw_G := lwG tb_5 (List.mem_of_getElem? (i := 112) rfl) rfl
theorem gw_5_114 : Cond.lays RX9 "AttributeDeskModel" "symbols" "I" ∈ lw_G := lwG tb_5 (List.mem_of_getElem? (i := 114) rfl) rfl
theorem gw_5_116 : Cond.laysFinal RX9 "AttributeDeskModel" "symbolName" "[J" ∈ lw_G := lwG tb_5 (List.mem_of_getElem? (i := 116) rfl) rfl
theorem gw_5_118 : Cond.laysFinal RX9 "AttributeDeskModel" "attributes" "[I" ∈ lw_G := lwG tb_5 (List.mem_of_getElem? (i := 118) rfl) rfl
theorem gw_5_120 : Cond.laysFinal RX9 "AttributeDeskModel" "attributeName" "[J" ∈ lw_G := lwG tb_5 (List.mem_of_getElem? (i := 120) rfl) rfl
theorem gw_5_122 : Cond.laysFinal RX9 "AttributeDeskModel" "isInherited" "[Z" ∈ lw_G := lwG tb_5 (List.mem_of_getElem? (i := 122) rfl) rfl
theorem gw_5_124 : Cond.lays RX9 "AttributeDeskModel" "rules" "I" ∈ lw_G := lwG tb_5 (List.mem_of_getElem? (i := 124) rfl) rfl
theorem gw_5_126 : Cond.laysFinal RX9 "AttributeDeskModel" "ruleName" "[J" ∈ lw_G := lwG tb_5 (List.mem_of_getElem? (i := 126) rfl) rfl
theorem gw_5_128 : Cond.laysFinal RX9 "AttributeDeskModel" "children" "[I" ∈ lw_G := lwG tb_5 (List.mem_of_getElem? (i := 128) rfl) rfl
theorem gw_5_130 : Cond.laysFinal RX9 "AttributeDeskModel" "ruleSymbol" "[I" ∈ lw_G := lwG tb_5 (List.mem_of_getElem? (i := 130) rfl) rfl
theorem gw_5_132 : Cond.laysFinal RX9 "AttributeDeskModel" "equations" "[I" ∈ lw_G := lwG tb_5 (List.mem_of_getElem? (i := 132) rfl) rfl
theorem gw_5_134 : Cond.laysFinal RX9 "AttributeDeskModel" "eqFrom" "[I" ∈ lw_G := lwG tb_5 (List.mem_of_getElem? (i := 134) rfl) rfl
theorem gw_5_136 : Cond.laysFinal RX9 "AttributeDeskModel" "eqOccs" "[I" ∈ lw_G := lwG tb_5 (List.mem_of_getElem? (i := 136) rfl) rfl
theorem gw_5_138 : Cond.laysFinal RX9 "AttributeDeskModel" "eqMany" "[I" ∈ lw_G := lwG tb_5 (List.mem_of_getElem? (i := 138) rfl) rfl
theorem gw_5_140 : Cond.lays RX9 "AttributeDeskModel" "orders" "I" ∈ lw_G := lwG tb_5 (List.mem_of_getElem? (i := 140) rfl) rfl
theorem gw_5_142 : Cond.laysFinal RX9 "AttributeDeskModel" "order" "[I" ∈ lw_G := lwG tb_5 (List.mem_of_getElem? (i := 142) rfl) rfl
theorem gw_5_144 : Cond.laysFinal RX9 "AttributeDeskModel" "orderOf" "[I" ∈ lw_G := lwG tb_5 (List.mem_of_getElem? (i := 144) rfl) rfl
theorem gw_5_146 : Cond.lays RX9 "AttributeDeskModel" "occs" "I" ∈ lw_G := lwG tb_5 (List.mem_of_getElem? (i := 146) rfl) rfl
theorem gw_5_148 : Cond.laysFinal RX9 "AttributeDeskModel" "occPlace" "[I" ∈ lw_G := lwG tb_5 (List.mem_of_getElem? (i := 148) rfl) rfl
theorem gw_5_150 : Cond.laysFinal RX9 "AttributeDeskModel" "occAttribute" "[I" ∈ lw_G := lwG tb_5 (List.mem_of_getElem? (i := 150) rfl) rfl
theorem gw_5_152 : Cond.lays RX9 "AttributeDeskModel" "occurK" "I" ∈ lw_G := lwG tb_5 (List.mem_of_getElem? (i := 152) rfl) rfl
theorem gw_5_154 : Cond.lays RX9 "AttributeDeskModel" "occurA" "I" ∈ lw_G := lwG tb_5 (List.mem_of_getElem? (i := 154) rfl) rfl
theorem gw_5_156 : Cond.lays RX9 "AttributeDeskModel" "frames" "I" ∈ lw_G := lwG tb_5 (List.mem_of_getElem? (i := 156) rfl) rfl
theorem gw_5_158 : Cond.laysFinal RX9 "AttributeDeskModel" "frame" "[I" ∈ lw_G := lwG tb_5 (List.mem_of_getElem? (i := 158) rfl) rfl
theorem gw_5_160 : Cond.laysFinal RX9 "AttributeDeskModel" "frameOf" "[I" ∈ lw_G := lwG tb_5 (List.mem_of_getElem? (i := 160) rfl) rfl
theorem gw_5_162 : Cond.lays RX9 "AttributeDeskModel" "tokens" "I" ∈ lw_G := lwG tb_5 (List.mem_of_getElem? (i := 162) rfl) rfl
theorem gw_5_164 : Cond.lays RX9 "AttributeDeskModel" "mode" "I" ∈ lw_G := lwG tb_5 (List.mem_of_getElem? (i := 164) rfl) rfl
theorem gw_5_166 : Cond.lays RX9 "AttributeDeskModel" "nodes" "I" ∈ lw_G := lwG tb_5 (List.mem_of_getElem? (i := 166) rfl) rfl
theorem gw_5_168 : Cond.laysFinal RX9 "AttributeDeskModel" "nodeRule" "[I" ∈ lw_G := lwG tb_5 (List.mem_of_getElem? (i := 168) rfl) rfl
theorem gw_5_170 : Cond.laysFinal RX9 "AttributeDeskModel" "nodeAbove" "[I" ∈ lw_G := lwG tb_5 (List.mem_of_getElem? (i := 170) rfl) rfl
theorem gw_5_172 : Cond.laysFinal RX9 "AttributeDeskModel" "nodePlace" "[I" ∈ lw_G := lwG tb_5 (List.mem_of_getElem? (i := 172) rfl) rfl
theorem gw_5_174 : Cond.laysFinal RX9 "AttributeDeskModel" "nodeOwn" "[I" ∈ lw_G := lwG tb_5 (List.mem_of_getElem? (i := 174) rfl) rfl
theorem gw_5_176 : Cond.laysFinal RX9 "AttributeDeskModel" "nodeChild" "[I" ∈ lw_G := lwG tb_5 (List.mem_of_getElem? (i := 176) rfl) rfl
theorem gw_5_178 : Cond.lays RX9 "AttributeDeskModel" "newNodes" "I" ∈ lw_G := lwG tb_5 (List.mem_of_getElem? (i := 178) rfl) rfl
theorem gw_5_180 : Cond.laysFinal RX9 "AttributeDeskModel" "newRule" "[I" ∈ lw_G := lwG tb_5 (List.mem_of_getElem? (i := 180) rfl) rfl
theorem gw_5_182 : Cond.laysFinal RX9 "AttributeDeskModel" "newAbove" "[I" ∈ lw_G := lwG tb_5 (List.mem_of_getElem? (i := 182) rfl) rfl
theorem gw_5_184 : Cond.laysFinal RX9 "AttributeDeskModel" "newPlace" "[I" ∈ lw_G := lwG tb_5 (List.mem_of_getElem? (i := 184) rfl) rfl
theorem gw_5_186 : Cond.laysFinal RX9 "AttributeDeskModel" "newOwn" "[I" ∈ lw_G := lwG tb_5 (List.mem_of_getElem? (i := 186) rfl) rfl
theorem gw_5_188 : Cond.laysFinal RX9 "AttributeDeskModel" "newMany" "[I" ∈ lw_G := lwG tb_5 (List.mem_of_getElem? (i := 188) rfl) rfl
theorem gw_5_190 : Cond.laysFinal RX9 "AttributeDeskModel" "newChild" "[I" ∈ lw_G := lwG tb_5 (List.mem_of_getElem? (i := 190) rfl) rfl
theorem gw_5_192 : Cond.laysFinal RX9 "AttributeDeskModel" "canBe" "[Z" ∈ lw_G := lwG tb_5 (List.mem_of_getElem? (i := 192) rfl) rfl
theorem gw_5_194 : Cond.laysFinal RX9 "AttributeDeskModel" "canCome" "[Z" ∈ lw_G := lwG tb_5 (List.mem_of_getElem? (i := 194) rfl) rfl
theorem gw_5_196 : Cond.laysFinal RX9 "AttributeDeskModel" "isAbove" "[Z" ∈ lw_G := lwG tb_5 (List.mem_of_getElem? (i := 196) rfl) rfl
theorem gw_5_198 : Cond.lays RX9 "AttributeDeskModel" "isLarge" "Z" ∈ lw_G := lwG tb_5 (List.mem_of_getElem? (i := 198) rfl) rfl
theorem gw_5_200 : Cond.laysFinal RX9 "AttributeDeskModel" "hasGraph" "[Z" ∈ lw_G := lwG tb_5 (List.mem_of_getElem? (i := 200) rfl) rfl
theorem gw_5_202 : Cond.laysFinal RX9 "AttributeDeskModel" "graphs" "[I" ∈ lw_G := lwG tb_5 (List.mem_of_getElem? (i := 202) rfl) rfl
theorem gw_5_204 : Cond.laysFinal RX9 "AttributeDeskModel" "plain" "[I" ∈ lw_G := lwG tb_5 (List.mem_of_getElem? (i := 204) rfl) rfl
theorem gw_5_206 : Cond.laysFinal RX9 "AttributeDeskModel" "isRoundPlain" "[Z" ∈ lw_G := lwG tb_5 (List.mem_of_getElem? (i := 206) rfl) rfl
theorem gw_5_208 : Cond.laysFinal RX9 "AttributeDeskModel" "isRound" "[Z" ∈ lw_G := lwG tb_5 (List.mem_of_getElem? (i := 208) rfl) rfl
theorem gw_5_210 : Cond.laysFinal RX9 "AttributeDeskModel" "reach" "[I" ∈ lw_G := lwG tb_5 (List.mem_of_getElem? (i := 210) rfl) rfl
theorem gw_5_212 : Cond.laysFinal RX9 "AttributeDeskModel" "chosen" "[I" ∈ lw_G := lwG tb_5 (List.mem_of_getElem? (i := 212) rfl) rfl
theorem gw_5_214 : Cond.lays RX9 "AttributeDeskModel" "fresh0" "I" ∈ lw_G := lwG tb_5 (List.mem_of_getElem? (i := 214) rfl) rfl
theorem gw_5_216 : Cond.laysFinal RX9 "AttributeDeskModel" "fresh" "[I" ∈ lw_G := lwG tb_5 (List.mem_of_getElem? (i := 216) rfl) rfl
theorem gw_5_218 : Cond.lays RX9 "AttributeDeskModel" "worked" "I" ∈ lw_G := lwG tb_5 (List.mem_of_getElem? (i := 218) rfl) rfl
theorem gw_5_220 : Cond.laysFinal RX9 "AttributeDeskModel" "workedAt" "[I" ∈ lw_G := lwG tb_5 (List.mem_of_getElem? (i := 220) rfl) rfl
theorem gw_5_222 : Cond.laysFinal RX9 "AttributeDeskModel" "isWorked" "[Z" ∈ lw_G := lwG tb_5 (List.mem_of_getElem? (i := 222) rfl) rfl
theorem gw_5_224 : Cond.laysFinal RX9 "AttributeDeskModel" "isBad" "[Z" ∈ lw_G := lwG tb_5 (List.mem_of_getElem? (i := 224) rfl) rfl
theorem gw_5_226 : Cond.laysFinal RX9 "AttributeDeskModel" "number" "[I" ∈ lw_G := lwG tb_5 (List.mem_of_getElem? (i := 226) rfl) rfl
theorem gw_5_228 : Cond.laysFinal RX9 "AttributeDeskModel" "isWaiting" "[Z" ∈ lw_G := lwG tb_5 (List.mem_of_getElem? (i := 228) rfl) rfl
theorem gw_5_230 : Cond.lays RX9 "AttributeDeskModel" "waits" "I" ∈ lw_G := lwG tb_5 (List.mem_of_getElem? (i := 230) rfl) rfl
theorem gw_5_232 : Cond.laysFinal RX9 "AttributeDeskModel" "waitsFor" "[I" ∈ lw_G := lwG tb_5 (List.mem_of_getElem? (i := 232) rfl) rfl
theorem gw_5_234 : Cond.laysFinal RX9 "AttributeDeskModel" "waitsAt" "[I" ∈ lw_G := lwG tb_5 (List.mem_of_getElem? (i := 234) rfl) rfl
theorem gw_5_236 : Cond.lays RX9 "AttributeDeskModel" "top" "I" ∈ lw_G := lwG tb_5 (List.mem_of_getElem? (i := 236) rfl) rfl
theorem gw_5_238 : Cond.laysFinal RX9 "AttributeDeskModel" "stack" "[I" ∈ lw_G := lwG tb_5 (List.mem_of_getElem? (i := 238) rfl) rfl
theorem gw_6_0 : Cond.laysFinal RX9 "AttributeDeskModel" "stackBad" "[Z" ∈ lw_G := lwG tb_6 (List.mem_of_getElem? (i := 0) rfl) rfl
theorem gw_6_3 : Cond.methodLink RL 17 yX9_feed ∈ lw_G := lwG tb_6 (List.mem_of_getElem? (i := 3) rfl) rfl
theorem gw_6_4 : Cond.instanceMethod yX9_feed ∈ lw_G := lwG tb_6 (List.mem_of_getElem? (i := 4) rfl) rfl
theorem gw_6_5 : Cond.selects RX9 yX9_feed yX9_feed ∈ lw_G := lwG tb_6 (List.mem_of_getElem? (i := 5) rfl) rfl
theorem gw_6_6 : Cond.code yX9_feed cX9_feed 6 (some .int) ∈ lw_G := lwG tb_6 (List.mem_of_getElem? (i := 6) rfl) rfl
theorem gw_6_7 : Cond.methodLink RX9 176 yX9_put ∈ lw_G := lwG tb_6 (List.mem_of_getElem? (i := 7) rfl) rfl
theorem gw_6_9 : Cond.instanceMethod yX9_put ∈ lw_G := lwG tb_6 (List.mem_of_getElem? (i := 9) rfl) rfl
theorem gw_6_10 : Cond.code yX9_put cX9_put 2 none ∈ lw_G := lwG tb_6 (List.mem_of_getElem? (i := 10) rfl) rfl
theorem gw_6_11 : Cond.methodLink RL 22 yX9_end ∈ lw_G := lwG tb_6 (List.mem_of_getElem? (i := 11) rfl) rfl
theorem gw_6_12 : Cond.instanceMethod yX9_end ∈ lw_G := lwG tb_6 (List.mem_of_getElem? (i := 12) rfl) rfl
theorem gw_6_13 : Cond.selects RX9 yX9_end yX9_end ∈ lw_G := lwG tb_6 (List.mem_of_getElem? (i := 13) rfl) rfl
theorem gw_6_14 : Cond.code yX9_end cX9_end 2 (some .int) ∈ lw_G := lwG tb_6 (List.mem_of_getElem? (i := 14) rfl) rfl
theorem gw_6_15 : Cond.methodLink RX9 180 yX9_in ∈ lw_G := lwG tb_6 (List.mem_of_getElem? (i := 15) rfl) rfl
theorem gw_6_16 : Cond.static yX9_in ∈ lw_G := lwG tb_6 (List.mem_of_getElem? (i := 16) rfl) rfl
theorem gw_6_17 : Cond.code yX9_in cX9_in 3 (some .boolean) ∈ lw_G := lwG tb_6 (List.mem_of_getElem? (i := 17) rfl) rfl
theorem gw_6_18 : Cond.methodLink RL 27 yX9_grammar ∈ lw_G := lwG tb_6 (List.mem_of_getElem? (i := 18) rfl) rfl
theorem gw_6_19 : Cond.instanceMethod yX9_grammar ∈ lw_G := lwG tb_6 (List.mem_of_getElem? (i := 19) rfl) rfl
theorem gw_6_20 : Cond.selects RX9 yX9_grammar yX9_grammar ∈ lw_G := lwG tb_6 (List.mem_of_getElem? (i := 20) rfl) rfl
theorem gw_6_21 : Cond.code yX9_grammar cX9_grammar 2 (some .int) ∈ lw_G := lwG tb_6 (List.mem_of_getElem? (i := 21) rfl) rfl
theorem gw_6_22 : Cond.methodLink RX9 383 yX9_takesTape ∈ lw_G := lwG tb_6 (List.mem_of_getElem? (i := 22) rfl) rfl
theorem gw_6_24 : Cond.instanceMethod yX9_takesTape ∈ lw_G := lwG tb_6 (List.mem_of_getElem? (i := 24) rfl) rfl
theorem gw_6_25 : Cond.code yX9_takesTape cX9_takesTape 2 none ∈ lw_G := lwG tb_6 (List.mem_of_getElem? (i := 25) rfl) rfl
theorem gw_6_26 : Cond.methodLink RX9 386 yX9_reads ∈ lw_G := lwG tb_6 (List.mem_of_getElem? (i := 26) rfl) rfl
theorem gw_6_28 : Cond.instanceMethod yX9_reads ∈ lw_G := lwG tb_6 (List.mem_of_getElem? (i := 28) rfl) rfl
theorem gw_6_29 : Cond.code yX9_reads cX9_reads 3 none ∈ lw_G := lwG tb_6 (List.mem_of_getElem? (i := 29) rfl) rfl
theorem gw_6_30 : Cond.methodLink RX9 242 yX9_next ∈ lw_G := lwG tb_6 (List.mem_of_getElem? (i := 30) rfl) rfl
theorem gw_6_32 : Cond.instanceMethod yX9_next ∈ lw_G := lwG tb_6 (List.mem_of_getElem? (i := 32) rfl) rfl
theorem gw_6_33 : Cond.code yX9_next cX9_next 2 none ∈ lw_G := lwG tb_6 (List.mem_of_getElem? (i := 33) rfl) rfl
theorem gw_6_34 : Cond.methodLink RX9 203 yX9_blanks ∈ lw_G := lwG tb_6 (List.mem_of_getElem? (i := 34) rfl) rfl
theorem gw_6_36 : Cond.instanceMethod yX9_blanks ∈ lw_G := lwG tb_6 (List.mem_of_getElem? (i := 36) rfl) rfl
theorem gw_6_37 : Cond.code yX9_blanks cX9_blanks 1 none ∈ lw_G := lwG tb_6 (List.mem_of_getElem? (i := 37) rfl) rfl
theorem gw_6_38 : Cond.methodLink RX9 213 yX9_letterOf ∈ lw_G := lwG tb_6 (List.mem_of_getElem? (i := 38) rfl) rfl
theorem gw_6_39 : Cond.static yX9_letterOf ∈ lw_G := lwG tb_6 (List.mem_of_getElem? (i := 39) rfl) rfl
theorem gw_6_40 : Cond.code yX9_letterOf cX9_letterOf 1 (some .int) ∈ lw_G := lwG tb_6 (List.mem_of_getElem? (i := 40) rfl) rfl
theorem gw_6_41 : Cond.methodLink RX9 217 yX9_name ∈ lw_G := lwG tb_6 (List.mem_of_getElem? (i := 41) rfl) rfl
theorem gw_6_43 : Cond.instanceMethod yX9_name ∈ lw_G := lwG tb_6 (List.mem_of_getElem? (i := 43) rfl) rfl
theorem gw_6_44 : Cond.code yX9_name cX9_name 3 none ∈ lw_G := lwG tb_6 (List.mem_of_getElem? (i := 44) rfl) rfl
theorem gw_6_45 : Cond.constantLong RX9 229 (64) ∈ lw_G := lwG tb_6 (List.mem_of_getElem? (i := 45) rfl) rfl
theorem gw_6_46 : Cond.methodLink RX9 231 yX9_wordOf ∈ lw_G := lwG tb_6 (List.mem_of_getElem? (i := 46) rfl) rfl
theorem gw_6_47 : Cond.static yX9_wordOf ∈ lw_G := lwG tb_6 (List.mem_of_getElem? (i := 47) rfl) rfl
theorem gw_6_48 : Cond.code yX9_wordOf cX9_wordOf 1 (some .int) ∈ lw_G := lwG tb_6 (List.mem_of_getElem? (i := 48) rfl) rfl
theorem gw_6_49 : Cond.constantLong RX9 220 (2147483647) ∈ lw_G := lwG tb_6 (List.mem_of_getElem? (i := 49) rfl) rfl
theorem gw_6_50 : Cond.constantLong RX9 222 (10) ∈ lw_G := lwG tb_6 (List.mem_of_getElem? (i := 50) rfl) rfl
theorem gw_6_51 : Cond.constantLong RX9 224 (48) ∈ lw_G := lwG tb_6 (List.mem_of_getElem? (i := 51) rfl) rfl
theorem gw_6_52 : Cond.methodLink RX9 226 yX9_sign ∈ lw_G := lwG tb_6 (List.mem_of_getElem? (i := 52) rfl) rfl
theorem gw_6_54 : Cond.instanceMethod yX9_sign ∈ lw_G := lwG tb_6 (List.mem_of_getElem? (i := 54) rfl) rfl
theorem gw_6_55 : Cond.code yX9_sign cX9_sign 2 none ∈ lw_G := lwG tb_6 (List.mem_of_getElem? (i := 55) rfl) rfl
theorem gw_6_56 : Cond.methodLink RX9 258 yX9_isWord ∈ lw_G := lwG tb_6 (List.mem_of_getElem? (i := 56) rfl) rfl
theorem gw_6_58 : Cond.instanceMethod yX9_isWord ∈ lw_G := lwG tb_6 (List.mem_of_getElem? (i := 58) rfl) rfl
theorem gw_6_59 : Cond.code yX9_isWord cX9_isWord 2 (some .boolean) ∈ lw_G := lwG tb_6 (List.mem_of_getElem? (i := 59) rfl) rfl
theorem gw_6_60 : Cond.methodLink RX9 234 yX9_isWell ∈ lw_G := lwG tb_6 (List.mem_of_getElem? (i := 60) rfl) rfl
theorem gw_6_62 : Cond.instanceMethod yX9_isWell ∈ lw_G := lwG tb_6 (List.mem_of_getElem? (i := 62) rfl) rfl
theorem gw_6_63 : Cond.code yX9_isWell cX9_isWell 1 (some .boolean) ∈ lw_G := lwG tb_6 (List.mem_of_getElem? (i := 63) rfl) rfl
theorem gw_6_64 : Cond.methodLink RX9 245 yX9_stray ∈ lw_G := lwG tb_6 (List.mem_of_getElem? (i := 64) rfl) rfl
theorem gw_6_66 : Cond.instanceMethod yX9_stray ∈ lw_G := lwG tb_6 (List.mem_of_getElem? (i := 66) rfl) rfl
theorem gw_6_67 : Cond.code yX9_stray cX9_stray 1 none ∈ lw_G := lwG tb_6 (List.mem_of_getElem? (i := 67) rfl) rfl
theorem gw_6_68 : Cond.methodLink RX9 193 yX9_fails ∈ lw_G := lwG tb_6 (List.mem_of_getElem? (i := 68) rfl) rfl
theorem gw_6_70 : Cond.instanceMethod yX9_fails ∈ lw_G := lwG tb_6 (List.mem_of_getElem? (i := 70) rfl) rfl
theorem gw_6_71 : Cond.code yX9_fails cX9_fails 3 none ∈ lw_G := lwG tb_6 (List.mem_of_getElem? (i := 71) rfl) rfl
theorem gw_6_72 : Cond.methodLink RX9 377 yX9_symbol ∈ lw_G := lwG tb_6 (List.mem_of_getElem? (i := 72) rfl) rfl
theorem gw_6_74 : Cond.instanceMethod yX9_symbol ∈ lw_G := lwG tb_6 (List.mem_of_getElem? (i := 74) rfl) rfl
theorem gw_6_75 : Cond.code yX9_symbol cX9_symbol 3 none ∈ lw_G := lwG tb_6 (List.mem_of_getElem? (i := 75) rfl) rfl
theorem gw_6_76 : Cond.methodLink RX9 251 yX9_isName ∈ lw_G := lwG tb_6 (List.mem_of_getElem? (i := 76) rfl) rfl
theorem gw_6_78 : Cond.instanceMethod yX9_isName ∈ lw_G := lwG tb_6 (List.mem_of_getElem? (i := 78) rfl) rfl
theorem gw_6_79 : Cond.code yX9_isName cX9_isName 1 (some .boolean) ∈ lw_G := lwG tb_6 (List.mem_of_getElem? (i := 79) rfl) rfl
theorem gw_6_80 : Cond.methodLink RX9 254 yX9_symbolOf ∈ lw_G := lwG tb_6 (List.mem_of_getElem? (i := 80) rfl) rfl
theorem gw_6_82 : Cond.instanceMethod yX9_symbolOf ∈ lw_G := lwG tb_6 (List.mem_of_getElem? (i := 82) rfl) rfl
theorem gw_6_83 : Cond.code yX9_symbolOf cX9_symbolOf 5 (some .int) ∈ lw_G := lwG tb_6 (List.mem_of_getElem? (i := 83) rfl) rfl
theorem gw_6_84 : Cond.methodLink RX9 261 yX9_attribute ∈ lw_G := lwG tb_6 (List.mem_of_getElem? (i := 84) rfl) rfl
theorem gw_6_86 : Cond.instanceMethod yX9_attribute ∈ lw_G := lwG tb_6 (List.mem_of_getElem? (i := 86) rfl) rfl
theorem gw_6_87 : Cond.code yX9_attribute cX9_attribute 3 none ∈ lw_G := lwG tb_6 (List.mem_of_getElem? (i := 87) rfl) rfl
theorem gw_6_88 : Cond.methodLink RX9 268 yX9_attributeOf ∈ lw_G := lwG tb_6 (List.mem_of_getElem? (i := 88) rfl) rfl
theorem gw_6_90 : Cond.instanceMethod yX9_attributeOf ∈ lw_G := lwG tb_6 (List.mem_of_getElem? (i := 90) rfl) rfl
theorem gw_6_91 : Cond.code yX9_attributeOf cX9_attributeOf 6 (some .int) ∈ lw_G := lwG tb_6 (List.mem_of_getElem? (i := 91) rfl) rfl
theorem gw_6_92 : Cond.methodLink RX9 265 yX9_takes ∈ lw_G := lwG tb_6 (List.mem_of_getElem? (i := 92) rfl) rfl
theorem gw_6_94 : Cond.instanceMethod yX9_takes ∈ lw_G := lwG tb_6 (List.mem_of_getElem? (i := 94) rfl) rfl
theorem gw_6_95 : Cond.code yX9_takes cX9_takes 2 none ∈ lw_G := lwG tb_6 (List.mem_of_getElem? (i := 95) rfl) rfl
theorem gw_6_96 : Cond.methodLink RX9 238 yX9_isSign ∈ lw_G := lwG tb_6 (List.mem_of_getElem? (i := 96) rfl) rfl
theorem gw_6_98 : Cond.instanceMethod yX9_isSign ∈ lw_G := lwG tb_6 (List.mem_of_getElem? (i := 98) rfl) rfl
theorem gw_6_99 : Cond.code yX9_isSign cX9_isSign 2 (some .boolean) ∈ lw_G := lwG tb_6 (List.mem_of_getElem? (i := 99) rfl) rfl
theorem gw_6_100 : Cond.methodLink RX9 380 yX9_rule ∈ lw_G := lwG tb_6 (List.mem_of_getElem? (i := 100) rfl) rfl
theorem gw_6_102 : Cond.instanceMethod yX9_rule ∈ lw_G := lwG tb_6 (List.mem_of_getElem? (i := 102) rfl) rfl
theorem gw_6_103 : Cond.code yX9_rule cX9_rule 3 none ∈ lw_G := lwG tb_6 (List.mem_of_getElem? (i := 103) rfl) rfl
theorem gw_6_104 : Cond.methodLink RX9 275 yX9_ruleOf ∈ lw_G := lwG tb_6 (List.mem_of_getElem? (i := 104) rfl) rfl
theorem gw_6_106 : Cond.instanceMethod yX9_ruleOf ∈ lw_G := lwG tb_6 (List.mem_of_getElem? (i := 106) rfl) rfl
theorem gw_6_107 : Cond.code yX9_ruleOf cX9_ruleOf 6 (some .int) ∈ lw_G := lwG tb_6 (List.mem_of_getElem? (i := 107) rfl) rfl
theorem gw_6_108 : Cond.methodLink RX9 279 yX9_place ∈ lw_G := lwG tb_6 (List.mem_of_getElem? (i := 108) rfl) rfl
theorem gw_6_110 : Cond.instanceMethod yX9_place ∈ lw_G := lwG tb_6 (List.mem_of_getElem? (i := 110) rfl) rfl
theorem gw_6_111 : Cond.code yX9_place cX9_place 4 none ∈ lw_G := lwG tb_6 (List.mem_of_getElem? (i := 111) rfl) rfl
theorem gw_6_112 : Cond.methodLink RX9 282 yX9_equation ∈ lw_G := lwG tb_6 (List.mem_of_getElem? (i := 112) rfl) rfl
theorem gw_6_114 : Cond.instanceMethod yX9_equation ∈ lw_G := lwG tb_6 (List.mem_of_getElem? (i := 114) rfl) rfl
theorem gw_6_115 : Cond.code yX9_equation cX9_equation 5 none ∈ lw_G := lwG tb_6 (List.mem_of_getElem? (i := 115) rfl) rfl
theorem gw_6_116 : Cond.methodLink RX9 299 yX9_occurs ∈ lw_G := lwG tb_6 (List.mem_of_getElem? (i := 116) rfl) rfl
theorem gw_6_118 : Cond.instanceMethod yX9_occurs ∈ lw_G := lwG tb_6 (List.mem_of_getElem? (i := 118) rfl) rfl
theorem gw_6_119 : Cond.code yX9_occurs cX9_occurs 2 none ∈ lw_G := lwG tb_6 (List.mem_of_getElem? (i := 119) rfl) rfl
theorem gw_6_120 : Cond.constantLong RX9 291 (3) ∈ lw_G := lwG tb_6 (List.mem_of_getElem? (i := 120) rfl) rfl
theorem gw_6_121 : Cond.methodLink RX9 288 yX9_isTold ∈ lw_G := lwG tb_6 (List.mem_of_getElem? (i := 121) rfl) rfl
theorem gw_6_123 : Cond.instanceMethod yX9_isTold ∈ lw_G := lwG tb_6 (List.mem_of_getElem? (i := 123) rfl) rfl
theorem gw_6_124 : Cond.code yX9_isTold cX9_isTold 4 (some .boolean) ∈ lw_G := lwG tb_6 (List.mem_of_getElem? (i := 124) rfl) rfl
theorem gw_6_125 : Cond.methodLink RX9 314 yX9_expression ∈ lw_G := lwG tb_6 (List.mem_of_getElem? (i := 125) rfl) rfl
theorem gw_6_127 : Cond.instanceMethod yX9_expression ∈ lw_G := lwG tb_6 (List.mem_of_getElem? (i := 127) rfl) rfl
theorem gw_6_128 : Cond.code yX9_expression cX9_expression 2 none ∈ lw_G := lwG tb_6 (List.mem_of_getElem? (i := 128) rfl) rfl
theorem gw_6_129 : Cond.methodLink RX9 325 yX9_enter ∈ lw_G := lwG tb_6 (List.mem_of_getElem? (i := 129) rfl) rfl
theorem gw_6_131 : Cond.instanceMethod yX9_enter ∈ lw_G := lwG tb_6 (List.mem_of_getElem? (i := 131) rfl) rfl
theorem gw_6_132 : Cond.code yX9_enter cX9_enter 3 none ∈ lw_G := lwG tb_6 (List.mem_of_getElem? (i := 132) rfl) rfl
theorem gw_6_133 : Cond.methodLink RX9 331 yX9_nests ∈ lw_G := lwG tb_6 (List.mem_of_getElem? (i := 133) rfl) rfl
theorem gw_6_135 : Cond.instanceMethod yX9_nests ∈ lw_G := lwG tb_6 (List.mem_of_getElem? (i := 135) rfl) rfl
theorem gw_6_136 : Cond.code yX9_nests cX9_nests 1 none ∈ lw_G := lwG tb_6 (List.mem_of_getElem? (i := 136) rfl) rfl
theorem gw_6_137 : Cond.methodLink RX9 334 yX9_passes ∈ lw_G := lwG tb_6 (List.mem_of_getElem? (i := 137) rfl) rfl
theorem gw_6_139 : Cond.instanceMethod yX9_passes ∈ lw_G := lwG tb_6 (List.mem_of_getElem? (i := 139) rfl) rfl
theorem gw_6_140 : Cond.code yX9_passes cX9_passes 1 none ∈ lw_G := lwG tb_6 (List.mem_of_getElem? (i := 140) rfl) rfl
theorem gw_6_141 : Cond.methodLink RX9 322 yX9_counts ∈ lw_G := lwG tb_6 (List.mem_of_getElem? (i := 141) rfl) rfl
theorem gw_6_143 : Cond.instanceMethod yX9_counts ∈ lw_G := lwG tb_6 (List.mem_of_getElem? (i := 143) rfl) rfl
theorem gw_6_144 : Cond.code yX9_counts cX9_counts 1 none ∈ lw_G := lwG tb_6 (List.mem_of_getElem? (i := 144) rfl) rfl
theorem gw_6_145 : Cond.methodLink RX9 337 yX9_part ∈ lw_G := lwG tb_6 (List.mem_of_getElem? (i := 145) rfl) rfl
theorem gw_6_147 : Cond.instanceMethod yX9_part ∈ lw_G := lwG tb_6 (List.mem_of_getElem? (i := 147) rfl) rfl
theorem gw_6_148 : Cond.code yX9_part cX9_part 2 none ∈ lw_G := lwG tb_6 (List.mem_of_getElem? (i := 148) rfl) rfl
theorem gw_6_149 : Cond.methodLink RX9 317 yX9_order ∈ lw_G := lwG tb_6 (List.mem_of_getElem? (i := 149) rfl) rfl
theorem gw_6_151 : Cond.instanceMethod yX9_order ∈ lw_G := lwG tb_6 (List.mem_of_getElem? (i := 151) rfl) rfl
theorem gw_6_152 : Cond.code yX9_order cX9_order 3 none ∈ lw_G := lwG tb_6 (List.mem_of_getElem? (i := 152) rfl) rfl
theorem gw_6_153 : Cond.methodLink RX9 346 yX9_isAhead ∈ lw_G := lwG tb_6 (List.mem_of_getElem? (i := 153) rfl) rfl
theorem gw_6_155 : Cond.instanceMethod yX9_isAhead ∈ lw_G := lwG tb_6 (List.mem_of_getElem? (i := 155) rfl) rfl
theorem gw_6_156 : Cond.code yX9_isAhead cX9_isAhead 2 (some .boolean) ∈ lw_G := lwG tb_6 (List.mem_of_getElem? (i := 156) rfl) rfl
theorem gw_6_157 : Cond.methodLink RX9 349 yX9_occ ∈ lw_G := lwG tb_6 (List.mem_of_getElem? (i := 157) rfl) rfl
theorem gw_6_159 : Cond.instanceMethod yX9_occ ∈ lw_G := lwG tb_6 (List.mem_of_getElem? (i := 159) rfl) rfl
theorem gw_6_160 : Cond.code yX9_occ cX9_occ 4 none ∈ lw_G := lwG tb_6 (List.mem_of_getElem? (i := 160) rfl) rfl
theorem gw_6_161 : Cond.methodLink RX9 352 yX9_number ∈ lw_G := lwG tb_6 (List.mem_of_getElem? (i := 161) rfl) rfl
theorem gw_6_163 : Cond.instanceMethod yX9_number ∈ lw_G := lwG tb_6 (List.mem_of_getElem? (i := 163) rfl) rfl
theorem gw_6_164 : Cond.code yX9_number cX9_number 1 none ∈ lw_G := lwG tb_6 (List.mem_of_getElem? (i := 164) rfl) rfl
theorem gw_6_165 : Cond.methodLink RX9 340 yX9_signs ∈ lw_G := lwG tb_6 (List.mem_of_getElem? (i := 165) rfl) rfl
theorem gw_6_167 : Cond.instanceMethod yX9_signs ∈ lw_G := lwG tb_6 (List.mem_of_getElem? (i := 167) rfl) rfl
theorem gw_6_168 : Cond.code yX9_signs cX9_signs 2 none ∈ lw_G := lwG tb_6 (List.mem_of_getElem? (i := 168) rfl) rfl
theorem gw_6_169 : Cond.methodLink RX9 368 yX9_levelOf ∈ lw_G := lwG tb_6 (List.mem_of_getElem? (i := 169) rfl) rfl
theorem gw_6_170 : Cond.static yX9_levelOf ∈ lw_G := lwG tb_6 (List.mem_of_getElem? (i := 170) rfl) rfl
theorem gw_6_171 : Cond.code yX9_levelOf cX9_levelOf 2 (some .int) ∈ lw_G := lwG tb_6 (List.mem_of_getElem? (i := 171) rfl) rfl
theorem gw_6_172 : Cond.constantLong RX9 354 (42) ∈ lw_G := lwG tb_6 (List.mem_of_getElem? (i := 172) rfl) rfl
theorem gw_6_173 : Cond.constantLong RX9 356 (47) ∈ lw_G := lwG tb_6 (List.mem_of_getElem? (i := 173) rfl) rfl
theorem gw_6_174 : Cond.constantLong RX9 358 (37) ∈ lw_G := lwG tb_6 (List.mem_of_getElem? (i := 174) rfl) rfl
theorem gw_6_175 : Cond.constantLong RX9 360 (43) ∈ lw_G := lwG tb_6 (List.mem_of_getElem? (i := 175) rfl) rfl
theorem gw_6_176 : Cond.constantLong RX9 362 (45) ∈ lw_G := lwG tb_6 (List.mem_of_getElem? (i := 176) rfl) rfl
theorem gw_6_177 : Cond.constantLong RX9 364 (60) ∈ lw_G := lwG tb_6 (List.mem_of_getElem? (i := 177) rfl) rfl
theorem gw_6_178 : Cond.constantLong RX9 366 (61) ∈ lw_G := lwG tb_6 (List.mem_of_getElem? (i := 178) rfl) rfl
theorem gw_6_179 : Cond.methodLink RX9 371 yX9_second ∈ lw_G := lwG tb_6 (List.mem_of_getElem? (i := 179) rfl) rfl
theorem gw_6_181 : Cond.instanceMethod yX9_second ∈ lw_G := lwG tb_6 (List.mem_of_getElem? (i := 181) rfl) rfl
theorem gw_6_182 : Cond.code yX9_second cX9_second 2 none ∈ lw_G := lwG tb_6 (List.mem_of_getElem? (i := 182) rfl) rfl
theorem gw_6_183 : Cond.methodLink RX9 343 yX9_ends ∈ lw_G := lwG tb_6 (List.mem_of_getElem? (i := 183) rfl) rfl
theorem gw_6_185 : Cond.instanceMethod yX9_ends ∈ lw_G := lwG tb_6 (List.mem_of_getElem? (i := 185) rfl) rfl
theorem gw_6_186 : Cond.code yX9_ends cX9_ends 2 none ∈ lw_G := lwG tb_6 (List.mem_of_getElem? (i := 186) rfl) rfl
theorem gw_6_187 : Cond.methodLink RX9 374 yX9_word ∈ lw_G := lwG tb_6 (List.mem_of_getElem? (i := 187) rfl) rfl
theorem gw_6_189 : Cond.instanceMethod yX9_word ∈ lw_G := lwG tb_6 (List.mem_of_getElem? (i := 189) rfl) rfl
theorem gw_6_190 : Cond.code yX9_word cX9_word 2 none ∈ lw_G := lwG tb_6 (List.mem_of_getElem? (i := 190) rfl) rfl
theorem gw_6_191 : Cond.methodLink RX9 285 yX9_lacks ∈ lw_G := lwG tb_6 (List.mem_of_getElem? (i := 191) rfl) rfl
theorem gw_6_193 : Cond.instanceMethod yX9_lacks ∈ lw_G := lwG tb_6 (List.mem_of_getElem? (i := 193) rfl) rfl
theorem gw_6_194 : Cond.code yX9_lacks cX9_lacks 4 none ∈ lw_G := lwG tb_6 (List.mem_of_getElem? (i := 194) rfl) rfl
theorem gw_6_195 : Cond.methodLink RX9 402 yX9_tests ∈ lw_G := lwG tb_6 (List.mem_of_getElem? (i := 195) rfl) rfl
theorem gw_6_197 : Cond.instanceMethod yX9_tests ∈ lw_G := lwG tb_6 (List.mem_of_getElem? (i := 197) rfl) rfl
theorem gw_6_198 : Cond.code yX9_tests cX9_tests 1 none ∈ lw_G := lwG tb_6 (List.mem_of_getElem? (i := 198) rfl) rfl
theorem gw_6_199 : Cond.methodLink RX9 425 yX9_comes ∈ lw_G := lwG tb_6 (List.mem_of_getElem? (i := 199) rfl) rfl
theorem gw_6_201 : Cond.instanceMethod yX9_comes ∈ lw_G := lwG tb_6 (List.mem_of_getElem? (i := 201) rfl) rfl
theorem gw_6_202 : Cond.code yX9_comes cX9_comes 4 none ∈ lw_G := lwG tb_6 (List.mem_of_getElem? (i := 202) rfl) rfl
theorem gw_6_203 : Cond.methodLink RX9 434 yX9_allCan ∈ lw_G := lwG tb_6 (List.mem_of_getElem? (i := 203) rfl) rfl
theorem gw_6_205 : Cond.instanceMethod yX9_allCan ∈ lw_G := lwG tb_6 (List.mem_of_getElem? (i := 205) rfl) rfl
theorem gw_6_206 : Cond.code yX9_allCan cX9_allCan 4 (some .boolean) ∈ lw_G := lwG tb_6 (List.mem_of_getElem? (i := 206) rfl) rfl
theorem gw_6_207 : Cond.methodLink RX9 428 yX9_plains ∈ lw_G := lwG tb_6 (List.mem_of_getElem? (i := 207) rfl) rfl
theorem gw_6_209 : Cond.instanceMethod yX9_plains ∈ lw_G := lwG tb_6 (List.mem_of_getElem? (i := 209) rfl) rfl
theorem gw_6_210 : Cond.code yX9_plains cX9_plains 5 none ∈ lw_G := lwG tb_6 (List.mem_of_getElem? (i := 210) rfl) rfl
theorem gw_6_211 : Cond.methodLink RX9 437 yX9_ways ∈ lw_G := lwG tb_6 (List.mem_of_getElem? (i := 211) rfl) rfl
theorem gw_6_213 : Cond.instanceMethod yX9_ways ∈ lw_G := lwG tb_6 (List.mem_of_getElem? (i := 213) rfl) rfl
theorem gw_6_214 : Cond.code yX9_ways cX9_ways 6 none ∈ lw_G := lwG tb_6 (List.mem_of_getElem? (i := 214) rfl) rfl
theorem gw_6_215 : Cond.methodLink RX9 422 yX9_bitOf ∈ lw_G := lwG tb_6 (List.mem_of_getElem? (i := 215) rfl) rfl
theorem gw_6_217 : Cond.instanceMethod yX9_bitOf ∈ lw_G := lwG tb_6 (List.mem_of_getElem? (i := 217) rfl) rfl
theorem gw_6_218 : Cond.code yX9_bitOf cX9_bitOf 4 (some .int) ∈ lw_G := lwG tb_6 (List.mem_of_getElem? (i := 218) rfl) rfl
theorem gw_6_219 : Cond.methodLink RX9 415 yX9_rankOf ∈ lw_G := lwG tb_6 (List.mem_of_getElem? (i := 219) rfl) rfl
theorem gw_6_221 : Cond.instanceMethod yX9_rankOf ∈ lw_G := lwG tb_6 (List.mem_of_getElem? (i := 221) rfl) rfl
theorem gw_6_222 : Cond.code yX9_rankOf cX9_rankOf 5 (some .int) ∈ lw_G := lwG tb_6 (List.mem_of_getElem? (i := 222) rfl) rfl
theorem gw_6_223 : Cond.methodLink RX9 419 yX9_inheritedOf ∈ lw_G := lwG tb_6 (List.mem_of_getElem? (i := 223) rfl) rfl
theorem gw_6_225 : Cond.instanceMethod yX9_inheritedOf ∈ lw_G := lwG tb_6 (List.mem_of_getElem? (i := 225) rfl) rfl
theorem gw_6_226 : Cond.code yX9_inheritedOf cX9_inheritedOf 4 (some .int) ∈ lw_G := lwG tb_6 (List.mem_of_getElem? (i := 226) rfl) rfl
theorem gw_6_227 : Cond.methodLink RX9 440 yX9_goesRound ∈ lw_G := lwG tb_6 (List.mem_of_getElem? (i := 227) rfl) rfl
theorem gw_6_229 : Cond.instanceMethod yX9_goesRound ∈ lw_G := lwG tb_6 (List.mem_of_getElem? (i := 229) rfl) rfl
theorem gw_6_230 : Cond.code yX9_goesRound cX9_goesRound 3 (some .boolean) ∈ lw_G := lwG tb_6 (List.mem_of_getElem? (i := 230) rfl) rfl
theorem gw_6_231 : Cond.methodLink RX9 443 yX9_headGraph ∈ lw_G := lwG tb_6 (List.mem_of_getElem? (i := 231) rfl) rfl
theorem gw_6_233 : Cond.instanceMethod yX9_headGraph ∈ lw_G := lwG tb_6 (List.mem_of_getElem? (i := 233) rfl) rfl
theorem gw_6_234 : Cond.code yX9_headGraph cX9_headGraph 6 (some .int) ∈ lw_G := lwG tb_6 (List.mem_of_getElem? (i := 234) rfl) rfl
theorem gw_6_235 : Cond.methodLink RX9 431 yX9_exact ∈ lw_G := lwG tb_6 (List.mem_of_getElem? (i := 235) rfl) rfl
theorem gw_6_237 : Cond.instanceMethod yX9_exact ∈ lw_G := lwG tb_6 (List.mem_of_getElem? (i := 237) rfl) rfl
theorem gw_6_238 : Cond.code yX9_exact cX9_exact 3 none ∈ lw_G := lwG tb_6 (List.mem_of_getElem? (i := 238) rfl) rfl
theorem gw_6_239 : Cond.methodLink RX9 449 yX9_chooses ∈ lw_G := lwG tb_6 (List.mem_of_getElem? (i := 239) rfl) rfl
theorem gw_7_1 : Cond.instanceMethod yX9_chooses ∈ lw_G := lwG tb_7 (List.mem_of_getElem? (i := 1) rfl) rfl
theorem gw_7_2 : Cond.code yX9_chooses cX9_chooses 10 (some .boolean) ∈ lw_G := lwG tb_7 (List.mem_of_getElem? (i := 2) rfl) rfl
theorem gw_7_3 : Cond.methodLink RX9 452 yX9_waysOf ∈ lw_G := lwG tb_7 (List.mem_of_getElem? (i := 3) rfl) rfl
theorem gw_7_5 : Cond.instanceMethod yX9_waysOf ∈ lw_G := lwG tb_7 (List.mem_of_getElem? (i := 5) rfl) rfl
theorem gw_7_6 : Cond.code yX9_waysOf cX9_waysOf 5 (some .long) ∈ lw_G := lwG tb_7 (List.mem_of_getElem? (i := 6) rfl) rfl
theorem gw_7_7 : Cond.constantLong RX9 456 (2000) ∈ lw_G := lwG tb_7 (List.mem_of_getElem? (i := 7) rfl) rfl
theorem gw_7_8 : Cond.methodLink RX9 458 yX9_graphAt ∈ lw_G := lwG tb_7 (List.mem_of_getElem? (i := 8) rfl) rfl
theorem gw_7_10 : Cond.instanceMethod yX9_graphAt ∈ lw_G := lwG tb_7 (List.mem_of_getElem? (i := 10) rfl) rfl
theorem gw_7_11 : Cond.code yX9_graphAt cX9_graphAt 5 (some .int) ∈ lw_G := lwG tb_7 (List.mem_of_getElem? (i := 11) rfl) rfl
theorem gw_7_12 : Cond.methodLink RX9 464 yX9_marks ∈ lw_G := lwG tb_7 (List.mem_of_getElem? (i := 12) rfl) rfl
theorem gw_7_14 : Cond.instanceMethod yX9_marks ∈ lw_G := lwG tb_7 (List.mem_of_getElem? (i := 14) rfl) rfl
theorem gw_7_15 : Cond.code yX9_marks cX9_marks 4 none ∈ lw_G := lwG tb_7 (List.mem_of_getElem? (i := 15) rfl) rfl
theorem gw_7_16 : Cond.methodLink RX9 467 yX9_settles ∈ lw_G := lwG tb_7 (List.mem_of_getElem? (i := 16) rfl) rfl
theorem gw_7_18 : Cond.instanceMethod yX9_settles ∈ lw_G := lwG tb_7 (List.mem_of_getElem? (i := 18) rfl) rfl
theorem gw_7_19 : Cond.code yX9_settles cX9_settles 2 none ∈ lw_G := lwG tb_7 (List.mem_of_getElem? (i := 19) rfl) rfl
theorem gw_7_20 : Cond.methodLink RL 35 yX9_fault ∈ lw_G := lwG tb_7 (List.mem_of_getElem? (i := 20) rfl) rfl
theorem gw_7_21 : Cond.instanceMethod yX9_fault ∈ lw_G := lwG tb_7 (List.mem_of_getElem? (i := 21) rfl) rfl
theorem gw_7_22 : Cond.selects RX9 yX9_fault yX9_fault ∈ lw_G := lwG tb_7 (List.mem_of_getElem? (i := 22) rfl) rfl
theorem gw_7_23 : Cond.code yX9_fault cX9_fault 2 (some .int) ∈ lw_G := lwG tb_7 (List.mem_of_getElem? (i := 23) rfl) rfl
theorem gw_7_24 : Cond.methodLink RL 31 yX9_tree ∈ lw_G := lwG tb_7 (List.mem_of_getElem? (i := 24) rfl) rfl
theorem gw_7_25 : Cond.instanceMethod yX9_tree ∈ lw_G := lwG tb_7 (List.mem_of_getElem? (i := 25) rfl) rfl
theorem gw_7_26 : Cond.selects RX9 yX9_tree yX9_tree ∈ lw_G := lwG tb_7 (List.mem_of_getElem? (i := 26) rfl) rfl
theorem gw_7_27 : Cond.code yX9_tree cX9_tree 5 (some .int) ∈ lw_G := lwG tb_7 (List.mem_of_getElem? (i := 27) rfl) rfl
theorem gw_7_28 : Cond.methodLink RX9 408 yX9_begins ∈ lw_G := lwG tb_7 (List.mem_of_getElem? (i := 28) rfl) rfl
theorem gw_7_30 : Cond.instanceMethod yX9_begins ∈ lw_G := lwG tb_7 (List.mem_of_getElem? (i := 30) rfl) rfl
theorem gw_7_31 : Cond.code yX9_begins cX9_begins 6 (some .int) ∈ lw_G := lwG tb_7 (List.mem_of_getElem? (i := 31) rfl) rfl
theorem gw_7_32 : Cond.methodLink RX9 412 yX9_forgets ∈ lw_G := lwG tb_7 (List.mem_of_getElem? (i := 32) rfl) rfl
theorem gw_7_34 : Cond.instanceMethod yX9_forgets ∈ lw_G := lwG tb_7 (List.mem_of_getElem? (i := 34) rfl) rfl
theorem gw_7_35 : Cond.code yX9_forgets cX9_forgets 2 none ∈ lw_G := lwG tb_7 (List.mem_of_getElem? (i := 35) rfl) rfl
theorem gw_7_36 : Cond.methodLink RL 40 yX9_symbol_ ∈ lw_G := lwG tb_7 (List.mem_of_getElem? (i := 36) rfl) rfl
theorem gw_7_37 : Cond.instanceMethod yX9_symbol_ ∈ lw_G := lwG tb_7 (List.mem_of_getElem? (i := 37) rfl) rfl
theorem gw_7_38 : Cond.selects RX9 yX9_symbol_ yX9_symbol_ ∈ lw_G := lwG tb_7 (List.mem_of_getElem? (i := 38) rfl) rfl
theorem gw_7_39 : Cond.code yX9_symbol_ cX9_symbol_ 3 (some .int) ∈ lw_G := lwG tb_7 (List.mem_of_getElem? (i := 39) rfl) rfl
theorem gw_7_40 : Cond.methodLink RL 44 yX9_graph ∈ lw_G := lwG tb_7 (List.mem_of_getElem? (i := 40) rfl) rfl
theorem gw_7_41 : Cond.instanceMethod yX9_graph ∈ lw_G := lwG tb_7 (List.mem_of_getElem? (i := 41) rfl) rfl
theorem gw_7_42 : Cond.selects RX9 yX9_graph yX9_graph ∈ lw_G := lwG tb_7 (List.mem_of_getElem? (i := 42) rfl) rfl
theorem gw_7_43 : Cond.code yX9_graph cX9_graph 3 (some .int) ∈ lw_G := lwG tb_7 (List.mem_of_getElem? (i := 43) rfl) rfl
theorem gw_7_44 : Cond.methodLink RL 48 yX9_rule_ ∈ lw_G := lwG tb_7 (List.mem_of_getElem? (i := 44) rfl) rfl
theorem gw_7_45 : Cond.instanceMethod yX9_rule_ ∈ lw_G := lwG tb_7 (List.mem_of_getElem? (i := 45) rfl) rfl
theorem gw_7_46 : Cond.selects RX9 yX9_rule_ yX9_rule_ ∈ lw_G := lwG tb_7 (List.mem_of_getElem? (i := 46) rfl) rfl
theorem gw_7_47 : Cond.code yX9_rule_ cX9_rule_ 3 (some .int) ∈ lw_G := lwG tb_7 (List.mem_of_getElem? (i := 47) rfl) rfl
theorem gw_7_48 : Cond.methodLink RL 52 yX9_test ∈ lw_G := lwG tb_7 (List.mem_of_getElem? (i := 48) rfl) rfl
theorem gw_7_49 : Cond.instanceMethod yX9_test ∈ lw_G := lwG tb_7 (List.mem_of_getElem? (i := 49) rfl) rfl
theorem gw_7_50 : Cond.selects RX9 yX9_test yX9_test ∈ lw_G := lwG tb_7 (List.mem_of_getElem? (i := 50) rfl) rfl
theorem gw_7_51 : Cond.code yX9_test cX9_test 4 (some .int) ∈ lw_G := lwG tb_7 (List.mem_of_getElem? (i := 51) rfl) rfl
theorem gw_7_52 : Cond.methodLink RL 56 yX9_node ∈ lw_G := lwG tb_7 (List.mem_of_getElem? (i := 52) rfl) rfl
theorem gw_7_53 : Cond.instanceMethod yX9_node ∈ lw_G := lwG tb_7 (List.mem_of_getElem? (i := 53) rfl) rfl
theorem gw_7_54 : Cond.selects RX9 yX9_node yX9_node ∈ lw_G := lwG tb_7 (List.mem_of_getElem? (i := 54) rfl) rfl
theorem gw_7_55 : Cond.code yX9_node cX9_node 3 (some .int) ∈ lw_G := lwG tb_7 (List.mem_of_getElem? (i := 55) rfl) rfl
theorem gw_7_56 : Cond.methodLink RL 61 yX9_own ∈ lw_G := lwG tb_7 (List.mem_of_getElem? (i := 56) rfl) rfl
theorem gw_7_57 : Cond.instanceMethod yX9_own ∈ lw_G := lwG tb_7 (List.mem_of_getElem? (i := 57) rfl) rfl
theorem gw_7_58 : Cond.selects RX9 yX9_own yX9_own ∈ lw_G := lwG tb_7 (List.mem_of_getElem? (i := 58) rfl) rfl
theorem gw_7_59 : Cond.code yX9_own cX9_own 3 (some .boolean) ∈ lw_G := lwG tb_7 (List.mem_of_getElem? (i := 59) rfl) rfl
theorem gw_7_60 : Cond.methodLink RL 65 yX9_demand ∈ lw_G := lwG tb_7 (List.mem_of_getElem? (i := 60) rfl) rfl
theorem gw_7_61 : Cond.instanceMethod yX9_demand ∈ lw_G := lwG tb_7 (List.mem_of_getElem? (i := 61) rfl) rfl
theorem gw_7_62 : Cond.selects RX9 yX9_demand yX9_demand ∈ lw_G := lwG tb_7 (List.mem_of_getElem? (i := 62) rfl) rfl
theorem gw_7_63 : Cond.code yX9_demand cX9_demand 7 (some .int) ∈ lw_G := lwG tb_7 (List.mem_of_getElem? (i := 63) rfl) rfl
theorem gw_7_64 : Cond.methodLink RX9 473 yX9_isAttribute ∈ lw_G := lwG tb_7 (List.mem_of_getElem? (i := 64) rfl) rfl
theorem gw_7_66 : Cond.instanceMethod yX9_isAttribute ∈ lw_G := lwG tb_7 (List.mem_of_getElem? (i := 66) rfl) rfl
theorem gw_7_67 : Cond.code yX9_isAttribute cX9_isAttribute 3 (some .boolean) ∈ lw_G := lwG tb_7 (List.mem_of_getElem? (i := 67) rfl) rfl
theorem gw_7_68 : Cond.methodLink RX9 480 yX9_waitsOn ∈ lw_G := lwG tb_7 (List.mem_of_getElem? (i := 68) rfl) rfl
theorem gw_7_70 : Cond.instanceMethod yX9_waitsOn ∈ lw_G := lwG tb_7 (List.mem_of_getElem? (i := 70) rfl) rfl
theorem gw_7_71 : Cond.code yX9_waitsOn cX9_waitsOn 2 none ∈ lw_G := lwG tb_7 (List.mem_of_getElem? (i := 71) rfl) rfl
theorem gw_7_72 : Cond.methodLink RX9 483 yX9_equationOf ∈ lw_G := lwG tb_7 (List.mem_of_getElem? (i := 72) rfl) rfl
theorem gw_7_74 : Cond.instanceMethod yX9_equationOf ∈ lw_G := lwG tb_7 (List.mem_of_getElem? (i := 74) rfl) rfl
theorem gw_7_75 : Cond.code yX9_equationOf cX9_equationOf 3 (some .int) ∈ lw_G := lwG tb_7 (List.mem_of_getElem? (i := 75) rfl) rfl
theorem gw_7_76 : Cond.methodLink RX9 470 yX9_tellerOf ∈ lw_G := lwG tb_7 (List.mem_of_getElem? (i := 76) rfl) rfl
theorem gw_7_78 : Cond.instanceMethod yX9_tellerOf ∈ lw_G := lwG tb_7 (List.mem_of_getElem? (i := 78) rfl) rfl
theorem gw_7_79 : Cond.code yX9_tellerOf cX9_tellerOf 3 (some .int) ∈ lw_G := lwG tb_7 (List.mem_of_getElem? (i := 79) rfl) rfl
theorem gw_7_80 : Cond.methodLink RX9 486 yX9_works ∈ lw_G := lwG tb_7 (List.mem_of_getElem? (i := 80) rfl) rfl
theorem gw_7_82 : Cond.instanceMethod yX9_works ∈ lw_G := lwG tb_7 (List.mem_of_getElem? (i := 82) rfl) rfl
theorem gw_7_83 : Cond.code yX9_works cX9_works 4 none ∈ lw_G := lwG tb_7 (List.mem_of_getElem? (i := 83) rfl) rfl
theorem gw_7_84 : Cond.methodLink RX9 495 yX9_does ∈ lw_G := lwG tb_7 (List.mem_of_getElem? (i := 84) rfl) rfl
theorem gw_7_86 : Cond.instanceMethod yX9_does ∈ lw_G := lwG tb_7 (List.mem_of_getElem? (i := 86) rfl) rfl
theorem gw_7_87 : Cond.code yX9_does cX9_does 5 (some .int) ∈ lw_G := lwG tb_7 (List.mem_of_getElem? (i := 87) rfl) rfl
theorem gw_7_88 : Cond.methodLink RX9 498 yX9_value ∈ lw_G := lwG tb_7 (List.mem_of_getElem? (i := 88) rfl) rfl
theorem gw_7_90 : Cond.instanceMethod yX9_value ∈ lw_G := lwG tb_7 (List.mem_of_getElem? (i := 90) rfl) rfl
theorem gw_7_91 : Cond.code yX9_value cX9_value 3 none ∈ lw_G := lwG tb_7 (List.mem_of_getElem? (i := 91) rfl) rfl
theorem gw_7_92 : Cond.methodLink RX9 489 yX9_namedBy ∈ lw_G := lwG tb_7 (List.mem_of_getElem? (i := 92) rfl) rfl
theorem gw_7_94 : Cond.instanceMethod yX9_namedBy ∈ lw_G := lwG tb_7 (List.mem_of_getElem? (i := 94) rfl) rfl
theorem gw_7_95 : Cond.code yX9_namedBy cX9_namedBy 3 (some .int) ∈ lw_G := lwG tb_7 (List.mem_of_getElem? (i := 95) rfl) rfl
theorem gw_7_96 : Cond.methodLink RX9 501 yX9_signed ∈ lw_G := lwG tb_7 (List.mem_of_getElem? (i := 96) rfl) rfl
theorem gw_7_98 : Cond.instanceMethod yX9_signed ∈ lw_G := lwG tb_7 (List.mem_of_getElem? (i := 98) rfl) rfl
theorem gw_7_99 : Cond.code yX9_signed cX9_signed 5 none ∈ lw_G := lwG tb_7 (List.mem_of_getElem? (i := 99) rfl) rfl
theorem gw_7_100 : Cond.methodLink RL 70 yX9_value_ ∈ lw_G := lwG tb_7 (List.mem_of_getElem? (i := 100) rfl) rfl
theorem gw_7_101 : Cond.instanceMethod yX9_value_ ∈ lw_G := lwG tb_7 (List.mem_of_getElem? (i := 101) rfl) rfl
theorem gw_7_102 : Cond.selects RX9 yX9_value_ yX9_value_ ∈ lw_G := lwG tb_7 (List.mem_of_getElem? (i := 102) rfl) rfl
theorem gw_7_103 : Cond.code yX9_value_ cX9_value_ 5 (some .int) ∈ lw_G := lwG tb_7 (List.mem_of_getElem? (i := 103) rfl) rfl
theorem gw_7_104 : Cond.methodLink RL 74 yX9_order_ ∈ lw_G := lwG tb_7 (List.mem_of_getElem? (i := 104) rfl) rfl
theorem gw_7_105 : Cond.instanceMethod yX9_order_ ∈ lw_G := lwG tb_7 (List.mem_of_getElem? (i := 105) rfl) rfl
theorem gw_7_106 : Cond.selects RX9 yX9_order_ yX9_order_ ∈ lw_G := lwG tb_7 (List.mem_of_getElem? (i := 106) rfl) rfl
theorem gw_7_107 : Cond.code yX9_order_ cX9_order_ 2 (some .int) ∈ lw_G := lwG tb_7 (List.mem_of_getElem? (i := 107) rfl) rfl
theorem gw_7_108 : Cond.methodLink RL 78 yX9_about ∈ lw_G := lwG tb_7 (List.mem_of_getElem? (i := 108) rfl) rfl
theorem gw_7_109 : Cond.instanceMethod yX9_about ∈ lw_G := lwG tb_7 (List.mem_of_getElem? (i := 109) rfl) rfl
theorem gw_7_110 : Cond.selects RX9 yX9_about yX9_about ∈ lw_G := lwG tb_7 (List.mem_of_getElem? (i := 110) rfl) rfl
theorem gw_7_111 : Cond.code yX9_about cX9_about 2 (some .int) ∈ lw_G := lwG tb_7 (List.mem_of_getElem? (i := 111) rfl) rfl
theorem gs_X8_inheritance : Cond.selects RX8 yX8_inheritance yX8_inheritance ∈ lw_G := lwG (fun _ h => List.mem_append_left _ h) (List.mem_of_getElem? (i := 0) rfl) rfl
theorem gs_X8_isItem : Cond.selects RX8 yX8_isItem yX8_isItem ∈ lw_G := lwG (fun _ h => List.mem_append_left _ h) (List.mem_of_getElem? (i := 1) rfl) rfl
theorem gs_X8_isNode : Cond.selects RX8 yX8_isNode yX8_isNode ∈ lw_G := lwG (fun _ h => List.mem_append_left _ h) (List.mem_of_getElem? (i := 2) rfl) rfl
theorem gs_X8_keepFault : Cond.selects RX8 yX8_keepFault yX8_keepFault ∈ lw_G := lwG (fun _ h => List.mem_append_left _ h) (List.mem_of_getElem? (i := 3) rfl) rfl
theorem gs_X8_putWord : Cond.selects RX8 yX8_putWord yX8_putWord ∈ lw_G := lwG (fun _ h => List.mem_append_left _ h) (List.mem_of_getElem? (i := 4) rfl) rfl
theorem gs_X8_symbolOf : Cond.selects RX8 yX8_symbolOf yX8_symbolOf ∈ lw_G := lwG (fun _ h => List.mem_append_left _ h) (List.mem_of_getElem? (i := 5) rfl) rfl
theorem gs_X0_await : Cond.selects RX0 yX0_await yX0_await ∈ lw_G := lwG (fun _ h => List.mem_append_left _ h) (List.mem_of_getElem? (i := 6) rfl) rfl
theorem gs_X0_binary : Cond.selects RX0 yX0_binary yX0_binary ∈ lw_G := lwG (fun _ h => List.mem_append_left _ h) (List.mem_of_getElem? (i := 7) rfl) rfl
theorem gs_X0_closeParenthesis : Cond.selects RX0 yX0_closeParenthesis yX0_closeParenthesis ∈ lw_G := lwG (fun _ h => List.mem_append_left _ h) (List.mem_of_getElem? (i := 8) rfl) rfl
theorem gs_X0_compare : Cond.selects RX0 yX0_compare yX0_compare ∈ lw_G := lwG (fun _ h => List.mem_append_left _ h) (List.mem_of_getElem? (i := 9) rfl) rfl
theorem gs_X0_emitOperand : Cond.selects RX0 yX0_emitOperand yX0_emitOperand ∈ lw_G := lwG (fun _ h => List.mem_append_left _ h) (List.mem_of_getElem? (i := 10) rfl) rfl
theorem gs_X0_finish : Cond.selects RX0 yX0_finish yX0_finish ∈ lw_G := lwG (fun _ h => List.mem_append_left _ h) (List.mem_of_getElem? (i := 11) rfl) rfl
theorem gs_X0_isOneTooMany : Cond.selects RX0 yX0_isOneTooMany yX0_isOneTooMany ∈ lw_G := lwG (fun _ h => List.mem_append_left _ h) (List.mem_of_getElem? (i := 12) rfl) rfl
theorem gs_X0_occDot : Cond.selects RX0 yX0_occDot yX0_occDot ∈ lw_G := lwG (fun _ h => List.mem_append_left _ h) (List.mem_of_getElem? (i := 13) rfl) rfl
theorem gs_X0_occName : Cond.selects RX0 yX0_occName yX0_occName ∈ lw_G := lwG (fun _ h => List.mem_append_left _ h) (List.mem_of_getElem? (i := 14) rfl) rfl
theorem gs_X0_occNumber : Cond.selects RX0 yX0_occNumber yX0_occNumber ∈ lw_G := lwG (fun _ h => List.mem_append_left _ h) (List.mem_of_getElem? (i := 15) rfl) rfl
theorem gs_X0_open : Cond.selects RX0 yX0_open yX0_open ∈ lw_G := lwG (fun _ h => List.mem_append_left _ h) (List.mem_of_getElem? (i := 16) rfl) rfl
theorem gs_X0_operand : Cond.selects RX0 yX0_operand yX0_operand ∈ lw_G := lwG (fun _ h => List.mem_append_left _ h) (List.mem_of_getElem? (i := 17) rfl) rfl
theorem gs_X0_operator : Cond.selects RX0 yX0_operator yX0_operator ∈ lw_G := lwG (fun _ h => List.mem_append_left _ h) (List.mem_of_getElem? (i := 18) rfl) rfl
theorem gs_X0_settle : Cond.selects RX0 yX0_settle yX0_settle ∈ lw_G := lwG (fun _ h => List.mem_append_left _ h) (List.mem_of_getElem? (i := 19) rfl) rfl
theorem gs_X0_top : Cond.selects RX0 yX0_top yX0_top ∈ lw_G := lwG (fun _ h => List.mem_append_left _ h) (List.mem_of_getElem? (i := 20) rfl) rfl
theorem gs_X0_topBinds : Cond.selects RX0 yX0_topBinds yX0_topBinds ∈ lw_G := lwG (fun _ h => List.mem_append_left _ h) (List.mem_of_getElem? (i := 21) rfl) rfl
theorem gs_X0_turn : Cond.selects RX0 yX0_turn yX0_turn ∈ lw_G := lwG (fun _ h => List.mem_append_left _ h) (List.mem_of_getElem? (i := 22) rfl) rfl
theorem gs_X2_attributeName : Cond.selects RX2 yX2_attributeName yX2_attributeName ∈ lw_G := lwG (fun _ h => List.mem_append_left _ h) (List.mem_of_getElem? (i := 23) rfl) rfl
theorem gs_X2_behindRule : Cond.selects RX2 yX2_behindRule yX2_behindRule ∈ lw_G := lwG (fun _ h => List.mem_append_left _ h) (List.mem_of_getElem? (i := 24) rfl) rfl
theorem gs_X2_go : Cond.selects RX2 yX2_go yX2_go ∈ lw_G := lwG (fun _ h => List.mem_append_left _ h) (List.mem_of_getElem? (i := 25) rfl) rfl
theorem gs_X2_goIf : Cond.selects RX2 yX2_goIf yX2_goIf ∈ lw_G := lwG (fun _ h => List.mem_append_left _ h) (List.mem_of_getElem? (i := 26) rfl) rfl
theorem gs_X2_lacksEquation : Cond.selects RX2 yX2_lacksEquation yX2_lacksEquation ∈ lw_G := lwG (fun _ h => List.mem_append_left _ h) (List.mem_of_getElem? (i := 27) rfl) rfl
theorem gs_X2_ruleBody : Cond.selects RX2 yX2_ruleBody yX2_ruleBody ∈ lw_G := lwG (fun _ h => List.mem_append_left _ h) (List.mem_of_getElem? (i := 28) rfl) rfl
theorem gs_X2_ruleChild : Cond.selects RX2 yX2_ruleChild yX2_ruleChild ∈ lw_G := lwG (fun _ h => List.mem_append_left _ h) (List.mem_of_getElem? (i := 29) rfl) rfl
theorem gs_X2_ruleHead : Cond.selects RX2 yX2_ruleHead yX2_ruleHead ∈ lw_G := lwG (fun _ h => List.mem_append_left _ h) (List.mem_of_getElem? (i := 30) rfl) rfl
theorem gs_X2_ruleName : Cond.selects RX2 yX2_ruleName yX2_ruleName ∈ lw_G := lwG (fun _ h => List.mem_append_left _ h) (List.mem_of_getElem? (i := 31) rfl) rfl
theorem gs_X2_ruleStep : Cond.selects RX2 yX2_ruleStep yX2_ruleStep ∈ lw_G := lwG (fun _ h => List.mem_append_left _ h) (List.mem_of_getElem? (i := 32) rfl) rfl
theorem gs_X2_step : Cond.selects RX2 yX2_step yX2_step ∈ lw_G := lwG (fun _ h => List.mem_append_left _ h) (List.mem_of_getElem? (i := 33) rfl) rfl
theorem gs_X2_symbolBody : Cond.selects RX2 yX2_symbolBody yX2_symbolBody ∈ lw_G := lwG (fun _ h => List.mem_append_left _ h) (List.mem_of_getElem? (i := 34) rfl) rfl
theorem gs_X2_symbolName : Cond.selects RX2 yX2_symbolName yX2_symbolName ∈ lw_G := lwG (fun _ h => List.mem_append_left _ h) (List.mem_of_getElem? (i := 35) rfl) rfl
theorem gs_X2_symbolStep : Cond.selects RX2 yX2_symbolStep yX2_symbolStep ∈ lw_G := lwG (fun _ h => List.mem_append_left _ h) (List.mem_of_getElem? (i := 36) rfl) rfl
theorem gs_X2_targetName : Cond.selects RX2 yX2_targetName yX2_targetName ∈ lw_G := lwG (fun _ h => List.mem_append_left _ h) (List.mem_of_getElem? (i := 37) rfl) rfl
theorem gs_X2_targetStep : Cond.selects RX2 yX2_targetStep yX2_targetStep ∈ lw_G := lwG (fun _ h => List.mem_append_left _ h) (List.mem_of_getElem? (i := 38) rfl) rfl
theorem gs_X3_skipBlanks : Cond.selects RX3 yX3_skipBlanks yX3_skipBlanks ∈ lw_G := lwG (fun _ h => List.mem_append_left _ h) (List.mem_of_getElem? (i := 39) rfl) rfl
theorem gs_X3_takeDigits : Cond.selects RX3 yX3_takeDigits yX3_takeDigits ∈ lw_G := lwG (fun _ h => List.mem_append_left _ h) (List.mem_of_getElem? (i := 40) rfl) rfl
theorem gs_X3_takeLetters : Cond.selects RX3 yX3_takeLetters yX3_takeLetters ∈ lw_G := lwG (fun _ h => List.mem_append_left _ h) (List.mem_of_getElem? (i := 41) rfl) rfl
theorem gs_X5_childOrEnd : Cond.selects RX5 yX5_childOrEnd yX5_childOrEnd ∈ lw_G := lwG (fun _ h => List.mem_append_left _ h) (List.mem_of_getElem? (i := 42) rfl) rfl
theorem gs_X5_dueSymbol : Cond.selects RX5 yX5_dueSymbol yX5_dueSymbol ∈ lw_G := lwG (fun _ h => List.mem_append_left _ h) (List.mem_of_getElem? (i := 43) rfl) rfl
theorem gs_X5_go : Cond.selects RX5 yX5_go yX5_go ∈ lw_G := lwG (fun _ h => List.mem_append_left _ h) (List.mem_of_getElem? (i := 44) rfl) rfl
theorem gs_X5_openNode : Cond.selects RX5 yX5_openNode yX5_openNode ∈ lw_G := lwG (fun _ h => List.mem_append_left _ h) (List.mem_of_getElem? (i := 45) rfl) rfl
theorem gs_X5_ownNumber : Cond.selects RX5 yX5_ownNumber yX5_ownNumber ∈ lw_G := lwG (fun _ h => List.mem_append_left _ h) (List.mem_of_getElem? (i := 46) rfl) rfl
theorem gs_X5_ruleName : Cond.selects RX5 yX5_ruleName yX5_ruleName ∈ lw_G := lwG (fun _ h => List.mem_append_left _ h) (List.mem_of_getElem? (i := 47) rfl) rfl
theorem gs_X5_step : Cond.selects RX5 yX5_step yX5_step ∈ lw_G := lwG (fun _ h => List.mem_append_left _ h) (List.mem_of_getElem? (i := 48) rfl) rfl
theorem gs_X6_addGraph : Cond.selects RX6 yX6_addGraph yX6_addGraph ∈ lw_G := lwG (fun _ h => List.mem_append_left _ h) (List.mem_of_getElem? (i := 49) rfl) rfl
theorem gs_X6_childrenHaveTrees : Cond.selects RX6 yX6_childrenHaveTrees yX6_childrenHaveTrees ∈ lw_G := lwG (fun _ h => List.mem_append_left _ h) (List.mem_of_getElem? (i := 50) rfl) rfl
theorem gs_X6_clearExact : Cond.selects RX6 yX6_clearExact yX6_clearExact ∈ lw_G := lwG (fun _ h => List.mem_append_left _ h) (List.mem_of_getElem? (i := 51) rfl) rfl
theorem gs_X6_closeRows : Cond.selects RX6 yX6_closeRows yX6_closeRows ∈ lw_G := lwG (fun _ h => List.mem_append_left _ h) (List.mem_of_getElem? (i := 52) rfl) rfl
theorem gs_X6_countChoices : Cond.selects RX6 yX6_countChoices yX6_countChoices ∈ lw_G := lwG (fun _ h => List.mem_append_left _ h) (List.mem_of_getElem? (i := 53) rfl) rfl
theorem gs_X6_findComing : Cond.selects RX6 yX6_findComing yX6_findComing ∈ lw_G := lwG (fun _ h => List.mem_append_left _ h) (List.mem_of_getElem? (i := 54) rfl) rfl
theorem gs_X6_findExact : Cond.selects RX6 yX6_findExact yX6_findExact ∈ lw_G := lwG (fun _ h => List.mem_append_left _ h) (List.mem_of_getElem? (i := 55) rfl) rfl
theorem gs_X6_findPlain : Cond.selects RX6 yX6_findPlain yX6_findPlain ∈ lw_G := lwG (fun _ h => List.mem_append_left _ h) (List.mem_of_getElem? (i := 56) rfl) rfl
theorem gs_X6_findTrees : Cond.selects RX6 yX6_findTrees yX6_findTrees ∈ lw_G := lwG (fun _ h => List.mem_append_left _ h) (List.mem_of_getElem? (i := 57) rfl) rfl
theorem gs_X6_goesRound : Cond.selects RX6 yX6_goesRound yX6_goesRound ∈ lw_G := lwG (fun _ h => List.mem_append_left _ h) (List.mem_of_getElem? (i := 58) rfl) rfl
theorem gs_X6_headGraph : Cond.selects RX6 yX6_headGraph yX6_headGraph ∈ lw_G := lwG (fun _ h => List.mem_append_left _ h) (List.mem_of_getElem? (i := 59) rfl) rfl
theorem gs_X6_loadEquations : Cond.selects RX6 yX6_loadEquations yX6_loadEquations ∈ lw_G := lwG (fun _ h => List.mem_append_left _ h) (List.mem_of_getElem? (i := 60) rfl) rfl
theorem gs_X6_loadGraph : Cond.selects RX6 yX6_loadGraph yX6_loadGraph ∈ lw_G := lwG (fun _ h => List.mem_append_left _ h) (List.mem_of_getElem? (i := 61) rfl) rfl
theorem gs_X6_sortGraphs : Cond.selects RX6 yX6_sortGraphs yX6_sortGraphs ∈ lw_G := lwG (fun _ h => List.mem_append_left _ h) (List.mem_of_getElem? (i := 62) rfl) rfl
theorem gs_X6_takeChoice : Cond.selects RX6 yX6_takeChoice yX6_takeChoice ∈ lw_G := lwG (fun _ h => List.mem_append_left _ h) (List.mem_of_getElem? (i := 63) rfl) rfl
theorem gs_X6_takeNewChoices : Cond.selects RX6 yX6_takeNewChoices yX6_takeNewChoices ∈ lw_G := lwG (fun _ h => List.mem_append_left _ h) (List.mem_of_getElem? (i := 64) rfl) rfl
theorem gs_X6_takePlain : Cond.selects RX6 yX6_takePlain yX6_takePlain ∈ lw_G := lwG (fun _ h => List.mem_append_left _ h) (List.mem_of_getElem? (i := 65) rfl) rfl
theorem gs_X7_choose : Cond.selects RX7 yX7_choose yX7_choose ∈ lw_G := lwG (fun _ h => List.mem_append_left _ h) (List.mem_of_getElem? (i := 66) rfl) rfl
theorem gs_X7_combine : Cond.selects RX7 yX7_combine yX7_combine ∈ lw_G := lwG (fun _ h => List.mem_append_left _ h) (List.mem_of_getElem? (i := 67) rfl) rfl
theorem gs_X7_enter : Cond.selects RX7 yX7_enter yX7_enter ∈ lw_G := lwG (fun _ h => List.mem_append_left _ h) (List.mem_of_getElem? (i := 68) rfl) rfl
theorem gs_X7_evaluate : Cond.selects RX7 yX7_evaluate yX7_evaluate ∈ lw_G := lwG (fun _ h => List.mem_append_left _ h) (List.mem_of_getElem? (i := 69) rfl) rfl
theorem gs_X7_giveUp : Cond.selects RX7 yX7_giveUp yX7_giveUp ∈ lw_G := lwG (fun _ h => List.mem_append_left _ h) (List.mem_of_getElem? (i := 70) rfl) rfl
theorem gs_X7_isOpen : Cond.selects RX7 yX7_isOpen yX7_isOpen ∈ lw_G := lwG (fun _ h => List.mem_append_left _ h) (List.mem_of_getElem? (i := 71) rfl) rfl
theorem gs_X7_itemAt : Cond.selects RX7 yX7_itemAt yX7_itemAt ∈ lw_G := lwG (fun _ h => List.mem_append_left _ h) (List.mem_of_getElem? (i := 72) rfl) rfl
theorem gs_X7_leave : Cond.selects RX7 yX7_leave yX7_leave ∈ lw_G := lwG (fun _ h => List.mem_append_left _ h) (List.mem_of_getElem? (i := 73) rfl) rfl
theorem gs_X7_nextOpen : Cond.selects RX7 yX7_nextOpen yX7_nextOpen ∈ lw_G := lwG (fun _ h => List.mem_append_left _ h) (List.mem_of_getElem? (i := 74) rfl) rfl
theorem gs_X7_operate : Cond.selects RX7 yX7_operate yX7_operate ∈ lw_G := lwG (fun _ h => List.mem_append_left _ h) (List.mem_of_getElem? (i := 75) rfl) rfl
theorem gs_X7_put : Cond.selects RX7 yX7_put yX7_put ∈ lw_G := lwG (fun _ h => List.mem_append_left _ h) (List.mem_of_getElem? (i := 76) rfl) rfl
theorem gs_X9_allCan : Cond.selects RX9 yX9_allCan yX9_allCan ∈ lw_G := lwG (fun _ h => List.mem_append_left _ h) (List.mem_of_getElem? (i := 77) rfl) rfl
theorem gs_X9_attribute : Cond.selects RX9 yX9_attribute yX9_attribute ∈ lw_G := lwG (fun _ h => List.mem_append_left _ h) (List.mem_of_getElem? (i := 78) rfl) rfl
theorem gs_X9_attributeOf : Cond.selects RX9 yX9_attributeOf yX9_attributeOf ∈ lw_G := lwG (fun _ h => List.mem_append_left _ h) (List.mem_of_getElem? (i := 79) rfl) rfl
theorem gs_X9_begins : Cond.selects RX9 yX9_begins yX9_begins ∈ lw_G := lwG (fun _ h => List.mem_append_left _ h) (List.mem_of_getElem? (i := 80) rfl) rfl
theorem gs_X9_bitOf : Cond.selects RX9 yX9_bitOf yX9_bitOf ∈ lw_G := lwG (fun _ h => List.mem_append_left _ h) (List.mem_of_getElem? (i := 81) rfl) rfl
theorem gs_X9_blanks : Cond.selects RX9 yX9_blanks yX9_blanks ∈ lw_G := lwG (fun _ h => List.mem_append_left _ h) (List.mem_of_getElem? (i := 82) rfl) rfl
theorem gs_X9_chooses : Cond.selects RX9 yX9_chooses yX9_chooses ∈ lw_G := lwG (fun _ h => List.mem_append_left _ h) (List.mem_of_getElem? (i := 83) rfl) rfl
theorem gs_X9_comes : Cond.selects RX9 yX9_comes yX9_comes ∈ lw_G := lwG (fun _ h => List.mem_append_left _ h) (List.mem_of_getElem? (i := 84) rfl) rfl
theorem gs_X9_counts : Cond.selects RX9 yX9_counts yX9_counts ∈ lw_G := lwG (fun _ h => List.mem_append_left _ h) (List.mem_of_getElem? (i := 85) rfl) rfl
theorem gs_X9_does : Cond.selects RX9 yX9_does yX9_does ∈ lw_G := lwG (fun _ h => List.mem_append_left _ h) (List.mem_of_getElem? (i := 86) rfl) rfl
theorem gs_X9_ends : Cond.selects RX9 yX9_ends yX9_ends ∈ lw_G := lwG (fun _ h => List.mem_append_left _ h) (List.mem_of_getElem? (i := 87) rfl) rfl
theorem gs_X9_enter : Cond.selects RX9 yX9_enter yX9_enter ∈ lw_G := lwG (fun _ h => List.mem_append_left _ h) (List.mem_of_getElem? (i := 88) rfl) rfl
theorem gs_X9_equation : Cond.selects RX9 yX9_equation yX9_equation ∈ lw_G := lwG (fun _ h => List.mem_append_left _ h) (List.mem_of_getElem? (i := 89) rfl) rfl
theorem gs_X9_equationOf : Cond.selects RX9 yX9_equationOf yX9_equationOf ∈ lw_G := lwG (fun _ h => List.mem_append_left _ h) (List.mem_of_getElem? (i := 90) rfl) rfl
theorem gs_X9_exact : Cond.selects RX9 yX9_exact yX9_exact ∈ lw_G := lwG (fun _ h => List.mem_append_left _ h) (List.mem_of_getElem? (i := 91) rfl) rfl
theorem gs_X9_expression : Cond.selects RX9 yX9_expression yX9_expression ∈ lw_G := lwG (fun _ h => List.mem_append_left _ h) (List.mem_of_getElem? (i := 92) rfl) rfl
theorem gs_X9_fails : Cond.selects RX9 yX9_fails yX9_fails ∈ lw_G := lwG (fun _ h => List.mem_append_left _ h) (List.mem_of_getElem? (i := 93) rfl) rfl
theorem gs_X9_forgets : Cond.selects RX9 yX9_forgets yX9_forgets ∈ lw_G := lwG (fun _ h => List.mem_append_left _ h) (List.mem_of_getElem? (i := 94) rfl) rfl
theorem gs_X9_goesRound : Cond.selects RX9 yX9_goesRound yX9_goesRound ∈ lw_G := lwG (fun _ h => List.mem_append_left _ h) (List.mem_of_getElem? (i := 95) rfl) rfl
theorem gs_X9_graphAt : Cond.selects RX9 yX9_graphAt yX9_graphAt ∈ lw_G := lwG (fun _ h => List.mem_append_left _ h) (List.mem_of_getElem? (i := 96) rfl) rfl
theorem gs_X9_headGraph : Cond.selects RX9 yX9_headGraph yX9_headGraph ∈ lw_G := lwG (fun _ h => List.mem_append_left _ h) (List.mem_of_getElem? (i := 97) rfl) rfl
theorem gs_X9_inheritedOf : Cond.selects RX9 yX9_inheritedOf yX9_inheritedOf ∈ lw_G := lwG (fun _ h => List.mem_append_left _ h) (List.mem_of_getElem? (i := 98) rfl) rfl
theorem gs_X9_isAhead : Cond.selects RX9 yX9_isAhead yX9_isAhead ∈ lw_G := lwG (fun _ h => List.mem_append_left _ h) (List.mem_of_getElem? (i := 99) rfl) rfl
theorem gs_X9_isAttribute : Cond.selects RX9 yX9_isAttribute yX9_isAttribute ∈ lw_G := lwG (fun _ h => List.mem_append_left _ h) (List.mem_of_getElem? (i := 100) rfl) rfl
theorem gs_X9_isName : Cond.selects RX9 yX9_isName yX9_isName ∈ lw_G := lwG (fun _ h => List.mem_append_left _ h) (List.mem_of_getElem? (i := 101) rfl) rfl
theorem gs_X9_isSign : Cond.selects RX9 yX9_isSign yX9_isSign ∈ lw_G := lwG (fun _ h => List.mem_append_left _ h) (List.mem_of_getElem? (i := 102) rfl) rfl
theorem gs_X9_isTold : Cond.selects RX9 yX9_isTold yX9_isTold ∈ lw_G := lwG (fun _ h => List.mem_append_left _ h) (List.mem_of_getElem? (i := 103) rfl) rfl
theorem gs_X9_isWell : Cond.selects RX9 yX9_isWell yX9_isWell ∈ lw_G := lwG (fun _ h => List.mem_append_left _ h) (List.mem_of_getElem? (i := 104) rfl) rfl
theorem gs_X9_isWord : Cond.selects RX9 yX9_isWord yX9_isWord ∈ lw_G := lwG (fun _ h => List.mem_append_left _ h) (List.mem_of_getElem? (i := 105) rfl) rfl
theorem gs_X9_lacks : Cond.selects RX9 yX9_lacks yX9_lacks ∈ lw_G := lwG (fun _ h => List.mem_append_left _ h) (List.mem_of_getElem? (i := 106) rfl) rfl
theorem gs_X9_marks : Cond.selects RX9 yX9_marks yX9_marks ∈ lw_G := lwG (fun _ h => List.mem_append_left _ h) (List.mem_of_getElem? (i := 107) rfl) rfl
theorem gs_X9_name : Cond.selects RX9 yX9_name yX9_name ∈ lw_G := lwG (fun _ h => List.mem_append_left _ h) (List.mem_of_getElem? (i := 108) rfl) rfl
theorem gs_X9_namedBy : Cond.selects RX9 yX9_namedBy yX9_namedBy ∈ lw_G := lwG (fun _ h => List.mem_append_left _ h) (List.mem_of_getElem? (i := 109) rfl) rfl
theorem gs_X9_nests : Cond.selects RX9 yX9_nests yX9_nests ∈ lw_G := lwG (fun _ h => List.mem_append_left _ h) (List.mem_of_getElem? (i := 110) rfl) rfl
theorem gs_X9_next : Cond.selects RX9 yX9_next yX9_next ∈ lw_G := lwG (fun _ h => List.mem_append_left _ h) (List.mem_of_getElem? (i := 111) rfl) rfl
theorem gs_X9_number : Cond.selects RX9 yX9_number yX9_number ∈ lw_G := lwG (fun _ h => List.mem_append_left _ h) (List.mem_of_getElem? (i := 112) rfl) rfl
theorem gs_X9_occ : Cond.selects RX9 yX9_occ yX9_occ ∈ lw_G := lwG (fun _ h => List.mem_append_left _ h) (List.mem_of_getElem? (i := 113) rfl) rfl
theorem gs_X9_occurs : Cond.selects RX9 yX9_occurs yX9_occurs ∈ lw_G := lwG (fun _ h => List.mem_append_left _ h) (List.mem_of_getElem? (i := 114) rfl) rfl
theorem gs_X9_order : Cond.selects RX9 yX9_order yX9_order ∈ lw_G := lwG (fun _ h => List.mem_append_left _ h) (List.mem_of_getElem? (i := 115) rfl) rfl
theorem gs_X9_part : Cond.selects RX9 yX9_part yX9_part ∈ lw_G := lwG (fun _ h => List.mem_append_left _ h) (List.mem_of_getElem? (i := 116) rfl) rfl
theorem gs_X9_passes : Cond.selects RX9 yX9_passes yX9_passes ∈ lw_G := lwG (fun _ h => List.mem_append_left _ h) (List.mem_of_getElem? (i := 117) rfl) rfl
theorem gs_X9_place : Cond.selects RX9 yX9_place yX9_place ∈ lw_G := lwG (fun _ h => List.mem_append_left _ h) (List.mem_of_getElem? (i := 118) rfl) rfl
theorem gs_X9_plains : Cond.selects RX9 yX9_plains yX9_plains ∈ lw_G := lwG (fun _ h => List.mem_append_left _ h) (List.mem_of_getElem? (i := 119) rfl) rfl
theorem gs_X9_put : Cond.selects RX9 yX9_put yX9_put ∈ lw_G := lwG (fun _ h => List.mem_append_left _ h) (List.mem_of_getElem? (i := 120) rfl) rfl
theorem gs_X9_rankOf : Cond.selects RX9 yX9_rankOf yX9_rankOf ∈ lw_G := lwG (fun _ h => List.mem_append_left _ h) (List.mem_of_getElem? (i := 121) rfl) rfl
theorem gs_X9_reads : Cond.selects RX9 yX9_reads yX9_reads ∈ lw_G := lwG (fun _ h => List.mem_append_left _ h) (List.mem_of_getElem? (i := 122) rfl) rfl
theorem gs_X9_rule : Cond.selects RX9 yX9_rule yX9_rule ∈ lw_G := lwG (fun _ h => List.mem_append_left _ h) (List.mem_of_getElem? (i := 123) rfl) rfl
theorem gs_X9_ruleOf : Cond.selects RX9 yX9_ruleOf yX9_ruleOf ∈ lw_G := lwG (fun _ h => List.mem_append_left _ h) (List.mem_of_getElem? (i := 124) rfl) rfl
theorem gs_X9_second : Cond.selects RX9 yX9_second yX9_second ∈ lw_G := lwG (fun _ h => List.mem_append_left _ h) (List.mem_of_getElem? (i := 125) rfl) rfl
theorem gs_X9_settles : Cond.selects RX9 yX9_settles yX9_settles ∈ lw_G := lwG (fun _ h => List.mem_append_left _ h) (List.mem_of_getElem? (i := 126) rfl) rfl
theorem gs_X9_sign : Cond.selects RX9 yX9_sign yX9_sign ∈ lw_G := lwG (fun _ h => List.mem_append_left _ h) (List.mem_of_getElem? (i := 127) rfl) rfl
theorem gs_X9_signed : Cond.selects RX9 yX9_signed yX9_signed ∈ lw_G := lwG (fun _ h => List.mem_append_left _ h) (List.mem_of_getElem? (i := 128) rfl) rfl
theorem gs_X9_signs : Cond.selects RX9 yX9_signs yX9_signs ∈ lw_G := lwG (fun _ h => List.mem_append_left _ h) (List.mem_of_getElem? (i := 129) rfl) rfl
theorem gs_X9_stray : Cond.selects RX9 yX9_stray yX9_stray ∈ lw_G := lwG (fun _ h => List.mem_append_left _ h) (List.mem_of_getElem? (i := 130) rfl) rfl
theorem gs_X9_symbol : Cond.selects RX9 yX9_symbol yX9_symbol ∈ lw_G := lwG (fun _ h => List.mem_append_left _ h) (List.mem_of_getElem? (i := 131) rfl) rfl
theorem gs_X9_symbolOf : Cond.selects RX9 yX9_symbolOf yX9_symbolOf ∈ lw_G := lwG (fun _ h => List.mem_append_left _ h) (List.mem_of_getElem? (i := 132) rfl) rfl
theorem gs_X9_takes : Cond.selects RX9 yX9_takes yX9_takes ∈ lw_G := lwG (fun _ h => List.mem_append_left _ h) (List.mem_of_getElem? (i := 133) rfl) rfl
theorem gs_X9_takesTape : Cond.selects RX9 yX9_takesTape yX9_takesTape ∈ lw_G := lwG (fun _ h => List.mem_append_left _ h) (List.mem_of_getElem? (i := 134) rfl) rfl
theorem gs_X9_tellerOf : Cond.selects RX9 yX9_tellerOf yX9_tellerOf ∈ lw_G := lwG (fun _ h => List.mem_append_left _ h) (List.mem_of_getElem? (i := 135) rfl) rfl
theorem gs_X9_tests : Cond.selects RX9 yX9_tests yX9_tests ∈ lw_G := lwG (fun _ h => List.mem_append_left _ h) (List.mem_of_getElem? (i := 136) rfl) rfl
theorem gs_X9_value : Cond.selects RX9 yX9_value yX9_value ∈ lw_G := lwG (fun _ h => List.mem_append_left _ h) (List.mem_of_getElem? (i := 137) rfl) rfl
theorem gs_X9_waitsOn : Cond.selects RX9 yX9_waitsOn yX9_waitsOn ∈ lw_G := lwG (fun _ h => List.mem_append_left _ h) (List.mem_of_getElem? (i := 138) rfl) rfl
theorem gs_X9_ways : Cond.selects RX9 yX9_ways yX9_ways ∈ lw_G := lwG (fun _ h => List.mem_append_left _ h) (List.mem_of_getElem? (i := 139) rfl) rfl
theorem gs_X9_waysOf : Cond.selects RX9 yX9_waysOf yX9_waysOf ∈ lw_G := lwG (fun _ h => List.mem_append_left _ h) (List.mem_of_getElem? (i := 140) rfl) rfl
theorem gs_X9_word : Cond.selects RX9 yX9_word yX9_word ∈ lw_G := lwG (fun _ h => List.mem_append_left _ h) (List.mem_of_getElem? (i := 141) rfl) rfl
theorem gs_X9_works : Cond.selects RX9 yX9_works yX9_works ∈ lw_G := lwG (fun _ h => List.mem_append_left _ h) (List.mem_of_getElem? (i := 142) rfl) rfl
theorem gI_Y {c : Cond} (h : c ∈ lw_G) : GoodIn lw_G (c :: lw_G) := fun w hw => (List.mem_cons.mp hw).elim (fun q => by rw [q]; exact ⟨h, lwG_good h⟩) (fun q => ⟨q, lwG_good q⟩)
theorem gI_V {own C : String} {idx : Nat} {y : MethodName} {ws : List Cond} (h1 : Cond.methodLink own idx y ∈ lw_G) (h2 : Cond.instanceMethod y ∈ lw_G) (h3 : Cond.selects C y y ∈ lw_G) (h4 : Cond.initialized C ∈ lw_G) (h : GoodIn lw_G ws) : GoodIn lw_G (wsV own idx C y ws) := by
  intro w hw
  unfold wsV at hw
  rcases List.mem_append.mp hw with q | q
  · rcases List.mem_cons.mp q with rfl | q
    · exact ⟨h1, lwG_good h1⟩
    · rcases List.mem_cons.mp q with rfl | q
      · exact ⟨h2, lwG_good h2⟩
      · rcases List.mem_cons.mp q with rfl | q
        · exact ⟨h3, lwG_good h3⟩
        · rcases List.mem_cons.mp q with rfl | q
          · exact ⟨h4, lwG_good h4⟩
          · exact absurd q List.not_mem_nil
  · exact h w q
theorem gI_S {own : String} {idx : Nat} {y : MethodName} {ws : List Cond} (h1 : Cond.methodLink own idx y ∈ lw_G) (h2 : Cond.static y ∈ lw_G) (h3 : Cond.initialized y.cls ∈ lw_G) (h : GoodIn lw_G ws) : GoodIn lw_G (va_wsS own idx y ws) := by
  intro w hw
  unfold va_wsS at hw
  rcases List.mem_append.mp hw with q | q
  · rcases List.mem_cons.mp q with rfl | q
    · exact ⟨h1, lwG_good h1⟩
    · rcases List.mem_cons.mp q with rfl | q
      · exact ⟨h2, lwG_good h2⟩
      · rcases List.mem_cons.mp q with rfl | q
        · exact ⟨h3, lwG_good h3⟩
        · exact absurd q List.not_mem_nil
  · exact h w q
theorem inG_X0 : ∀ w ∈ wsX00, w ∈ lw_G := fun w h => by
  obtain ⟨k, hk, rfl⟩ := List.mem_map.mp h
  exact (match k, List.mem_range.mp hk with
    | 0, _ => gw_1_216
    | 1, _ => gw_1_218
    | 2, _ => gw_1_220
    | 3, _ => gw_1_222
    | 4, _ => gw_1_224
    | 5, _ => gw_1_226
    | 6, _ => gw_1_228
    | 7, _ => gw_1_230
    | 8, _ => gw_1_232
    | 9, _ => gw_1_234
    | 10, _ => gw_1_236
    | j + 11, h => absurd h (by omega))
theorem inG_X1 : ∀ w ∈ wsX10, w ∈ lw_G := fun w h => by
  obtain ⟨k, hk, rfl⟩ := List.mem_map.mp h
  exact (match k, List.mem_range.mp hk with
    | 0, _ => gw_1_73
    | 1, _ => gw_1_75
    | 2, _ => gw_1_77
    | 3, _ => gw_1_79
    | 4, _ => gw_1_81
    | 5, _ => gw_1_83
    | 6, _ => gw_1_85
    | 7, _ => gw_1_87
    | 8, _ => gw_1_89
    | 9, _ => gw_1_91
    | 10, _ => gw_1_93
    | 11, _ => gw_1_95
    | 12, _ => gw_1_97
    | 13, _ => gw_1_99
    | 14, _ => gw_1_101
    | 15, _ => gw_1_103
    | 16, _ => gw_1_105
    | 17, _ => gw_1_107
    | j + 18, h => absurd h (by omega))
theorem inG_X2 : ∀ w ∈ wsX20, w ∈ lw_G := fun w h => by
  obtain ⟨k, hk, rfl⟩ := List.mem_map.mp h
  exact (match k, List.mem_range.mp hk with
    | 0, _ => gw_2_6
    | 1, _ => gw_2_8
    | 2, _ => gw_2_10
    | 3, _ => gw_2_12
    | 4, _ => gw_2_14
    | 5, _ => gw_2_16
    | 6, _ => gw_2_18
    | j + 7, h => absurd h (by omega))
theorem inG_X3 : ∀ w ∈ wsX30, w ∈ lw_G := fun w h => by
  obtain ⟨k, hk, rfl⟩ := List.mem_map.mp h
  exact (match k, List.mem_range.mp hk with
    | 0, _ => gw_1_177
    | 1, _ => gw_1_179
    | 2, _ => gw_1_181
    | 3, _ => gw_1_183
    | 4, _ => gw_1_185
    | 5, _ => gw_1_187
    | 6, _ => gw_1_189
    | j + 7, h => absurd h (by omega))
theorem inG_X4 : ∀ w ∈ wsX40, w ∈ lw_G := fun w h => by
  obtain ⟨k, hk, rfl⟩ := List.mem_map.mp h
  exact (match k, List.mem_range.mp hk with
    | 0, _ => gw_1_141
    | 1, _ => gw_1_143
    | 2, _ => gw_1_145
    | 3, _ => gw_1_147
    | 4, _ => gw_1_149
    | 5, _ => gw_1_151
    | j + 6, h => absurd h (by omega))
theorem inG_X5 : ∀ w ∈ wsX50, w ∈ lw_G := fun w h => by
  obtain ⟨k, hk, rfl⟩ := List.mem_map.mp h
  exact (match k, List.mem_range.mp hk with
    | 0, _ => gw_2_34
    | 1, _ => gw_2_36
    | 2, _ => gw_2_38
    | 3, _ => gw_2_40
    | 4, _ => gw_2_42
    | 5, _ => gw_2_44
    | 6, _ => gw_2_46
    | j + 7, h => absurd h (by omega))
theorem inG_X6 : ∀ w ∈ wsX60, w ∈ lw_G := fun w h => by
  obtain ⟨k, hk, rfl⟩ := List.mem_map.mp h
  exact (match k, List.mem_range.mp hk with
    | 0, _ => gw_2_77
    | 1, _ => gw_2_79
    | 2, _ => gw_2_81
    | 3, _ => gw_2_83
    | 4, _ => gw_2_85
    | 5, _ => gw_2_87
    | 6, _ => gw_2_89
    | 7, _ => gw_2_91
    | 8, _ => gw_2_93
    | 9, _ => gw_2_95
    | 10, _ => gw_2_97
    | 11, _ => gw_2_99
    | 12, _ => gw_2_101
    | 13, _ => gw_2_103
    | 14, _ => gw_2_105
    | j + 15, h => absurd h (by omega))
theorem inG_X7 : ∀ w ∈ wsX70, w ∈ lw_G := fun w h => by
  obtain ⟨k, hk, rfl⟩ := List.mem_map.mp h
  exact (match k, List.mem_range.mp hk with
    | 0, _ => gw_2_131
    | 1, _ => gw_2_133
    | 2, _ => gw_2_135
    | 3, _ => gw_2_137
    | 4, _ => gw_2_139
    | 5, _ => gw_2_141
    | 6, _ => gw_2_143
    | 7, _ => gw_2_145
    | 8, _ => gw_2_147
    | 9, _ => gw_2_149
    | 10, _ => gw_2_151
    | 11, _ => gw_2_153
    | 12, _ => gw_2_155
    | 13, _ => gw_2_157
    | j + 14, h => absurd h (by omega))
theorem inG_X8 : ∀ w ∈ wsX80, w ∈ lw_G := fun w h => by
  obtain ⟨k, hk, rfl⟩ := List.mem_map.mp h
  exact (match k, List.mem_range.mp hk with
    | 0, _ => gw_2_173
    | 1, _ => gw_2_175
    | 2, _ => gw_2_177
    | 3, _ => gw_2_179
    | 4, _ => gw_2_181
    | 5, _ => gw_2_183
    | 6, _ => gw_2_185
    | 7, _ => gw_2_187
    | 8, _ => gw_2_189
    | 9, _ => gw_2_191
    | 10, _ => gw_2_193
    | 11, _ => gw_2_195
    | 12, _ => gw_2_197
    | j + 13, h => absurd h (by omega))
theorem inG_X9 : ∀ w ∈ wsX90, w ∈ lw_G := fun w h => by
  obtain ⟨k, hk, rfl⟩ := List.mem_map.mp h
  exact (match k, List.mem_range.mp hk with
    | 0, _ => gw_5_82
    | 1, _ => gw_5_84
    | 2, _ => gw_5_86
    | 3, _ => gw_5_88
    | 4, _ => gw_5_90
    | 5, _ => gw_5_92
    | 6, _ => gw_5_94
    | 7, _ => gw_5_96
    | 8, _ => gw_5_98
    | 9, _ => gw_5_100
    | 10, _ => gw_5_102
    | 11, _ => gw_5_104
    | 12, _ => gw_5_106
    | 13, _ => gw_5_108
    | 14, _ => gw_5_110
    | 15, _ => gw_5_112
    | 16, _ => gw_5_114
    | 17, _ => gw_5_116
    | 18, _ => gw_5_118
    | 19, _ => gw_5_120
    | 20, _ => gw_5_122
    | 21, _ => gw_5_124
    | 22, _ => gw_5_126
    | 23, _ => gw_5_128
    | 24, _ => gw_5_130
    | 25, _ => gw_5_132
    | 26, _ => gw_5_134
    | 27, _ => gw_5_136
    | 28, _ => gw_5_138
    | 29, _ => gw_5_140
    | 30, _ => gw_5_142
    | 31, _ => gw_5_144
    | 32, _ => gw_5_146
    | 33, _ => gw_5_148
    | 34, _ => gw_5_150
    | 35, _ => gw_5_152
    | 36, _ => gw_5_154
    | 37, _ => gw_5_156
    | 38, _ => gw_5_158
    | 39, _ => gw_5_160
    | 40, _ => gw_5_162
    | 41, _ => gw_5_164
    | 42, _ => gw_5_166
    | 43, _ => gw_5_168
    | 44, _ => gw_5_170
    | 45, _ => gw_5_172
    | 46, _ => gw_5_174
    | 47, _ => gw_5_176
    | 48, _ => gw_5_178
    | 49, _ => gw_5_180
    | 50, _ => gw_5_182
    | 51, _ => gw_5_184
    | 52, _ => gw_5_186
    | 53, _ => gw_5_188
    | 54, _ => gw_5_190
    | 55, _ => gw_5_192
    | 56, _ => gw_5_194
    | 57, _ => gw_5_196
    | 58, _ => gw_5_198
    | 59, _ => gw_5_200
    | 60, _ => gw_5_202
    | 61, _ => gw_5_204
    | 62, _ => gw_5_206
    | 63, _ => gw_5_208
    | 64, _ => gw_5_210
    | 65, _ => gw_5_212
    | 66, _ => gw_5_214
    | 67, _ => gw_5_216
    | 68, _ => gw_5_218
    | 69, _ => gw_5_220
    | 70, _ => gw_5_222
    | 71, _ => gw_5_224
    | 72, _ => gw_5_226
    | 73, _ => gw_5_228
    | 74, _ => gw_5_230
    | 75, _ => gw_5_232
    | 76, _ => gw_5_234
    | 77, _ => gw_5_236
    | 78, _ => gw_5_238
    | 79, _ => gw_6_0
    | j + 80, h => absurd h (by omega))
noncomputable def wyX0_await : List Cond := .code yX0_await cX0_await 2 (some .int) :: lw_G
theorem gy_X0_await : GoodIn lw_G wyX0_await := gI_Y gw_3_64
noncomputable def wyX0_begin : List Cond := .code yX0_begin cX0_begin 4 none :: lw_G
theorem gy_X0_begin : GoodIn lw_G wyX0_begin := gI_Y gw_3_206
noncomputable def wyX0_binary : List Cond := .code yX0_binary cX0_binary 2 (some .int) :: lw_G
theorem gy_X0_binary : GoodIn lw_G wyX0_binary := gI_Y gw_3_96
noncomputable def wyX0_bindingOf : List Cond := .code yX0_bindingOf cX0_bindingOf 1 (some .int) :: lw_G
theorem gy_X0_bindingOf : GoodIn lw_G wyX0_bindingOf := gI_Y gw_3_56
noncomputable def wyX0_closeParenthesis : List Cond := .code yX0_closeParenthesis cX0_closeParenthesis 1 (some .int) :: lw_G
theorem gy_X0_closeParenthesis : GoodIn lw_G wyX0_closeParenthesis := gI_Y gw_3_104
noncomputable def wyX0_compare : List Cond := .code yX0_compare cX0_compare 1 (some .int) :: lw_G
theorem gy_X0_compare : GoodIn lw_G wyX0_compare := gI_Y gw_3_100
noncomputable def wyX0_emitOperand : List Cond := .code yX0_emitOperand cX0_emitOperand 4 (some .int) :: lw_G
theorem gy_X0_emitOperand : GoodIn lw_G wyX0_emitOperand := gI_Y gw_3_44
noncomputable def wyX0_finish : List Cond := .code yX0_finish cX0_finish 1 (some .int) :: lw_G
theorem gy_X0_finish : GoodIn lw_G wyX0_finish := gI_Y gw_3_112
noncomputable def wyX0_init : List Cond := .code yX0_init cX0_init 3 none :: lw_G
theorem gy_X0_init : GoodIn lw_G wyX0_init := gI_Y gw_1_202
noncomputable def wyX0_isOneTooMany : List Cond := .code yX0_isOneTooMany cX0_isOneTooMany 1 (some .boolean) :: lw_G
theorem gy_X0_isOneTooMany : GoodIn lw_G wyX0_isOneTooMany := gI_Y gw_3_40
noncomputable def wyX0_occDot : List Cond := .code yX0_occDot cX0_occDot 1 (some .int) :: lw_G
theorem gy_X0_occDot : GoodIn lw_G wyX0_occDot := gI_Y gw_3_76
noncomputable def wyX0_occName : List Cond := .code yX0_occName cX0_occName 3 (some .int) :: lw_G
theorem gy_X0_occName : GoodIn lw_G wyX0_occName := gI_Y gw_3_80
noncomputable def wyX0_occNumber : List Cond := .code yX0_occNumber cX0_occNumber 1 (some .int) :: lw_G
theorem gy_X0_occNumber : GoodIn lw_G wyX0_occNumber := gI_Y gw_3_36
noncomputable def wyX0_open : List Cond := .code yX0_open cX0_open 2 (some .int) :: lw_G
theorem gy_X0_open : GoodIn lw_G wyX0_open := gI_Y gw_3_60
noncomputable def wyX0_operand : List Cond := .code yX0_operand cX0_operand 1 (some .int) :: lw_G
theorem gy_X0_operand : GoodIn lw_G wyX0_operand := gI_Y gw_3_28
noncomputable def wyX0_operator : List Cond := .code yX0_operator cX0_operator 1 (some .int) :: lw_G
theorem gy_X0_operator : GoodIn lw_G wyX0_operator := gI_Y gw_3_92
noncomputable def wyX0_settle : List Cond := .code yX0_settle cX0_settle 4 none :: lw_G
theorem gy_X0_settle : GoodIn lw_G wyX0_settle := gI_Y gw_3_53
noncomputable def wyX0_step : List Cond := .code yX0_step cX0_step 1 (some .int) :: lw_G
theorem gy_X0_step : GoodIn lw_G wyX0_step := gI_Y gw_3_24
noncomputable def wyX0_top : List Cond := .code yX0_top cX0_top 1 (some .int) :: lw_G
theorem gy_X0_top : GoodIn lw_G wyX0_top := gI_Y gw_3_72
noncomputable def wyX0_topBinds : List Cond := .code yX0_topBinds cX0_topBinds 1 (some .int) :: lw_G
theorem gy_X0_topBinds : GoodIn lw_G wyX0_topBinds := gI_Y gw_3_68
noncomputable def wyX0_turn : List Cond := .code yX0_turn cX0_turn 3 (some .int) :: lw_G
theorem gy_X0_turn : GoodIn lw_G wyX0_turn := gI_Y gw_3_108
noncomputable def wyX1_addAttribute : List Cond := .code yX1_addAttribute cX1_addAttribute 7 none :: lw_G
theorem gy_X1_addAttribute : GoodIn lw_G wyX1_addAttribute := gI_Y gw_3_149
noncomputable def wyX1_addCode : List Cond := .code yX1_addCode cX1_addCode 3 none :: lw_G
theorem gy_X1_addCode : GoodIn lw_G wyX1_addCode := gI_Y gw_3_49
noncomputable def wyX1_addRule : List Cond := .code yX1_addRule cX1_addRule 4 none :: lw_G
theorem gy_X1_addRule : GoodIn lw_G wyX1_addRule := gI_Y gw_3_169
noncomputable def wyX1_addSymbol : List Cond := .code yX1_addSymbol cX1_addSymbol 3 none :: lw_G
theorem gy_X1_addSymbol : GoodIn lw_G wyX1_addSymbol := gI_Y gw_3_132
noncomputable def wyX1_clear : List Cond := .code yX1_clear cX1_clear 1 none :: lw_G
theorem gy_X1_clear : GoodIn lw_G wyX1_clear := gI_Y gw_2_223
noncomputable def wyX1_findAttribute : List Cond := .code yX1_findAttribute cX1_findAttribute 5 (some .int) :: lw_G
theorem gy_X1_findAttribute : GoodIn lw_G wyX1_findAttribute := gI_Y gw_3_88
noncomputable def wyX1_findRule : List Cond := .code yX1_findRule cX1_findRule 4 (some .int) :: lw_G
theorem gy_X1_findRule : GoodIn lw_G wyX1_findRule := gI_Y gw_3_165
noncomputable def wyX1_findSymbol : List Cond := .code yX1_findSymbol cX1_findSymbol 4 (some .int) :: lw_G
theorem gy_X1_findSymbol : GoodIn lw_G wyX1_findSymbol := gI_Y gw_3_128
noncomputable def wyX1_graphBit : List Cond := .code yX1_graphBit cX1_graphBit 6 (some .int) :: lw_G
theorem gy_X1_graphBit : GoodIn lw_G wyX1_graphBit := gI_Y gw_4_3
noncomputable def wyX1_init : List Cond := .code yX1_init cX1_init 1 none :: lw_G
theorem gy_X1_init : GoodIn lw_G wyX1_init := gI_Y gw_1_24
noncomputable def wyX1_isInherited : List Cond := .code yX1_isInherited cX1_isInherited 3 (some .boolean) :: lw_G
theorem gy_X1_isInherited : GoodIn lw_G wyX1_isInherited := gI_Y gw_4_115
noncomputable def wyX1_mayTell : List Cond := .code yX1_mayTell cX1_mayTell 4 (some .boolean) :: lw_G
theorem gy_X1_mayTell : GoodIn lw_G wyX1_mayTell := gI_Y gw_3_190
noncomputable def wyX1_symbolAt : List Cond := .code yX1_symbolAt cX1_symbolAt 3 (some .int) :: lw_G
theorem gy_X1_symbolAt : GoodIn lw_G wyX1_symbolAt := gI_Y gw_3_84
noncomputable def wyX2_attributeName : List Cond := .code yX2_attributeName cX2_attributeName 2 (some .int) :: lw_G
theorem gy_X2_attributeName : GoodIn lw_G wyX2_attributeName := gI_Y gw_3_144
noncomputable def wyX2_behindRule : List Cond := .code yX2_behindRule cX2_behindRule 1 (some .int) :: lw_G
theorem gy_X2_behindRule : GoodIn lw_G wyX2_behindRule := gI_Y gw_3_194
noncomputable def wyX2_go : List Cond := .code yX2_go cX2_go 2 (some .int) :: lw_G
theorem gy_X2_go : GoodIn lw_G wyX2_go := gI_Y gw_3_136
noncomputable def wyX2_goIf : List Cond := .code yX2_goIf cX2_goIf 3 (some .int) :: lw_G
theorem gy_X2_goIf : GoodIn lw_G wyX2_goIf := gI_Y gw_3_153
noncomputable def wyX2_init : List Cond := .code yX2_init cX2_init 3 none :: lw_G
theorem gy_X2_init : GoodIn lw_G wyX2_init := gI_Y gw_1_196
noncomputable def wyX2_lacksEquation : List Cond := .code yX2_lacksEquation cX2_lacksEquation 6 (some .boolean) :: lw_G
theorem gy_X2_lacksEquation : GoodIn lw_G wyX2_lacksEquation := gI_Y gw_3_185
noncomputable def wyX2_read : List Cond := .code yX2_read cX2_read 5 (some .int) :: lw_G
theorem gy_X2_read : GoodIn lw_G wyX2_read := gI_Y gw_2_219
noncomputable def wyX2_ruleBody : List Cond := .code yX2_ruleBody cX2_ruleBody 2 (some .int) :: lw_G
theorem gy_X2_ruleBody : GoodIn lw_G wyX2_ruleBody := gI_Y gw_3_181
noncomputable def wyX2_ruleChild : List Cond := .code yX2_ruleChild cX2_ruleChild 3 (some .int) :: lw_G
theorem gy_X2_ruleChild : GoodIn lw_G wyX2_ruleChild := gI_Y gw_3_177
noncomputable def wyX2_ruleHead : List Cond := .code yX2_ruleHead cX2_ruleHead 3 (some .int) :: lw_G
theorem gy_X2_ruleHead : GoodIn lw_G wyX2_ruleHead := gI_Y gw_3_173
noncomputable def wyX2_ruleName : List Cond := .code yX2_ruleName cX2_ruleName 1 (some .int) :: lw_G
theorem gy_X2_ruleName : GoodIn lw_G wyX2_ruleName := gI_Y gw_3_161
noncomputable def wyX2_ruleStep : List Cond := .code yX2_ruleStep cX2_ruleStep 2 (some .int) :: lw_G
theorem gy_X2_ruleStep : GoodIn lw_G wyX2_ruleStep := gI_Y gw_3_157
noncomputable def wyX2_step : List Cond := .code yX2_step cX2_step 1 (some .int) :: lw_G
theorem gy_X2_step : GoodIn lw_G wyX2_step := gI_Y gw_3_116
noncomputable def wyX2_symbolBody : List Cond := .code yX2_symbolBody cX2_symbolBody 1 (some .int) :: lw_G
theorem gy_X2_symbolBody : GoodIn lw_G wyX2_symbolBody := gI_Y gw_3_140
noncomputable def wyX2_symbolName : List Cond := .code yX2_symbolName cX2_symbolName 1 (some .int) :: lw_G
theorem gy_X2_symbolName : GoodIn lw_G wyX2_symbolName := gI_Y gw_3_124
noncomputable def wyX2_symbolStep : List Cond := .code yX2_symbolStep cX2_symbolStep 1 (some .int) :: lw_G
theorem gy_X2_symbolStep : GoodIn lw_G wyX2_symbolStep := gI_Y gw_3_120
noncomputable def wyX2_targetName : List Cond := .code yX2_targetName cX2_targetName 4 (some .int) :: lw_G
theorem gy_X2_targetName : GoodIn lw_G wyX2_targetName := gI_Y gw_3_202
noncomputable def wyX2_targetStep : List Cond := .code yX2_targetStep cX2_targetStep 2 (some .int) :: lw_G
theorem gy_X2_targetStep : GoodIn lw_G wyX2_targetStep := gI_Y gw_3_198
noncomputable def wyX3_begin : List Cond := .code yX3_begin cX3_begin 2 none :: lw_G
theorem gy_X3_begin : GoodIn lw_G wyX3_begin := gI_Y gw_2_227
noncomputable def wyX3_hasDotBehind : List Cond := .code yX3_hasDotBehind cX3_hasDotBehind 2 (some .boolean) :: lw_G
theorem gy_X3_hasDotBehind : GoodIn lw_G wyX3_hasDotBehind := gI_Y gw_3_32
noncomputable def wyX3_init : List Cond := .code yX3_init cX3_init 2 none :: lw_G
theorem gy_X3_init : GoodIn lw_G wyX3_init := gI_Y gw_1_158
noncomputable def wyX3_isDigit : List Cond := .code yX3_isDigit cX3_isDigit 1 (some .boolean) :: lw_G
theorem gy_X3_isDigit : GoodIn lw_G wyX3_isDigit := gI_Y gw_3_11
noncomputable def wyX3_isLetter : List Cond := .code yX3_isLetter cX3_isLetter 1 (some .boolean) :: lw_G
theorem gy_X3_isLetter : GoodIn lw_G wyX3_isLetter := gI_Y gw_3_1
noncomputable def wyX3_isSign : List Cond := .code yX3_isSign cX3_isSign 1 (some .boolean) :: lw_G
theorem gy_X3_isSign : GoodIn lw_G wyX3_isSign := gI_Y gw_3_20
noncomputable def wyX3_keywordOrName : List Cond := .code yX3_keywordOrName cX3_keywordOrName 1 (some .int) :: lw_G
theorem gy_X3_keywordOrName : GoodIn lw_G wyX3_keywordOrName := gI_Y gw_3_8
noncomputable def wyX3_next : List Cond := .code yX3_next cX3_next 2 none :: lw_G
theorem gy_X3_next : GoodIn lw_G wyX3_next := gI_Y gw_2_234
noncomputable def wyX3_skipBlanks : List Cond := .code yX3_skipBlanks cX3_skipBlanks 3 (some .int) :: lw_G
theorem gy_X3_skipBlanks : GoodIn lw_G wyX3_skipBlanks := gI_Y gw_2_238
noncomputable def wyX3_takeDigits : List Cond := .code yX3_takeDigits cX3_takeDigits 4 none :: lw_G
theorem gy_X3_takeDigits : GoodIn lw_G wyX3_takeDigits := gI_Y gw_3_15
noncomputable def wyX3_takeLetters : List Cond := .code yX3_takeLetters cX3_takeLetters 5 none :: lw_G
theorem gy_X3_takeLetters : GoodIn lw_G wyX3_takeLetters := gI_Y gw_3_5
noncomputable def wyX4_init : List Cond := .code yX4_init cX4_init 1 none :: lw_G
theorem gy_X4_init : GoodIn lw_G wyX4_init := gI_Y gw_1_118
noncomputable def wyX4_nodeAt : List Cond := .code yX4_nodeAt cX4_nodeAt 3 (some .int) :: lw_G
theorem gy_X4_nodeAt : GoodIn lw_G wyX4_nodeAt := gI_Y gw_4_187
noncomputable def wyX5_childOrEnd : List Cond := .code yX5_childOrEnd cX5_childOrEnd 2 (some .int) :: lw_G
theorem gy_X5_childOrEnd : GoodIn lw_G wyX5_childOrEnd := gI_Y gw_4_99
noncomputable def wyX5_dueSymbol : List Cond := .code yX5_dueSymbol cX5_dueSymbol 2 (some .int) :: lw_G
theorem gy_X5_dueSymbol : GoodIn lw_G wyX5_dueSymbol := gI_Y gw_4_90
noncomputable def wyX5_go : List Cond := .code yX5_go cX5_go 3 (some .int) :: lw_G
theorem gy_X5_go : GoodIn lw_G wyX5_go := gI_Y gw_4_80
noncomputable def wyX5_init : List Cond := .code yX5_init cX5_init 4 none :: lw_G
theorem gy_X5_init : GoodIn lw_G wyX5_init := gI_Y gw_2_25
noncomputable def wyX5_openNode : List Cond := .code yX5_openNode cX5_openNode 2 (some .int) :: lw_G
theorem gy_X5_openNode : GoodIn lw_G wyX5_openNode := gI_Y gw_4_76
noncomputable def wyX5_ownNumber : List Cond := .code yX5_ownNumber cX5_ownNumber 1 (some .int) :: lw_G
theorem gy_X5_ownNumber : GoodIn lw_G wyX5_ownNumber := gI_Y gw_4_94
noncomputable def wyX5_read : List Cond := .code yX5_read cX5_read 6 (some .int) :: lw_G
theorem gy_X5_read : GoodIn lw_G wyX5_read := gI_Y gw_4_66
noncomputable def wyX5_ruleName : List Cond := .code yX5_ruleName cX5_ruleName 2 (some .int) :: lw_G
theorem gy_X5_ruleName : GoodIn lw_G wyX5_ruleName := gI_Y gw_4_84
noncomputable def wyX5_step : List Cond := .code yX5_step cX5_step 1 (some .int) :: lw_G
theorem gy_X5_step : GoodIn lw_G wyX5_step := gI_Y gw_4_72
noncomputable def wyX6_addGraph : List Cond := .code yX6_addGraph cX6_addGraph 3 (some .boolean) :: lw_G
theorem gy_X6_addGraph : GoodIn lw_G wyX6_addGraph := gI_Y gw_4_54
noncomputable def wyX6_childrenHaveTrees : List Cond := .code yX6_childrenHaveTrees cX6_childrenHaveTrees 3 (some .boolean) :: lw_G
theorem gy_X6_childrenHaveTrees : GoodIn lw_G wyX6_childrenHaveTrees := gI_Y gw_4_23
noncomputable def wyX6_clearExact : List Cond := .code yX6_clearExact cX6_clearExact 2 none :: lw_G
theorem gy_X6_clearExact : GoodIn lw_G wyX6_clearExact := gI_Y gw_4_35
noncomputable def wyX6_closeRows : List Cond := .code yX6_closeRows cX6_closeRows 3 none :: lw_G
theorem gy_X6_closeRows : GoodIn lw_G wyX6_closeRows := gI_Y gw_4_7
noncomputable def wyX6_countChoices : List Cond := .code yX6_countChoices cX6_countChoices 4 (some .int) :: lw_G
theorem gy_X6_countChoices : GoodIn lw_G wyX6_countChoices := gI_Y gw_4_43
noncomputable def wyX6_findComing : List Cond := .code yX6_findComing cX6_findComing 4 none :: lw_G
theorem gy_X6_findComing : GoodIn lw_G wyX6_findComing := gI_Y gw_4_27
noncomputable def wyX6_findExact : List Cond := .code yX6_findExact cX6_findExact 4 none :: lw_G
theorem gy_X6_findExact : GoodIn lw_G wyX6_findExact := gI_Y gw_4_31
noncomputable def wyX6_findPlain : List Cond := .code yX6_findPlain cX6_findPlain 4 none :: lw_G
theorem gy_X6_findPlain : GoodIn lw_G wyX6_findPlain := gI_Y gw_3_226
noncomputable def wyX6_findTrees : List Cond := .code yX6_findTrees cX6_findTrees 3 none :: lw_G
theorem gy_X6_findTrees : GoodIn lw_G wyX6_findTrees := gI_Y gw_4_19
noncomputable def wyX6_goesRound : List Cond := .code yX6_goesRound cX6_goesRound 2 (some .boolean) :: lw_G
theorem gy_X6_goesRound : GoodIn lw_G wyX6_goesRound := gI_Y gw_4_11
noncomputable def wyX6_headGraph : List Cond := .code yX6_headGraph cX6_headGraph 5 (some .int) :: lw_G
theorem gy_X6_headGraph : GoodIn lw_G wyX6_headGraph := gI_Y gw_4_15
noncomputable def wyX6_init : List Cond := .code yX6_init cX6_init 2 none :: lw_G
theorem gy_X6_init : GoodIn lw_G wyX6_init := gI_Y gw_2_53
noncomputable def wyX6_loadEquations : List Cond := .code yX6_loadEquations cX6_loadEquations 3 none :: lw_G
theorem gy_X6_loadEquations : GoodIn lw_G wyX6_loadEquations := gI_Y gw_3_234
noncomputable def wyX6_loadGraph : List Cond := .code yX6_loadGraph cX6_loadGraph 8 none :: lw_G
theorem gy_X6_loadGraph : GoodIn lw_G wyX6_loadGraph := gI_Y gw_3_239
noncomputable def wyX6_plainGoesRound : List Cond := .code yX6_plainGoesRound cX6_plainGoesRound 2 (some .boolean) :: lw_G
theorem gy_X6_plainGoesRound : GoodIn lw_G wyX6_plainGoesRound := gI_Y gw_4_132
noncomputable def wyX6_someTreeGoesRound : List Cond := .code yX6_someTreeGoesRound cX6_someTreeGoesRound 2 (some .boolean) :: lw_G
theorem gy_X6_someTreeGoesRound : GoodIn lw_G wyX6_someTreeGoesRound := gI_Y gw_4_136
noncomputable def wyX6_sortGraphs : List Cond := .code yX6_sortGraphs cX6_sortGraphs 4 none :: lw_G
theorem gy_X6_sortGraphs : GoodIn lw_G wyX6_sortGraphs := gI_Y gw_4_58
noncomputable def wyX6_study : List Cond := .code yX6_study cX6_study 2 none :: lw_G
theorem gy_X6_study : GoodIn lw_G wyX6_study := gI_Y gw_3_222
noncomputable def wyX6_takeChoice : List Cond := .code yX6_takeChoice cX6_takeChoice 7 (some .boolean) :: lw_G
theorem gy_X6_takeChoice : GoodIn lw_G wyX6_takeChoice := gI_Y gw_4_47
noncomputable def wyX6_takeNewChoices : List Cond := .code yX6_takeNewChoices cX6_takeNewChoices 9 (some .boolean) :: lw_G
theorem gy_X6_takeNewChoices : GoodIn lw_G wyX6_takeNewChoices := gI_Y gw_4_39
noncomputable def wyX6_takePlain : List Cond := .code yX6_takePlain cX6_takePlain 5 (some .boolean) :: lw_G
theorem gy_X6_takePlain : GoodIn lw_G wyX6_takePlain := gI_Y gw_3_230
noncomputable def wyX7_begin : List Cond := .code yX7_begin cX7_begin 3 none :: lw_G
theorem gy_X7_begin : GoodIn lw_G wyX7_begin := gI_Y gw_3_214
noncomputable def wyX7_choose : List Cond := .code yX7_choose cX7_choose 3 none :: lw_G
theorem gy_X7_choose : GoodIn lw_G wyX7_choose := gI_Y gw_4_207
noncomputable def wyX7_combine : List Cond := .code yX7_combine cX7_combine 6 none :: lw_G
theorem gy_X7_combine : GoodIn lw_G wyX7_combine := gI_Y gw_4_211
noncomputable def wyX7_enter : List Cond := .code yX7_enter cX7_enter 9 none :: lw_G
theorem gy_X7_enter : GoodIn lw_G wyX7_enter := gI_Y gw_4_173
noncomputable def wyX7_evaluate : List Cond := .code yX7_evaluate cX7_evaluate 5 none :: lw_G
theorem gy_X7_evaluate : GoodIn lw_G wyX7_evaluate := gI_Y gw_4_195
noncomputable def wyX7_forget : List Cond := .code yX7_forget cX7_forget 2 none :: lw_G
theorem gy_X7_forget : GoodIn lw_G wyX7_forget := gI_Y gw_3_218
noncomputable def wyX7_giveUp : List Cond := .code yX7_giveUp cX7_giveUp 2 none :: lw_G
theorem gy_X7_giveUp : GoodIn lw_G wyX7_giveUp := gI_Y gw_4_218
noncomputable def wyX7_init : List Cond := .code yX7_init cX7_init 3 none :: lw_G
theorem gy_X7_init : GoodIn lw_G wyX7_init := gI_Y gw_2_112
noncomputable def wyX7_isOpen : List Cond := .code yX7_isOpen cX7_isOpen 2 (some .boolean) :: lw_G
theorem gy_X7_isOpen : GoodIn lw_G wyX7_isOpen := gI_Y gw_4_169
noncomputable def wyX7_itemAt : List Cond := .code yX7_itemAt cX7_itemAt 3 (some .int) :: lw_G
theorem gy_X7_itemAt : GoodIn lw_G wyX7_itemAt := gI_Y gw_4_183
noncomputable def wyX7_leave : List Cond := .code yX7_leave cX7_leave 2 none :: lw_G
theorem gy_X7_leave : GoodIn lw_G wyX7_leave := gI_Y gw_4_191
noncomputable def wyX7_nextOpen : List Cond := .code yX7_nextOpen cX7_nextOpen 5 (some .int) :: lw_G
theorem gy_X7_nextOpen : GoodIn lw_G wyX7_nextOpen := gI_Y gw_4_179
noncomputable def wyX7_operate : List Cond := .code yX7_operate cX7_operate 2 none :: lw_G
theorem gy_X7_operate : GoodIn lw_G wyX7_operate := gI_Y gw_4_203
noncomputable def wyX7_outcome : List Cond := .code yX7_outcome cX7_outcome 3 (some .int) :: lw_G
theorem gy_X7_outcome : GoodIn lw_G wyX7_outcome := gI_Y gw_4_222
noncomputable def wyX7_put : List Cond := .code yX7_put cX7_put 3 none :: lw_G
theorem gy_X7_put : GoodIn lw_G wyX7_put := gI_Y gw_4_199
noncomputable def wyX7_result : List Cond := .code yX7_result cX7_result 3 (some .int) :: lw_G
theorem gy_X7_result : GoodIn lw_G wyX7_result := gI_Y gw_4_214
noncomputable def wyX7_workOut : List Cond := .code yX7_workOut cX7_workOut 4 (some .int) :: lw_G
theorem gy_X7_workOut : GoodIn lw_G wyX7_workOut := gI_Y gw_4_165
noncomputable def wyX8_about : List Cond := .code yX8_about cX8_about 2 (some .int) :: lw_G
theorem gy_X8_about : GoodIn lw_G wyX8_about := gI_Y gw_4_235
noncomputable def wyX8_demand : List Cond := .code yX8_demand cX8_demand 3 (some .int) :: lw_G
theorem gy_X8_demand : GoodIn lw_G wyX8_demand := gI_Y gw_4_157
noncomputable def wyX8_end : List Cond := .code yX8_end cX8_end 2 (some .int) :: lw_G
theorem gy_X8_end : GoodIn lw_G wyX8_end := gI_Y gw_2_211
noncomputable def wyX8_fault : List Cond := .code yX8_fault cX8_fault 2 (some .int) :: lw_G
theorem gy_X8_fault : GoodIn lw_G wyX8_fault := gI_Y gw_4_103
noncomputable def wyX8_feed : List Cond := .code yX8_feed cX8_feed 6 (some .int) :: lw_G
theorem gy_X8_feed : GoodIn lw_G wyX8_feed := gI_Y gw_2_203
noncomputable def wyX8_grammar : List Cond := .code yX8_grammar cX8_grammar 3 (some .int) :: lw_G
theorem gy_X8_grammar : GoodIn lw_G wyX8_grammar := gI_Y gw_2_215
noncomputable def wyX8_graph : List Cond := .code yX8_graph cX8_graph 3 (some .int) :: lw_G
theorem gy_X8_graph : GoodIn lw_G wyX8_graph := gI_Y gw_4_119
noncomputable def wyX8_inheritance : List Cond := .code yX8_inheritance cX8_inheritance 3 (some .int) :: lw_G
theorem gy_X8_inheritance : GoodIn lw_G wyX8_inheritance := gI_Y gw_4_111
noncomputable def wyX8_init : List Cond := .code yX8_init cX8_init 1 none :: lw_G
theorem gy_X8_init : GoodIn lw_G wyX8_init := gI_Y gw_1_16
noncomputable def wyX8_isItem : List Cond := .code yX8_isItem cX8_isItem 3 (some .boolean) :: lw_G
theorem gy_X8_isItem : GoodIn lw_G wyX8_isItem := gI_Y gw_4_161
noncomputable def wyX8_isNode : List Cond := .code yX8_isNode cX8_isNode 2 (some .boolean) :: lw_G
theorem gy_X8_isNode : GoodIn lw_G wyX8_isNode := gI_Y gw_4_144
noncomputable def wyX8_keepFault : List Cond := .code yX8_keepFault cX8_keepFault 2 none :: lw_G
theorem gy_X8_keepFault : GoodIn lw_G wyX8_keepFault := gI_Y gw_3_210
noncomputable def wyX8_node : List Cond := .code yX8_node cX8_node 3 (some .int) :: lw_G
theorem gy_X8_node : GoodIn lw_G wyX8_node := gI_Y gw_4_140
noncomputable def wyX8_order : List Cond := .code yX8_order cX8_order 2 (some .int) :: lw_G
theorem gy_X8_order : GoodIn lw_G wyX8_order := gI_Y gw_4_231
noncomputable def wyX8_own : List Cond := .code yX8_own cX8_own 3 (some .boolean) :: lw_G
theorem gy_X8_own : GoodIn lw_G wyX8_own := gI_Y gw_4_152
noncomputable def wyX8_putWord : List Cond := .code yX8_putWord cX8_putWord 3 none :: lw_G
theorem gy_X8_putWord : GoodIn lw_G wyX8_putWord := gI_Y gw_2_207
noncomputable def wyX8_rule : List Cond := .code yX8_rule cX8_rule 3 (some .int) :: lw_G
theorem gy_X8_rule : GoodIn lw_G wyX8_rule := gI_Y gw_4_123
noncomputable def wyX8_symbol : List Cond := .code yX8_symbol cX8_symbol 3 (some .int) :: lw_G
theorem gy_X8_symbol : GoodIn lw_G wyX8_symbol := gI_Y gw_4_107
noncomputable def wyX8_symbolOf : List Cond := .code yX8_symbolOf cX8_symbolOf 2 (some .int) :: lw_G
theorem gy_X8_symbolOf : GoodIn lw_G wyX8_symbolOf := gI_Y gw_4_148
noncomputable def wyX8_test : List Cond := .code yX8_test cX8_test 2 (some .int) :: lw_G
theorem gy_X8_test : GoodIn lw_G wyX8_test := gI_Y gw_4_128
noncomputable def wyX8_tree : List Cond := .code yX8_tree cX8_tree 3 (some .int) :: lw_G
theorem gy_X8_tree : GoodIn lw_G wyX8_tree := gI_Y gw_4_62
noncomputable def wyX8_value : List Cond := .code yX8_value cX8_value 5 (some .int) :: lw_G
theorem gy_X8_value : GoodIn lw_G wyX8_value := gI_Y gw_4_226
noncomputable def wyX9_about : List Cond := .code yX9_about cX9_about 2 (some .int) :: lw_G
theorem gy_X9_about : GoodIn lw_G wyX9_about := gI_Y gw_7_111
noncomputable def wyX9_allCan : List Cond := .code yX9_allCan cX9_allCan 4 (some .boolean) :: lw_G
theorem gy_X9_allCan : GoodIn lw_G wyX9_allCan := gI_Y gw_6_206
noncomputable def wyX9_attribute : List Cond := .code yX9_attribute cX9_attribute 3 none :: lw_G
theorem gy_X9_attribute : GoodIn lw_G wyX9_attribute := gI_Y gw_6_87
noncomputable def wyX9_attributeOf : List Cond := .code yX9_attributeOf cX9_attributeOf 6 (some .int) :: lw_G
theorem gy_X9_attributeOf : GoodIn lw_G wyX9_attributeOf := gI_Y gw_6_91
noncomputable def wyX9_begins : List Cond := .code yX9_begins cX9_begins 6 (some .int) :: lw_G
theorem gy_X9_begins : GoodIn lw_G wyX9_begins := gI_Y gw_7_31
noncomputable def wyX9_bitOf : List Cond := .code yX9_bitOf cX9_bitOf 4 (some .int) :: lw_G
theorem gy_X9_bitOf : GoodIn lw_G wyX9_bitOf := gI_Y gw_6_218
noncomputable def wyX9_blanks : List Cond := .code yX9_blanks cX9_blanks 1 none :: lw_G
theorem gy_X9_blanks : GoodIn lw_G wyX9_blanks := gI_Y gw_6_37
noncomputable def wyX9_chooses : List Cond := .code yX9_chooses cX9_chooses 10 (some .boolean) :: lw_G
theorem gy_X9_chooses : GoodIn lw_G wyX9_chooses := gI_Y gw_7_2
noncomputable def wyX9_comes : List Cond := .code yX9_comes cX9_comes 4 none :: lw_G
theorem gy_X9_comes : GoodIn lw_G wyX9_comes := gI_Y gw_6_202
noncomputable def wyX9_counts : List Cond := .code yX9_counts cX9_counts 1 none :: lw_G
theorem gy_X9_counts : GoodIn lw_G wyX9_counts := gI_Y gw_6_144
noncomputable def wyX9_demand : List Cond := .code yX9_demand cX9_demand 7 (some .int) :: lw_G
theorem gy_X9_demand : GoodIn lw_G wyX9_demand := gI_Y gw_7_63
noncomputable def wyX9_does : List Cond := .code yX9_does cX9_does 5 (some .int) :: lw_G
theorem gy_X9_does : GoodIn lw_G wyX9_does := gI_Y gw_7_87
noncomputable def wyX9_end : List Cond := .code yX9_end cX9_end 2 (some .int) :: lw_G
theorem gy_X9_end : GoodIn lw_G wyX9_end := gI_Y gw_6_14
noncomputable def wyX9_ends : List Cond := .code yX9_ends cX9_ends 2 none :: lw_G
theorem gy_X9_ends : GoodIn lw_G wyX9_ends := gI_Y gw_6_186
noncomputable def wyX9_enter : List Cond := .code yX9_enter cX9_enter 3 none :: lw_G
theorem gy_X9_enter : GoodIn lw_G wyX9_enter := gI_Y gw_6_132
noncomputable def wyX9_equation : List Cond := .code yX9_equation cX9_equation 5 none :: lw_G
theorem gy_X9_equation : GoodIn lw_G wyX9_equation := gI_Y gw_6_115
noncomputable def wyX9_equationOf : List Cond := .code yX9_equationOf cX9_equationOf 3 (some .int) :: lw_G
theorem gy_X9_equationOf : GoodIn lw_G wyX9_equationOf := gI_Y gw_7_75
noncomputable def wyX9_exact : List Cond := .code yX9_exact cX9_exact 3 none :: lw_G
theorem gy_X9_exact : GoodIn lw_G wyX9_exact := gI_Y gw_6_238
noncomputable def wyX9_expression : List Cond := .code yX9_expression cX9_expression 2 none :: lw_G
theorem gy_X9_expression : GoodIn lw_G wyX9_expression := gI_Y gw_6_128
noncomputable def wyX9_fails : List Cond := .code yX9_fails cX9_fails 3 none :: lw_G
theorem gy_X9_fails : GoodIn lw_G wyX9_fails := gI_Y gw_6_71
noncomputable def wyX9_fault : List Cond := .code yX9_fault cX9_fault 2 (some .int) :: lw_G
theorem gy_X9_fault : GoodIn lw_G wyX9_fault := gI_Y gw_7_23
noncomputable def wyX9_feed : List Cond := .code yX9_feed cX9_feed 6 (some .int) :: lw_G
theorem gy_X9_feed : GoodIn lw_G wyX9_feed := gI_Y gw_6_6
noncomputable def wyX9_forgets : List Cond := .code yX9_forgets cX9_forgets 2 none :: lw_G
theorem gy_X9_forgets : GoodIn lw_G wyX9_forgets := gI_Y gw_7_35
noncomputable def wyX9_goesRound : List Cond := .code yX9_goesRound cX9_goesRound 3 (some .boolean) :: lw_G
theorem gy_X9_goesRound : GoodIn lw_G wyX9_goesRound := gI_Y gw_6_230
noncomputable def wyX9_grammar : List Cond := .code yX9_grammar cX9_grammar 2 (some .int) :: lw_G
theorem gy_X9_grammar : GoodIn lw_G wyX9_grammar := gI_Y gw_6_21
noncomputable def wyX9_graph : List Cond := .code yX9_graph cX9_graph 3 (some .int) :: lw_G
theorem gy_X9_graph : GoodIn lw_G wyX9_graph := gI_Y gw_7_43
noncomputable def wyX9_graphAt : List Cond := .code yX9_graphAt cX9_graphAt 5 (some .int) :: lw_G
theorem gy_X9_graphAt : GoodIn lw_G wyX9_graphAt := gI_Y gw_7_11
noncomputable def wyX9_headGraph : List Cond := .code yX9_headGraph cX9_headGraph 6 (some .int) :: lw_G
theorem gy_X9_headGraph : GoodIn lw_G wyX9_headGraph := gI_Y gw_6_234
noncomputable def wyX9_in : List Cond := .code yX9_in cX9_in 3 (some .boolean) :: lw_G
theorem gy_X9_in : GoodIn lw_G wyX9_in := gI_Y gw_6_17
noncomputable def wyX9_inheritedOf : List Cond := .code yX9_inheritedOf cX9_inheritedOf 4 (some .int) :: lw_G
theorem gy_X9_inheritedOf : GoodIn lw_G wyX9_inheritedOf := gI_Y gw_6_226
noncomputable def wyX9_init : List Cond := .code yX9_init cX9_init 1 none :: lw_G
theorem gy_X9_init : GoodIn lw_G wyX9_init := gI_Y gw_5_0
noncomputable def wyX9_isAhead : List Cond := .code yX9_isAhead cX9_isAhead 2 (some .boolean) :: lw_G
theorem gy_X9_isAhead : GoodIn lw_G wyX9_isAhead := gI_Y gw_6_156
noncomputable def wyX9_isAttribute : List Cond := .code yX9_isAttribute cX9_isAttribute 3 (some .boolean) :: lw_G
theorem gy_X9_isAttribute : GoodIn lw_G wyX9_isAttribute := gI_Y gw_7_67
noncomputable def wyX9_isName : List Cond := .code yX9_isName cX9_isName 1 (some .boolean) :: lw_G
theorem gy_X9_isName : GoodIn lw_G wyX9_isName := gI_Y gw_6_79
noncomputable def wyX9_isSign : List Cond := .code yX9_isSign cX9_isSign 2 (some .boolean) :: lw_G
theorem gy_X9_isSign : GoodIn lw_G wyX9_isSign := gI_Y gw_6_99
noncomputable def wyX9_isTold : List Cond := .code yX9_isTold cX9_isTold 4 (some .boolean) :: lw_G
theorem gy_X9_isTold : GoodIn lw_G wyX9_isTold := gI_Y gw_6_124
noncomputable def wyX9_isWell : List Cond := .code yX9_isWell cX9_isWell 1 (some .boolean) :: lw_G
theorem gy_X9_isWell : GoodIn lw_G wyX9_isWell := gI_Y gw_6_63
noncomputable def wyX9_isWord : List Cond := .code yX9_isWord cX9_isWord 2 (some .boolean) :: lw_G
theorem gy_X9_isWord : GoodIn lw_G wyX9_isWord := gI_Y gw_6_59
noncomputable def wyX9_lacks : List Cond := .code yX9_lacks cX9_lacks 4 none :: lw_G
theorem gy_X9_lacks : GoodIn lw_G wyX9_lacks := gI_Y gw_6_194
noncomputable def wyX9_letterOf : List Cond := .code yX9_letterOf cX9_letterOf 1 (some .int) :: lw_G
theorem gy_X9_letterOf : GoodIn lw_G wyX9_letterOf := gI_Y gw_6_40
noncomputable def wyX9_levelOf : List Cond := .code yX9_levelOf cX9_levelOf 2 (some .int) :: lw_G
theorem gy_X9_levelOf : GoodIn lw_G wyX9_levelOf := gI_Y gw_6_171
noncomputable def wyX9_marks : List Cond := .code yX9_marks cX9_marks 4 none :: lw_G
theorem gy_X9_marks : GoodIn lw_G wyX9_marks := gI_Y gw_7_15
noncomputable def wyX9_name : List Cond := .code yX9_name cX9_name 3 none :: lw_G
theorem gy_X9_name : GoodIn lw_G wyX9_name := gI_Y gw_6_44
noncomputable def wyX9_namedBy : List Cond := .code yX9_namedBy cX9_namedBy 3 (some .int) :: lw_G
theorem gy_X9_namedBy : GoodIn lw_G wyX9_namedBy := gI_Y gw_7_95
noncomputable def wyX9_nests : List Cond := .code yX9_nests cX9_nests 1 none :: lw_G
theorem gy_X9_nests : GoodIn lw_G wyX9_nests := gI_Y gw_6_136
noncomputable def wyX9_next : List Cond := .code yX9_next cX9_next 2 none :: lw_G
theorem gy_X9_next : GoodIn lw_G wyX9_next := gI_Y gw_6_33
noncomputable def wyX9_node : List Cond := .code yX9_node cX9_node 3 (some .int) :: lw_G
theorem gy_X9_node : GoodIn lw_G wyX9_node := gI_Y gw_7_55
noncomputable def wyX9_number : List Cond := .code yX9_number cX9_number 1 none :: lw_G
theorem gy_X9_number : GoodIn lw_G wyX9_number := gI_Y gw_6_164
noncomputable def wyX9_occ : List Cond := .code yX9_occ cX9_occ 4 none :: lw_G
theorem gy_X9_occ : GoodIn lw_G wyX9_occ := gI_Y gw_6_160
noncomputable def wyX9_occurs : List Cond := .code yX9_occurs cX9_occurs 2 none :: lw_G
theorem gy_X9_occurs : GoodIn lw_G wyX9_occurs := gI_Y gw_6_119
noncomputable def wyX9_order : List Cond := .code yX9_order cX9_order 3 none :: lw_G
theorem gy_X9_order : GoodIn lw_G wyX9_order := gI_Y gw_6_152
noncomputable def wyX9_order_ : List Cond := .code yX9_order_ cX9_order_ 2 (some .int) :: lw_G
theorem gy_X9_order_ : GoodIn lw_G wyX9_order_ := gI_Y gw_7_107
noncomputable def wyX9_own : List Cond := .code yX9_own cX9_own 3 (some .boolean) :: lw_G
theorem gy_X9_own : GoodIn lw_G wyX9_own := gI_Y gw_7_59
noncomputable def wyX9_part : List Cond := .code yX9_part cX9_part 2 none :: lw_G
theorem gy_X9_part : GoodIn lw_G wyX9_part := gI_Y gw_6_148
noncomputable def wyX9_passes : List Cond := .code yX9_passes cX9_passes 1 none :: lw_G
theorem gy_X9_passes : GoodIn lw_G wyX9_passes := gI_Y gw_6_140
noncomputable def wyX9_place : List Cond := .code yX9_place cX9_place 4 none :: lw_G
theorem gy_X9_place : GoodIn lw_G wyX9_place := gI_Y gw_6_111
noncomputable def wyX9_plains : List Cond := .code yX9_plains cX9_plains 5 none :: lw_G
theorem gy_X9_plains : GoodIn lw_G wyX9_plains := gI_Y gw_6_210
noncomputable def wyX9_put : List Cond := .code yX9_put cX9_put 2 none :: lw_G
theorem gy_X9_put : GoodIn lw_G wyX9_put := gI_Y gw_6_10
noncomputable def wyX9_rankOf : List Cond := .code yX9_rankOf cX9_rankOf 5 (some .int) :: lw_G
theorem gy_X9_rankOf : GoodIn lw_G wyX9_rankOf := gI_Y gw_6_222
noncomputable def wyX9_reads : List Cond := .code yX9_reads cX9_reads 3 none :: lw_G
theorem gy_X9_reads : GoodIn lw_G wyX9_reads := gI_Y gw_6_29
noncomputable def wyX9_rule : List Cond := .code yX9_rule cX9_rule 3 none :: lw_G
theorem gy_X9_rule : GoodIn lw_G wyX9_rule := gI_Y gw_6_103
noncomputable def wyX9_ruleOf : List Cond := .code yX9_ruleOf cX9_ruleOf 6 (some .int) :: lw_G
theorem gy_X9_ruleOf : GoodIn lw_G wyX9_ruleOf := gI_Y gw_6_107
noncomputable def wyX9_rule_ : List Cond := .code yX9_rule_ cX9_rule_ 3 (some .int) :: lw_G
theorem gy_X9_rule_ : GoodIn lw_G wyX9_rule_ := gI_Y gw_7_47
noncomputable def wyX9_second : List Cond := .code yX9_second cX9_second 2 none :: lw_G
theorem gy_X9_second : GoodIn lw_G wyX9_second := gI_Y gw_6_182
noncomputable def wyX9_settles : List Cond := .code yX9_settles cX9_settles 2 none :: lw_G
theorem gy_X9_settles : GoodIn lw_G wyX9_settles := gI_Y gw_7_19
noncomputable def wyX9_sign : List Cond := .code yX9_sign cX9_sign 2 none :: lw_G
theorem gy_X9_sign : GoodIn lw_G wyX9_sign := gI_Y gw_6_55
noncomputable def wyX9_signed : List Cond := .code yX9_signed cX9_signed 5 none :: lw_G
theorem gy_X9_signed : GoodIn lw_G wyX9_signed := gI_Y gw_7_99
noncomputable def wyX9_signs : List Cond := .code yX9_signs cX9_signs 2 none :: lw_G
theorem gy_X9_signs : GoodIn lw_G wyX9_signs := gI_Y gw_6_168
noncomputable def wyX9_stray : List Cond := .code yX9_stray cX9_stray 1 none :: lw_G
theorem gy_X9_stray : GoodIn lw_G wyX9_stray := gI_Y gw_6_67
noncomputable def wyX9_symbol : List Cond := .code yX9_symbol cX9_symbol 3 none :: lw_G
theorem gy_X9_symbol : GoodIn lw_G wyX9_symbol := gI_Y gw_6_75
noncomputable def wyX9_symbolOf : List Cond := .code yX9_symbolOf cX9_symbolOf 5 (some .int) :: lw_G
theorem gy_X9_symbolOf : GoodIn lw_G wyX9_symbolOf := gI_Y gw_6_83
noncomputable def wyX9_symbol_ : List Cond := .code yX9_symbol_ cX9_symbol_ 3 (some .int) :: lw_G
theorem gy_X9_symbol_ : GoodIn lw_G wyX9_symbol_ := gI_Y gw_7_39
noncomputable def wyX9_takes : List Cond := .code yX9_takes cX9_takes 2 none :: lw_G
theorem gy_X9_takes : GoodIn lw_G wyX9_takes := gI_Y gw_6_95
noncomputable def wyX9_takesTape : List Cond := .code yX9_takesTape cX9_takesTape 2 none :: lw_G
theorem gy_X9_takesTape : GoodIn lw_G wyX9_takesTape := gI_Y gw_6_25
noncomputable def wyX9_tellerOf : List Cond := .code yX9_tellerOf cX9_tellerOf 3 (some .int) :: lw_G
theorem gy_X9_tellerOf : GoodIn lw_G wyX9_tellerOf := gI_Y gw_7_79
noncomputable def wyX9_test : List Cond := .code yX9_test cX9_test 4 (some .int) :: lw_G
theorem gy_X9_test : GoodIn lw_G wyX9_test := gI_Y gw_7_51
noncomputable def wyX9_tests : List Cond := .code yX9_tests cX9_tests 1 none :: lw_G
theorem gy_X9_tests : GoodIn lw_G wyX9_tests := gI_Y gw_6_198
noncomputable def wyX9_tree : List Cond := .code yX9_tree cX9_tree 5 (some .int) :: lw_G
theorem gy_X9_tree : GoodIn lw_G wyX9_tree := gI_Y gw_7_27
noncomputable def wyX9_value : List Cond := .code yX9_value cX9_value 3 none :: lw_G
theorem gy_X9_value : GoodIn lw_G wyX9_value := gI_Y gw_7_91
noncomputable def wyX9_value_ : List Cond := .code yX9_value_ cX9_value_ 5 (some .int) :: lw_G
theorem gy_X9_value_ : GoodIn lw_G wyX9_value_ := gI_Y gw_7_103
noncomputable def wyX9_waitsOn : List Cond := .code yX9_waitsOn cX9_waitsOn 2 none :: lw_G
theorem gy_X9_waitsOn : GoodIn lw_G wyX9_waitsOn := gI_Y gw_7_71
noncomputable def wyX9_ways : List Cond := .code yX9_ways cX9_ways 6 none :: lw_G
theorem gy_X9_ways : GoodIn lw_G wyX9_ways := gI_Y gw_6_214
noncomputable def wyX9_waysOf : List Cond := .code yX9_waysOf cX9_waysOf 5 (some .long) :: lw_G
theorem gy_X9_waysOf : GoodIn lw_G wyX9_waysOf := gI_Y gw_7_6
noncomputable def wyX9_word : List Cond := .code yX9_word cX9_word 2 none :: lw_G
theorem gy_X9_word : GoodIn lw_G wyX9_word := gI_Y gw_6_190
noncomputable def wyX9_wordOf : List Cond := .code yX9_wordOf cX9_wordOf 1 (some .int) :: lw_G
theorem gy_X9_wordOf : GoodIn lw_G wyX9_wordOf := gI_Y gw_6_48
noncomputable def wyX9_works : List Cond := .code yX9_works cX9_works 4 none :: lw_G
theorem gy_X9_works : GoodIn lw_G wyX9_works := gI_Y gw_7_83
theorem gc_L_13 : GoodIn lw_G (wsV RL 13 RX8 yX8_feed wyX8_feed) := gI_V gw_2_200 gw_2_201 gw_2_202 gw_1_1 gy_X8_feed
theorem gc_L_17 : GoodIn lw_G (wsV RL 17 RX9 yX9_feed wyX9_feed) := gI_V gw_6_3 gw_6_4 gw_6_5 gw_1_10 gy_X9_feed
theorem gc_L_18 : GoodIn lw_G (wsV RL 18 RX8 yX8_end wyX8_end) := gI_V gw_2_208 gw_2_209 gw_2_210 gw_1_1 gy_X8_end
theorem gc_L_22 : GoodIn lw_G (wsV RL 22 RX9 yX9_end wyX9_end) := gI_V gw_6_11 gw_6_12 gw_6_13 gw_1_10 gy_X9_end
theorem gc_L_23 : GoodIn lw_G (wsV RL 23 RX8 yX8_grammar wyX8_grammar) := gI_V gw_2_212 gw_2_213 gw_2_214 gw_1_1 gy_X8_grammar
theorem gc_L_27 : GoodIn lw_G (wsV RL 27 RX9 yX9_grammar wyX9_grammar) := gI_V gw_6_18 gw_6_19 gw_6_20 gw_1_10 gy_X9_grammar
theorem gc_L_28 : GoodIn lw_G (wsV RL 28 RX8 yX8_tree wyX8_tree) := gI_V gw_4_59 gw_4_60 gw_4_61 gw_1_1 gy_X8_tree
theorem gc_L_31 : GoodIn lw_G (wsV RL 31 RX9 yX9_tree wyX9_tree) := gI_V gw_7_24 gw_7_25 gw_7_26 gw_1_10 gy_X9_tree
theorem gc_L_32 : GoodIn lw_G (wsV RL 32 RX8 yX8_fault wyX8_fault) := gI_V gw_4_100 gw_4_101 gw_4_102 gw_1_1 gy_X8_fault
theorem gc_L_35 : GoodIn lw_G (wsV RL 35 RX9 yX9_fault wyX9_fault) := gI_V gw_7_20 gw_7_21 gw_7_22 gw_1_10 gy_X9_fault
theorem gc_L_36 : GoodIn lw_G (wsV RL 36 RX8 yX8_symbol wyX8_symbol) := gI_V gw_4_104 gw_4_105 gw_4_106 gw_1_1 gy_X8_symbol
theorem gc_L_40 : GoodIn lw_G (wsV RL 40 RX9 yX9_symbol_ wyX9_symbol_) := gI_V gw_7_36 gw_7_37 gw_7_38 gw_1_10 gy_X9_symbol_
theorem gc_L_41 : GoodIn lw_G (wsV RL 41 RX8 yX8_graph wyX8_graph) := gI_V gw_4_116 gw_4_117 gw_4_118 gw_1_1 gy_X8_graph
theorem gc_L_44 : GoodIn lw_G (wsV RL 44 RX9 yX9_graph wyX9_graph) := gI_V gw_7_40 gw_7_41 gw_7_42 gw_1_10 gy_X9_graph
theorem gc_L_45 : GoodIn lw_G (wsV RL 45 RX8 yX8_rule wyX8_rule) := gI_V gw_4_120 gw_4_121 gw_4_122 gw_1_1 gy_X8_rule
theorem gc_L_48 : GoodIn lw_G (wsV RL 48 RX9 yX9_rule_ wyX9_rule_) := gI_V gw_7_44 gw_7_45 gw_7_46 gw_1_10 gy_X9_rule_
theorem gc_L_49 : GoodIn lw_G (wsV RL 49 RX8 yX8_test wyX8_test) := gI_V gw_4_125 gw_4_126 gw_4_127 gw_1_1 gy_X8_test
theorem gc_L_52 : GoodIn lw_G (wsV RL 52 RX9 yX9_test wyX9_test) := gI_V gw_7_48 gw_7_49 gw_7_50 gw_1_10 gy_X9_test
theorem gc_L_53 : GoodIn lw_G (wsV RL 53 RX8 yX8_node wyX8_node) := gI_V gw_4_137 gw_4_138 gw_4_139 gw_1_1 gy_X8_node
theorem gc_L_56 : GoodIn lw_G (wsV RL 56 RX9 yX9_node wyX9_node) := gI_V gw_7_52 gw_7_53 gw_7_54 gw_1_10 gy_X9_node
theorem gc_L_57 : GoodIn lw_G (wsV RL 57 RX8 yX8_own wyX8_own) := gI_V gw_4_149 gw_4_150 gw_4_151 gw_1_1 gy_X8_own
theorem gc_L_61 : GoodIn lw_G (wsV RL 61 RX9 yX9_own wyX9_own) := gI_V gw_7_56 gw_7_57 gw_7_58 gw_1_10 gy_X9_own
theorem gc_L_62 : GoodIn lw_G (wsV RL 62 RX8 yX8_demand wyX8_demand) := gI_V gw_4_154 gw_4_155 gw_4_156 gw_1_1 gy_X8_demand
theorem gc_L_65 : GoodIn lw_G (wsV RL 65 RX9 yX9_demand wyX9_demand) := gI_V gw_7_60 gw_7_61 gw_7_62 gw_1_10 gy_X9_demand
theorem gc_L_66 : GoodIn lw_G (wsV RL 66 RX8 yX8_value wyX8_value) := gI_V gw_4_223 gw_4_224 gw_4_225 gw_1_1 gy_X8_value
theorem gc_L_70 : GoodIn lw_G (wsV RL 70 RX9 yX9_value_ wyX9_value_) := gI_V gw_7_100 gw_7_101 gw_7_102 gw_1_10 gy_X9_value_
theorem gc_L_71 : GoodIn lw_G (wsV RL 71 RX8 yX8_order wyX8_order) := gI_V gw_4_228 gw_4_229 gw_4_230 gw_1_1 gy_X8_order
theorem gc_L_74 : GoodIn lw_G (wsV RL 74 RX9 yX9_order_ wyX9_order_) := gI_V gw_7_104 gw_7_105 gw_7_106 gw_1_10 gy_X9_order_
theorem gc_L_75 : GoodIn lw_G (wsV RL 75 RX8 yX8_about wyX8_about) := gI_V gw_4_232 gw_4_233 gw_4_234 gw_1_1 gy_X8_about
theorem gc_L_78 : GoodIn lw_G (wsV RL 78 RX9 yX9_about wyX9_about) := gI_V gw_7_108 gw_7_109 gw_7_110 gw_1_10 gy_X9_about
theorem gc_X0_100 : GoodIn lw_G (wsV RX0 100 RX0 yX0_isOneTooMany wyX0_isOneTooMany) := gI_V gw_3_37 gw_3_39 gs_X0_isOneTooMany gw_1_6 gy_X0_isOneTooMany
theorem gc_X0_103 : GoodIn lw_G (wsV RX0 103 RX1 yX1_symbolAt wyX1_symbolAt) := gI_V gw_3_81 gw_3_82 gw_3_83 gw_1_2 gy_X1_symbolAt
theorem gc_X0_110 : GoodIn lw_G (wsV RX0 110 RX1 yX1_findAttribute wyX1_findAttribute) := gI_V gw_3_85 gw_3_86 gw_3_87 gw_1_2 gy_X1_findAttribute
theorem gc_X0_118 : GoodIn lw_G (wsV RX0 118 RX1 yX1_addCode wyX1_addCode) := gI_V gw_3_46 gw_3_47 gw_3_48 gw_1_2 gy_X1_addCode
theorem gc_X0_122 : GoodIn lw_G (wsV RX0 122 RX0 yX0_settle wyX0_settle) := gI_V gw_3_50 gw_3_52 gs_X0_settle gw_1_6 gy_X0_settle
theorem gc_X0_126 : GoodIn lw_G (wsV RX0 126 RX0 yX0_await wyX0_await) := gI_V gw_3_61 gw_3_63 gs_X0_await gw_1_6 gy_X0_await
theorem gc_X0_129 : GoodIn lw_G (wsV RX0 129 RX0 yX0_binary wyX0_binary) := gI_V gw_3_93 gw_3_95 gs_X0_binary gw_1_6 gy_X0_binary
theorem gc_X0_132 : GoodIn lw_G (wsV RX0 132 RX0 yX0_compare wyX0_compare) := gI_V gw_3_97 gw_3_99 gs_X0_compare gw_1_6 gy_X0_compare
theorem gc_X0_135 : GoodIn lw_G (wsV RX0 135 RX0 yX0_closeParenthesis wyX0_closeParenthesis) := gI_V gw_3_101 gw_3_103 gs_X0_closeParenthesis gw_1_6 gy_X0_closeParenthesis
theorem gc_X0_138 : GoodIn lw_G (wsV RX0 138 RX0 yX0_turn wyX0_turn) := gI_V gw_3_105 gw_3_107 gs_X0_turn gw_1_6 gy_X0_turn
theorem gc_X0_141 : GoodIn lw_G (wsV RX0 141 RX0 yX0_finish wyX0_finish) := gI_V gw_3_109 gw_3_111 gs_X0_finish gw_1_6 gy_X0_finish
theorem gc_X0_144 : GoodIn lw_G (wsV RX0 144 RX0 yX0_top wyX0_top) := gI_V gw_3_69 gw_3_71 gs_X0_top gw_1_6 gy_X0_top
theorem gc_X0_153 : GoodIn lw_G (va_wsS RX0 153 yX0_bindingOf wyX0_bindingOf) := gI_S gw_3_54 gw_3_55 gw_1_6 gy_X0_bindingOf
theorem gc_X0_57 : GoodIn lw_G (wsV RX0 57 RX0 yX0_operand wyX0_operand) := gI_V gw_3_25 gw_3_27 gs_X0_operand gw_1_6 gy_X0_operand
theorem gc_X0_61 : GoodIn lw_G (wsV RX0 61 RX0 yX0_occDot wyX0_occDot) := gI_V gw_3_73 gw_3_75 gs_X0_occDot gw_1_6 gy_X0_occDot
theorem gc_X0_64 : GoodIn lw_G (wsV RX0 64 RX0 yX0_occName wyX0_occName) := gI_V gw_3_77 gw_3_79 gs_X0_occName gw_1_6 gy_X0_occName
theorem gc_X0_67 : GoodIn lw_G (wsV RX0 67 RX0 yX0_operator wyX0_operator) := gI_V gw_3_89 gw_3_91 gs_X0_operator gw_1_6 gy_X0_operator
theorem gc_X0_75 : GoodIn lw_G (wsV RX0 75 RX3 yX3_hasDotBehind wyX3_hasDotBehind) := gI_V gw_3_29 gw_3_30 gw_3_31 gw_1_4 gy_X3_hasDotBehind
theorem gc_X0_79 : GoodIn lw_G (wsV RX0 79 RX0 yX0_occNumber wyX0_occNumber) := gI_V gw_3_33 gw_3_35 gs_X0_occNumber gw_1_6 gy_X0_occNumber
theorem gc_X0_86 : GoodIn lw_G (wsV RX0 86 RX0 yX0_emitOperand wyX0_emitOperand) := gI_V gw_3_41 gw_3_43 gs_X0_emitOperand gw_1_6 gy_X0_emitOperand
theorem gc_X0_90 : GoodIn lw_G (wsV RX0 90 RX0 yX0_open wyX0_open) := gI_V gw_3_57 gw_3_59 gs_X0_open gw_1_6 gy_X0_open
theorem gc_X0_94 : GoodIn lw_G (wsV RX0 94 RX0 yX0_topBinds wyX0_topBinds) := gI_V gw_3_65 gw_3_67 gs_X0_topBinds gw_1_6 gy_X0_topBinds
theorem gc_X2_104 : GoodIn lw_G (wsV RX2 104 RX1 yX1_addSymbol wyX1_addSymbol) := gI_V gw_3_129 gw_3_130 gw_3_131 gw_1_2 gy_X1_addSymbol
theorem gc_X2_108 : GoodIn lw_G (wsV RX2 108 RX1 yX1_findAttribute wyX1_findAttribute) := gI_V gw_3_145 gw_3_86 gw_3_87 gw_1_2 gy_X1_findAttribute
theorem gc_X2_116 : GoodIn lw_G (wsV RX2 116 RX1 yX1_addAttribute wyX1_addAttribute) := gI_V gw_3_146 gw_3_147 gw_3_148 gw_1_2 gy_X1_addAttribute
theorem gc_X2_120 : GoodIn lw_G (wsV RX2 120 RX2 yX2_ruleName wyX2_ruleName) := gI_V gw_3_158 gw_3_160 gs_X2_ruleName gw_1_5 gy_X2_ruleName
theorem gc_X2_126 : GoodIn lw_G (wsV RX2 126 RX2 yX2_ruleHead wyX2_ruleHead) := gI_V gw_3_170 gw_3_172 gs_X2_ruleHead gw_1_5 gy_X2_ruleHead
theorem gc_X2_129 : GoodIn lw_G (wsV RX2 129 RX2 yX2_ruleChild wyX2_ruleChild) := gI_V gw_3_174 gw_3_176 gs_X2_ruleChild gw_1_5 gy_X2_ruleChild
theorem gc_X2_132 : GoodIn lw_G (wsV RX2 132 RX2 yX2_ruleBody wyX2_ruleBody) := gI_V gw_3_178 gw_3_180 gs_X2_ruleBody gw_1_5 gy_X2_ruleBody
theorem gc_X2_135 : GoodIn lw_G (wsV RX2 135 RX2 yX2_behindRule wyX2_behindRule) := gI_V gw_3_191 gw_3_193 gs_X2_behindRule gw_1_5 gy_X2_behindRule
theorem gc_X2_138 : GoodIn lw_G (wsV RX2 138 RX1 yX1_findRule wyX1_findRule) := gI_V gw_3_162 gw_3_163 gw_3_164 gw_1_2 gy_X1_findRule
theorem gc_X2_141 : GoodIn lw_G (wsV RX2 141 RX1 yX1_addRule wyX1_addRule) := gI_V gw_3_166 gw_3_167 gw_3_168 gw_1_2 gy_X1_addRule
theorem gc_X2_150 : GoodIn lw_G (wsV RX2 150 RX2 yX2_lacksEquation wyX2_lacksEquation) := gI_V gw_3_182 gw_3_184 gs_X2_lacksEquation gw_1_5 gy_X2_lacksEquation
theorem gc_X2_160 : GoodIn lw_G (wsV RX2 160 RX1 yX1_symbolAt wyX1_symbolAt) := gI_V gw_3_186 gw_3_82 gw_3_83 gw_1_2 gy_X1_symbolAt
theorem gc_X2_163 : GoodIn lw_G (wsV RX2 163 RX1 yX1_mayTell wyX1_mayTell) := gI_V gw_3_187 gw_3_188 gw_3_189 gw_1_2 gy_X1_mayTell
theorem gc_X2_170 : GoodIn lw_G (wsV RX2 170 RX2 yX2_targetName wyX2_targetName) := gI_V gw_3_199 gw_3_201 gs_X2_targetName gw_1_5 gy_X2_targetName
theorem gc_X2_173 : GoodIn lw_G (wsV RX2 173 RX0 yX0_begin wyX0_begin) := gI_V gw_3_203 gw_3_204 gw_3_205 gw_1_6 gy_X0_begin
theorem gc_X2_42 : GoodIn lw_G (wsV RX2 42 RX1 yX1_clear wyX1_clear) := gI_V gw_2_220 gw_2_221 gw_2_222 gw_1_2 gy_X1_clear
theorem gc_X2_47 : GoodIn lw_G (wsV RX2 47 RX3 yX3_begin wyX3_begin) := gI_V gw_2_224 gw_2_225 gw_2_226 gw_1_4 gy_X3_begin
theorem gc_X2_53 : GoodIn lw_G (wsV RX2 53 RX3 yX3_next wyX3_next) := gI_V gw_2_231 gw_2_232 gw_2_233 gw_1_4 gy_X3_next
theorem gc_X2_56 : GoodIn lw_G (wsV RX2 56 RX0 yX0_step wyX0_step) := gI_V gw_3_21 gw_3_22 gw_3_23 gw_1_6 gy_X0_step
theorem gc_X2_60 : GoodIn lw_G (wsV RX2 60 RX2 yX2_step wyX2_step) := gI_V gw_3_113 gw_3_115 gs_X2_step gw_1_5 gy_X2_step
theorem gc_X2_64 : GoodIn lw_G (wsV RX2 64 RX2 yX2_symbolStep wyX2_symbolStep) := gI_V gw_3_117 gw_3_119 gs_X2_symbolStep gw_1_5 gy_X2_symbolStep
theorem gc_X2_67 : GoodIn lw_G (wsV RX2 67 RX2 yX2_ruleStep wyX2_ruleStep) := gI_V gw_3_154 gw_3_156 gs_X2_ruleStep gw_1_5 gy_X2_ruleStep
theorem gc_X2_70 : GoodIn lw_G (wsV RX2 70 RX2 yX2_targetStep wyX2_targetStep) := gI_V gw_3_195 gw_3_197 gs_X2_targetStep gw_1_5 gy_X2_targetStep
theorem gc_X2_76 : GoodIn lw_G (wsV RX2 76 RX2 yX2_go wyX2_go) := gI_V gw_3_133 gw_3_135 gs_X2_go gw_1_5 gy_X2_go
theorem gc_X2_80 : GoodIn lw_G (wsV RX2 80 RX2 yX2_symbolName wyX2_symbolName) := gI_V gw_3_121 gw_3_123 gs_X2_symbolName gw_1_5 gy_X2_symbolName
theorem gc_X2_83 : GoodIn lw_G (wsV RX2 83 RX2 yX2_symbolBody wyX2_symbolBody) := gI_V gw_3_137 gw_3_139 gs_X2_symbolBody gw_1_5 gy_X2_symbolBody
theorem gc_X2_86 : GoodIn lw_G (wsV RX2 86 RX2 yX2_attributeName wyX2_attributeName) := gI_V gw_3_141 gw_3_143 gs_X2_attributeName gw_1_5 gy_X2_attributeName
theorem gc_X2_89 : GoodIn lw_G (wsV RX2 89 RX2 yX2_goIf wyX2_goIf) := gI_V gw_3_150 gw_3_152 gs_X2_goIf gw_1_5 gy_X2_goIf
theorem gc_X2_97 : GoodIn lw_G (wsV RX2 97 RX1 yX1_findSymbol wyX1_findSymbol) := gI_V gw_3_125 gw_3_126 gw_3_127 gw_1_2 gy_X1_findSymbol
theorem gc_X3_41 : GoodIn lw_G (wsV RX3 41 RX3 yX3_skipBlanks wyX3_skipBlanks) := gI_V gw_2_235 gw_2_237 gs_X3_skipBlanks gw_1_4 gy_X3_skipBlanks
theorem gc_X3_45 : GoodIn lw_G (va_wsS RX3 45 yX3_isLetter wyX3_isLetter) := gI_S gw_2_239 gw_3_0 gw_1_4 gy_X3_isLetter
theorem gc_X3_49 : GoodIn lw_G (wsV RX3 49 RX3 yX3_takeLetters wyX3_takeLetters) := gI_V gw_3_2 gw_3_4 gs_X3_takeLetters gw_1_4 gy_X3_takeLetters
theorem gc_X3_52 : GoodIn lw_G (va_wsS RX3 52 yX3_isDigit wyX3_isDigit) := gI_S gw_3_9 gw_3_10 gw_1_4 gy_X3_isDigit
theorem gc_X3_55 : GoodIn lw_G (wsV RX3 55 RX3 yX3_takeDigits wyX3_takeDigits) := gI_V gw_3_12 gw_3_14 gs_X3_takeDigits gw_1_4 gy_X3_takeDigits
theorem gc_X3_58 : GoodIn lw_G (va_wsS RX3 58 yX3_isSign wyX3_isSign) := gI_S gw_3_18 gw_3_19 gw_1_4 gy_X3_isSign
theorem gc_X3_61 : GoodIn lw_G (va_wsS RX3 61 yX3_keywordOrName wyX3_keywordOrName) := gI_S gw_3_6 gw_3_7 gw_1_4 gy_X3_keywordOrName
theorem gc_X5_100 : GoodIn lw_G (wsV RX5 100 RX5 yX5_dueSymbol wyX5_dueSymbol) := gI_V gw_4_87 gw_4_89 gs_X5_dueSymbol gw_1_7 gy_X5_dueSymbol
theorem gc_X5_42 : GoodIn lw_G (wsV RX5 42 RX3 yX3_begin wyX3_begin) := gI_V gw_4_67 gw_2_225 gw_2_226 gw_1_4 gy_X3_begin
theorem gc_X5_48 : GoodIn lw_G (wsV RX5 48 RX3 yX3_next wyX3_next) := gI_V gw_4_68 gw_2_232 gw_2_233 gw_1_4 gy_X3_next
theorem gc_X5_51 : GoodIn lw_G (wsV RX5 51 RX5 yX5_step wyX5_step) := gI_V gw_4_69 gw_4_71 gs_X5_step gw_1_7 gy_X5_step
theorem gc_X5_58 : GoodIn lw_G (wsV RX5 58 RX5 yX5_openNode wyX5_openNode) := gI_V gw_4_73 gw_4_75 gs_X5_openNode gw_1_7 gy_X5_openNode
theorem gc_X5_61 : GoodIn lw_G (wsV RX5 61 RX5 yX5_ruleName wyX5_ruleName) := gI_V gw_4_81 gw_4_83 gs_X5_ruleName gw_1_7 gy_X5_ruleName
theorem gc_X5_64 : GoodIn lw_G (wsV RX5 64 RX5 yX5_ownNumber wyX5_ownNumber) := gI_V gw_4_91 gw_4_93 gs_X5_ownNumber gw_1_7 gy_X5_ownNumber
theorem gc_X5_67 : GoodIn lw_G (wsV RX5 67 RX5 yX5_childOrEnd wyX5_childOrEnd) := gI_V gw_4_96 gw_4_98 gs_X5_childOrEnd gw_1_7 gy_X5_childOrEnd
theorem gc_X5_70 : GoodIn lw_G (wsV RX5 70 RX5 yX5_go wyX5_go) := gI_V gw_4_77 gw_4_79 gs_X5_go gw_1_7 gy_X5_go
theorem gc_X5_90 : GoodIn lw_G (wsV RX5 90 RX1 yX1_findRule wyX1_findRule) := gI_V gw_4_85 gw_3_163 gw_3_164 gw_1_2 gy_X1_findRule
theorem gc_X5_96 : GoodIn lw_G (wsV RX5 96 RX1 yX1_symbolAt wyX1_symbolAt) := gI_V gw_4_86 gw_3_82 gw_3_83 gw_1_2 gy_X1_symbolAt
theorem gc_X6_100 : GoodIn lw_G (wsV RX6 100 RX6 yX6_closeRows wyX6_closeRows) := gI_V gw_4_4 gw_4_6 gs_X6_closeRows gw_1_8 gy_X6_closeRows
theorem gc_X6_103 : GoodIn lw_G (wsV RX6 103 RX6 yX6_goesRound wyX6_goesRound) := gI_V gw_4_8 gw_4_10 gs_X6_goesRound gw_1_8 gy_X6_goesRound
theorem gc_X6_107 : GoodIn lw_G (wsV RX6 107 RX6 yX6_headGraph wyX6_headGraph) := gI_V gw_4_12 gw_4_14 gs_X6_headGraph gw_1_8 gy_X6_headGraph
theorem gc_X6_111 : GoodIn lw_G (wsV RX6 111 RX6 yX6_childrenHaveTrees wyX6_childrenHaveTrees) := gI_V gw_4_20 gw_4_22 gs_X6_childrenHaveTrees gw_1_8 gy_X6_childrenHaveTrees
theorem gc_X6_114 : GoodIn lw_G (wsV RX6 114 RX6 yX6_clearExact wyX6_clearExact) := gI_V gw_4_32 gw_4_34 gs_X6_clearExact gw_1_8 gy_X6_clearExact
theorem gc_X6_117 : GoodIn lw_G (wsV RX6 117 RX6 yX6_takeNewChoices wyX6_takeNewChoices) := gI_V gw_4_36 gw_4_38 gs_X6_takeNewChoices gw_1_8 gy_X6_takeNewChoices
theorem gc_X6_120 : GoodIn lw_G (wsV RX6 120 RX6 yX6_takeChoice wyX6_takeChoice) := gI_V gw_4_44 gw_4_46 gs_X6_takeChoice gw_1_8 gy_X6_takeChoice
theorem gc_X6_124 : GoodIn lw_G (wsV RX6 124 RX6 yX6_sortGraphs wyX6_sortGraphs) := gI_V gw_4_55 gw_4_57 gs_X6_sortGraphs gw_1_8 gy_X6_sortGraphs
theorem gc_X6_127 : GoodIn lw_G (wsV RX6 127 RX6 yX6_countChoices wyX6_countChoices) := gI_V gw_4_40 gw_4_42 gs_X6_countChoices gw_1_8 gy_X6_countChoices
theorem gc_X6_135 : GoodIn lw_G (wsV RX6 135 RX6 yX6_addGraph wyX6_addGraph) := gI_V gw_4_51 gw_4_53 gs_X6_addGraph gw_1_8 gy_X6_addGraph
theorem gc_X6_144 : GoodIn lw_G (wsV RX6 144 RX1 yX1_graphBit wyX1_graphBit) := gI_V gw_4_0 gw_4_1 gw_4_2 gw_1_2 gy_X1_graphBit
theorem gc_X6_60 : GoodIn lw_G (wsV RX6 60 RX6 yX6_findPlain wyX6_findPlain) := gI_V gw_3_223 gw_3_225 gs_X6_findPlain gw_1_8 gy_X6_findPlain
theorem gc_X6_63 : GoodIn lw_G (wsV RX6 63 RX6 yX6_findTrees wyX6_findTrees) := gI_V gw_4_16 gw_4_18 gs_X6_findTrees gw_1_8 gy_X6_findTrees
theorem gc_X6_66 : GoodIn lw_G (wsV RX6 66 RX6 yX6_findComing wyX6_findComing) := gI_V gw_4_24 gw_4_26 gs_X6_findComing gw_1_8 gy_X6_findComing
theorem gc_X6_69 : GoodIn lw_G (wsV RX6 69 RX6 yX6_findExact wyX6_findExact) := gI_V gw_4_28 gw_4_30 gs_X6_findExact gw_1_8 gy_X6_findExact
theorem gc_X6_81 : GoodIn lw_G (wsV RX6 81 RX6 yX6_takePlain wyX6_takePlain) := gI_V gw_3_227 gw_3_229 gs_X6_takePlain gw_1_8 gy_X6_takePlain
theorem gc_X6_85 : GoodIn lw_G (wsV RX6 85 RX6 yX6_loadEquations wyX6_loadEquations) := gI_V gw_3_231 gw_3_233 gs_X6_loadEquations gw_1_8 gy_X6_loadEquations
theorem gc_X6_92 : GoodIn lw_G (wsV RX6 92 RX1 yX1_symbolAt wyX1_symbolAt) := gI_V gw_3_235 gw_3_82 gw_3_83 gw_1_2 gy_X1_symbolAt
theorem gc_X6_96 : GoodIn lw_G (wsV RX6 96 RX6 yX6_loadGraph wyX6_loadGraph) := gI_V gw_3_236 gw_3_238 gs_X6_loadGraph gw_1_8 gy_X6_loadGraph
theorem gc_X7_107 : GoodIn lw_G (wsV RX7 107 RX7 yX7_evaluate wyX7_evaluate) := gI_V gw_4_192 gw_4_194 gs_X7_evaluate gw_1_9 gy_X7_evaluate
theorem gc_X7_120 : GoodIn lw_G (wsV RX7 120 RX7 yX7_itemAt wyX7_itemAt) := gI_V gw_4_180 gw_4_182 gs_X7_itemAt gw_1_9 gy_X7_itemAt
theorem gc_X7_123 : GoodIn lw_G (wsV RX7 123 RX4 yX4_nodeAt wyX4_nodeAt) := gI_V gw_4_184 gw_4_185 gw_4_186 gw_1_3 gy_X4_nodeAt
theorem gc_X7_126 : GoodIn lw_G (wsV RX7 126 RX7 yX7_put wyX7_put) := gI_V gw_4_196 gw_4_198 gs_X7_put gw_1_9 gy_X7_put
theorem gc_X7_133 : GoodIn lw_G (wsV RX7 133 RX7 yX7_operate wyX7_operate) := gI_V gw_4_200 gw_4_202 gs_X7_operate gw_1_9 gy_X7_operate
theorem gc_X7_136 : GoodIn lw_G (wsV RX7 136 RX7 yX7_choose wyX7_choose) := gI_V gw_4_204 gw_4_206 gs_X7_choose gw_1_9 gy_X7_choose
theorem gc_X7_139 : GoodIn lw_G (wsV RX7 139 RX7 yX7_combine wyX7_combine) := gI_V gw_4_208 gw_4_210 gs_X7_combine gw_1_9 gy_X7_combine
theorem gc_X7_142 : GoodIn lw_G (va_wsS RX7 142 yX7_result wyX7_result) := gI_S gw_4_212 gw_4_213 gw_1_9 gy_X7_result
theorem gc_X7_58 : GoodIn lw_G (wsV RX7 58 RX7 yX7_forget wyX7_forget) := gI_V gw_3_215 gw_3_216 gw_3_217 gw_1_9 gy_X7_forget
theorem gc_X7_61 : GoodIn lw_G (wsV RX7 61 RX7 yX7_isOpen wyX7_isOpen) := gI_V gw_4_166 gw_4_168 gs_X7_isOpen gw_1_9 gy_X7_isOpen
theorem gc_X7_65 : GoodIn lw_G (wsV RX7 65 RX7 yX7_enter wyX7_enter) := gI_V gw_4_170 gw_4_172 gs_X7_enter gw_1_9 gy_X7_enter
theorem gc_X7_69 : GoodIn lw_G (wsV RX7 69 RX7 yX7_nextOpen wyX7_nextOpen) := gI_V gw_4_176 gw_4_178 gs_X7_nextOpen gw_1_9 gy_X7_nextOpen
theorem gc_X7_73 : GoodIn lw_G (wsV RX7 73 RX7 yX7_leave wyX7_leave) := gI_V gw_4_188 gw_4_190 gs_X7_leave gw_1_9 gy_X7_leave
theorem gc_X7_76 : GoodIn lw_G (wsV RX7 76 RX7 yX7_giveUp wyX7_giveUp) := gI_V gw_4_215 gw_4_217 gs_X7_giveUp gw_1_9 gy_X7_giveUp
theorem gc_X7_79 : GoodIn lw_G (wsV RX7 79 RX7 yX7_outcome wyX7_outcome) := gI_V gw_4_219 gw_4_220 gw_4_221 gw_1_9 gy_X7_outcome
theorem gc_X7_88 : GoodIn lw_G (wsV RX7 88 RX1 yX1_symbolAt wyX1_symbolAt) := gI_V gw_4_174 gw_3_82 gw_3_83 gw_1_2 gy_X1_symbolAt
theorem gc_X7_94 : GoodIn lw_G (wsV RX7 94 RX1 yX1_isInherited wyX1_isInherited) := gI_V gw_4_175 gw_4_113 gw_4_114 gw_1_2 gy_X1_isInherited
theorem gc_X8_102 : GoodIn lw_G (wsV RX8 102 RX7 yX7_begin wyX7_begin) := gI_V gw_3_211 gw_3_212 gw_3_213 gw_1_9 gy_X7_begin
theorem gc_X8_105 : GoodIn lw_G (wsV RX8 105 RX6 yX6_study wyX6_study) := gI_V gw_3_219 gw_3_220 gw_3_221 gw_1_8 gy_X6_study
theorem gc_X8_111 : GoodIn lw_G (wsV RX8 111 RX5 yX5_read wyX5_read) := gI_V gw_4_63 gw_4_64 gw_4_65 gw_1_7 gy_X5_read
theorem gc_X8_134 : GoodIn lw_G (wsV RX8 134 RX8 yX8_inheritance wyX8_inheritance) := gI_V gw_4_108 gw_4_110 gs_X8_inheritance gw_1_1 gy_X8_inheritance
theorem gc_X8_141 : GoodIn lw_G (wsV RX8 141 RX1 yX1_symbolAt wyX1_symbolAt) := gI_V gw_4_124 gw_3_82 gw_3_83 gw_1_2 gy_X1_symbolAt
theorem gc_X8_160 : GoodIn lw_G (wsV RX8 160 RX6 yX6_plainGoesRound wyX6_plainGoesRound) := gI_V gw_4_129 gw_4_130 gw_4_131 gw_1_8 gy_X6_plainGoesRound
theorem gc_X8_164 : GoodIn lw_G (wsV RX8 164 RX6 yX6_someTreeGoesRound wyX6_someTreeGoesRound) := gI_V gw_4_133 gw_4_134 gw_4_135 gw_1_8 gy_X6_someTreeGoesRound
theorem gc_X8_167 : GoodIn lw_G (wsV RX8 167 RX8 yX8_isNode wyX8_isNode) := gI_V gw_4_141 gw_4_143 gs_X8_isNode gw_1_1 gy_X8_isNode
theorem gc_X8_183 : GoodIn lw_G (wsV RX8 183 RX8 yX8_symbolOf wyX8_symbolOf) := gI_V gw_4_145 gw_4_147 gs_X8_symbolOf gw_1_1 gy_X8_symbolOf
theorem gc_X8_187 : GoodIn lw_G (wsV RX8 187 RX7 yX7_forget wyX7_forget) := gI_V gw_4_153 gw_3_216 gw_3_217 gw_1_9 gy_X7_forget
theorem gc_X8_190 : GoodIn lw_G (wsV RX8 190 RX8 yX8_isItem wyX8_isItem) := gI_V gw_4_158 gw_4_160 gs_X8_isItem gw_1_1 gy_X8_isItem
theorem gc_X8_194 : GoodIn lw_G (wsV RX8 194 RX7 yX7_workOut wyX7_workOut) := gI_V gw_4_162 gw_4_163 gw_4_164 gw_1_9 gy_X7_workOut
theorem gc_X8_197 : GoodIn lw_G (wsV RX8 197 RX7 yX7_outcome wyX7_outcome) := gI_V gw_4_227 gw_4_220 gw_4_221 gw_1_9 gy_X7_outcome
theorem gc_X8_212 : GoodIn lw_G (wsV RX8 212 RX1 yX1_isInherited wyX1_isInherited) := gI_V gw_4_112 gw_4_113 gw_4_114 gw_1_2 gy_X1_isInherited
theorem gc_X8_88 : GoodIn lw_G (wsV RX8 88 RX8 yX8_putWord wyX8_putWord) := gI_V gw_2_204 gw_2_206 gs_X8_putWord gw_1_1 gy_X8_putWord
theorem gc_X8_92 : GoodIn lw_G (wsV RX8 92 RX2 yX2_read wyX2_read) := gI_V gw_2_216 gw_2_217 gw_2_218 gw_1_5 gy_X2_read
theorem gc_X8_96 : GoodIn lw_G (wsV RX8 96 RX8 yX8_keepFault wyX8_keepFault) := gI_V gw_3_207 gw_3_209 gs_X8_keepFault gw_1_1 gy_X8_keepFault
theorem gc_X9_176 : GoodIn lw_G (wsV RX9 176 RX9 yX9_put wyX9_put) := gI_V gw_6_7 gw_6_9 gs_X9_put gw_1_10 gy_X9_put
theorem gc_X9_180 : GoodIn lw_G (va_wsS RX9 180 yX9_in wyX9_in) := gI_S gw_6_15 gw_6_16 gw_1_10 gy_X9_in
theorem gc_X9_193 : GoodIn lw_G (wsV RX9 193 RX9 yX9_fails wyX9_fails) := gI_V gw_6_68 gw_6_70 gs_X9_fails gw_1_10 gy_X9_fails
theorem gc_X9_203 : GoodIn lw_G (wsV RX9 203 RX9 yX9_blanks wyX9_blanks) := gI_V gw_6_34 gw_6_36 gs_X9_blanks gw_1_10 gy_X9_blanks
theorem gc_X9_213 : GoodIn lw_G (va_wsS RX9 213 yX9_letterOf wyX9_letterOf) := gI_S gw_6_38 gw_6_39 gw_1_10 gy_X9_letterOf
theorem gc_X9_217 : GoodIn lw_G (wsV RX9 217 RX9 yX9_name wyX9_name) := gI_V gw_6_41 gw_6_43 gs_X9_name gw_1_10 gy_X9_name
theorem gc_X9_226 : GoodIn lw_G (wsV RX9 226 RX9 yX9_sign wyX9_sign) := gI_V gw_6_52 gw_6_54 gs_X9_sign gw_1_10 gy_X9_sign
theorem gc_X9_231 : GoodIn lw_G (va_wsS RX9 231 yX9_wordOf wyX9_wordOf) := gI_S gw_6_46 gw_6_47 gw_1_10 gy_X9_wordOf
theorem gc_X9_234 : GoodIn lw_G (wsV RX9 234 RX9 yX9_isWell wyX9_isWell) := gI_V gw_6_60 gw_6_62 gs_X9_isWell gw_1_10 gy_X9_isWell
theorem gc_X9_238 : GoodIn lw_G (wsV RX9 238 RX9 yX9_isSign wyX9_isSign) := gI_V gw_6_96 gw_6_98 gs_X9_isSign gw_1_10 gy_X9_isSign
theorem gc_X9_242 : GoodIn lw_G (wsV RX9 242 RX9 yX9_next wyX9_next) := gI_V gw_6_30 gw_6_32 gs_X9_next gw_1_10 gy_X9_next
theorem gc_X9_245 : GoodIn lw_G (wsV RX9 245 RX9 yX9_stray wyX9_stray) := gI_V gw_6_64 gw_6_66 gs_X9_stray gw_1_10 gy_X9_stray
theorem gc_X9_251 : GoodIn lw_G (wsV RX9 251 RX9 yX9_isName wyX9_isName) := gI_V gw_6_76 gw_6_78 gs_X9_isName gw_1_10 gy_X9_isName
theorem gc_X9_254 : GoodIn lw_G (wsV RX9 254 RX9 yX9_symbolOf wyX9_symbolOf) := gI_V gw_6_80 gw_6_82 gs_X9_symbolOf gw_1_10 gy_X9_symbolOf
theorem gc_X9_258 : GoodIn lw_G (wsV RX9 258 RX9 yX9_isWord wyX9_isWord) := gI_V gw_6_56 gw_6_58 gs_X9_isWord gw_1_10 gy_X9_isWord
theorem gc_X9_261 : GoodIn lw_G (wsV RX9 261 RX9 yX9_attribute wyX9_attribute) := gI_V gw_6_84 gw_6_86 gs_X9_attribute gw_1_10 gy_X9_attribute
theorem gc_X9_265 : GoodIn lw_G (wsV RX9 265 RX9 yX9_takes wyX9_takes) := gI_V gw_6_92 gw_6_94 gs_X9_takes gw_1_10 gy_X9_takes
theorem gc_X9_268 : GoodIn lw_G (wsV RX9 268 RX9 yX9_attributeOf wyX9_attributeOf) := gI_V gw_6_88 gw_6_90 gs_X9_attributeOf gw_1_10 gy_X9_attributeOf
theorem gc_X9_275 : GoodIn lw_G (wsV RX9 275 RX9 yX9_ruleOf wyX9_ruleOf) := gI_V gw_6_104 gw_6_106 gs_X9_ruleOf gw_1_10 gy_X9_ruleOf
theorem gc_X9_279 : GoodIn lw_G (wsV RX9 279 RX9 yX9_place wyX9_place) := gI_V gw_6_108 gw_6_110 gs_X9_place gw_1_10 gy_X9_place
theorem gc_X9_282 : GoodIn lw_G (wsV RX9 282 RX9 yX9_equation wyX9_equation) := gI_V gw_6_112 gw_6_114 gs_X9_equation gw_1_10 gy_X9_equation
theorem gc_X9_285 : GoodIn lw_G (wsV RX9 285 RX9 yX9_lacks wyX9_lacks) := gI_V gw_6_191 gw_6_193 gs_X9_lacks gw_1_10 gy_X9_lacks
theorem gc_X9_288 : GoodIn lw_G (wsV RX9 288 RX9 yX9_isTold wyX9_isTold) := gI_V gw_6_121 gw_6_123 gs_X9_isTold gw_1_10 gy_X9_isTold
theorem gc_X9_299 : GoodIn lw_G (wsV RX9 299 RX9 yX9_occurs wyX9_occurs) := gI_V gw_6_116 gw_6_118 gs_X9_occurs gw_1_10 gy_X9_occurs
theorem gc_X9_314 : GoodIn lw_G (wsV RX9 314 RX9 yX9_expression wyX9_expression) := gI_V gw_6_125 gw_6_127 gs_X9_expression gw_1_10 gy_X9_expression
theorem gc_X9_317 : GoodIn lw_G (wsV RX9 317 RX9 yX9_order wyX9_order) := gI_V gw_6_149 gw_6_151 gs_X9_order gw_1_10 gy_X9_order
theorem gc_X9_322 : GoodIn lw_G (wsV RX9 322 RX9 yX9_counts wyX9_counts) := gI_V gw_6_141 gw_6_143 gs_X9_counts gw_1_10 gy_X9_counts
theorem gc_X9_325 : GoodIn lw_G (wsV RX9 325 RX9 yX9_enter wyX9_enter) := gI_V gw_6_129 gw_6_131 gs_X9_enter gw_1_10 gy_X9_enter
theorem gc_X9_331 : GoodIn lw_G (wsV RX9 331 RX9 yX9_nests wyX9_nests) := gI_V gw_6_133 gw_6_135 gs_X9_nests gw_1_10 gy_X9_nests
theorem gc_X9_334 : GoodIn lw_G (wsV RX9 334 RX9 yX9_passes wyX9_passes) := gI_V gw_6_137 gw_6_139 gs_X9_passes gw_1_10 gy_X9_passes
theorem gc_X9_337 : GoodIn lw_G (wsV RX9 337 RX9 yX9_part wyX9_part) := gI_V gw_6_145 gw_6_147 gs_X9_part gw_1_10 gy_X9_part
theorem gc_X9_340 : GoodIn lw_G (wsV RX9 340 RX9 yX9_signs wyX9_signs) := gI_V gw_6_165 gw_6_167 gs_X9_signs gw_1_10 gy_X9_signs
theorem gc_X9_343 : GoodIn lw_G (wsV RX9 343 RX9 yX9_ends wyX9_ends) := gI_V gw_6_183 gw_6_185 gs_X9_ends gw_1_10 gy_X9_ends
theorem gc_X9_346 : GoodIn lw_G (wsV RX9 346 RX9 yX9_isAhead wyX9_isAhead) := gI_V gw_6_153 gw_6_155 gs_X9_isAhead gw_1_10 gy_X9_isAhead
theorem gc_X9_349 : GoodIn lw_G (wsV RX9 349 RX9 yX9_occ wyX9_occ) := gI_V gw_6_157 gw_6_159 gs_X9_occ gw_1_10 gy_X9_occ
theorem gc_X9_352 : GoodIn lw_G (wsV RX9 352 RX9 yX9_number wyX9_number) := gI_V gw_6_161 gw_6_163 gs_X9_number gw_1_10 gy_X9_number
theorem gc_X9_368 : GoodIn lw_G (va_wsS RX9 368 yX9_levelOf wyX9_levelOf) := gI_S gw_6_169 gw_6_170 gw_1_10 gy_X9_levelOf
theorem gc_X9_371 : GoodIn lw_G (wsV RX9 371 RX9 yX9_second wyX9_second) := gI_V gw_6_179 gw_6_181 gs_X9_second gw_1_10 gy_X9_second
theorem gc_X9_374 : GoodIn lw_G (wsV RX9 374 RX9 yX9_word wyX9_word) := gI_V gw_6_187 gw_6_189 gs_X9_word gw_1_10 gy_X9_word
theorem gc_X9_377 : GoodIn lw_G (wsV RX9 377 RX9 yX9_symbol wyX9_symbol) := gI_V gw_6_72 gw_6_74 gs_X9_symbol gw_1_10 gy_X9_symbol
theorem gc_X9_380 : GoodIn lw_G (wsV RX9 380 RX9 yX9_rule wyX9_rule) := gI_V gw_6_100 gw_6_102 gs_X9_rule gw_1_10 gy_X9_rule
theorem gc_X9_383 : GoodIn lw_G (wsV RX9 383 RX9 yX9_takesTape wyX9_takesTape) := gI_V gw_6_22 gw_6_24 gs_X9_takesTape gw_1_10 gy_X9_takesTape
theorem gc_X9_386 : GoodIn lw_G (wsV RX9 386 RX9 yX9_reads wyX9_reads) := gI_V gw_6_26 gw_6_28 gs_X9_reads gw_1_10 gy_X9_reads
theorem gc_X9_402 : GoodIn lw_G (wsV RX9 402 RX9 yX9_tests wyX9_tests) := gI_V gw_6_195 gw_6_197 gs_X9_tests gw_1_10 gy_X9_tests
theorem gc_X9_408 : GoodIn lw_G (wsV RX9 408 RX9 yX9_begins wyX9_begins) := gI_V gw_7_28 gw_7_30 gs_X9_begins gw_1_10 gy_X9_begins
theorem gc_X9_412 : GoodIn lw_G (wsV RX9 412 RX9 yX9_forgets wyX9_forgets) := gI_V gw_7_32 gw_7_34 gs_X9_forgets gw_1_10 gy_X9_forgets
theorem gc_X9_415 : GoodIn lw_G (wsV RX9 415 RX9 yX9_rankOf wyX9_rankOf) := gI_V gw_6_219 gw_6_221 gs_X9_rankOf gw_1_10 gy_X9_rankOf
theorem gc_X9_419 : GoodIn lw_G (wsV RX9 419 RX9 yX9_inheritedOf wyX9_inheritedOf) := gI_V gw_6_223 gw_6_225 gs_X9_inheritedOf gw_1_10 gy_X9_inheritedOf
theorem gc_X9_422 : GoodIn lw_G (wsV RX9 422 RX9 yX9_bitOf wyX9_bitOf) := gI_V gw_6_215 gw_6_217 gs_X9_bitOf gw_1_10 gy_X9_bitOf
theorem gc_X9_425 : GoodIn lw_G (wsV RX9 425 RX9 yX9_comes wyX9_comes) := gI_V gw_6_199 gw_6_201 gs_X9_comes gw_1_10 gy_X9_comes
theorem gc_X9_428 : GoodIn lw_G (wsV RX9 428 RX9 yX9_plains wyX9_plains) := gI_V gw_6_207 gw_6_209 gs_X9_plains gw_1_10 gy_X9_plains
theorem gc_X9_431 : GoodIn lw_G (wsV RX9 431 RX9 yX9_exact wyX9_exact) := gI_V gw_6_235 gw_6_237 gs_X9_exact gw_1_10 gy_X9_exact
theorem gc_X9_434 : GoodIn lw_G (wsV RX9 434 RX9 yX9_allCan wyX9_allCan) := gI_V gw_6_203 gw_6_205 gs_X9_allCan gw_1_10 gy_X9_allCan
theorem gc_X9_437 : GoodIn lw_G (wsV RX9 437 RX9 yX9_ways wyX9_ways) := gI_V gw_6_211 gw_6_213 gs_X9_ways gw_1_10 gy_X9_ways
theorem gc_X9_440 : GoodIn lw_G (wsV RX9 440 RX9 yX9_goesRound wyX9_goesRound) := gI_V gw_6_227 gw_6_229 gs_X9_goesRound gw_1_10 gy_X9_goesRound
theorem gc_X9_443 : GoodIn lw_G (wsV RX9 443 RX9 yX9_headGraph wyX9_headGraph) := gI_V gw_6_231 gw_6_233 gs_X9_headGraph gw_1_10 gy_X9_headGraph
theorem gc_X9_449 : GoodIn lw_G (wsV RX9 449 RX9 yX9_chooses wyX9_chooses) := gI_V gw_6_239 gw_7_1 gs_X9_chooses gw_1_10 gy_X9_chooses
theorem gc_X9_452 : GoodIn lw_G (wsV RX9 452 RX9 yX9_waysOf wyX9_waysOf) := gI_V gw_7_3 gw_7_5 gs_X9_waysOf gw_1_10 gy_X9_waysOf
theorem gc_X9_458 : GoodIn lw_G (wsV RX9 458 RX9 yX9_graphAt wyX9_graphAt) := gI_V gw_7_8 gw_7_10 gs_X9_graphAt gw_1_10 gy_X9_graphAt
theorem gc_X9_464 : GoodIn lw_G (wsV RX9 464 RX9 yX9_marks wyX9_marks) := gI_V gw_7_12 gw_7_14 gs_X9_marks gw_1_10 gy_X9_marks
theorem gc_X9_467 : GoodIn lw_G (wsV RX9 467 RX9 yX9_settles wyX9_settles) := gI_V gw_7_16 gw_7_18 gs_X9_settles gw_1_10 gy_X9_settles
theorem gc_X9_470 : GoodIn lw_G (wsV RX9 470 RX9 yX9_tellerOf wyX9_tellerOf) := gI_V gw_7_76 gw_7_78 gs_X9_tellerOf gw_1_10 gy_X9_tellerOf
theorem gc_X9_473 : GoodIn lw_G (wsV RX9 473 RX9 yX9_isAttribute wyX9_isAttribute) := gI_V gw_7_64 gw_7_66 gs_X9_isAttribute gw_1_10 gy_X9_isAttribute
theorem gc_X9_480 : GoodIn lw_G (wsV RX9 480 RX9 yX9_waitsOn wyX9_waitsOn) := gI_V gw_7_68 gw_7_70 gs_X9_waitsOn gw_1_10 gy_X9_waitsOn
theorem gc_X9_483 : GoodIn lw_G (wsV RX9 483 RX9 yX9_equationOf wyX9_equationOf) := gI_V gw_7_72 gw_7_74 gs_X9_equationOf gw_1_10 gy_X9_equationOf
theorem gc_X9_486 : GoodIn lw_G (wsV RX9 486 RX9 yX9_works wyX9_works) := gI_V gw_7_80 gw_7_82 gs_X9_works gw_1_10 gy_X9_works
theorem gc_X9_489 : GoodIn lw_G (wsV RX9 489 RX9 yX9_namedBy wyX9_namedBy) := gI_V gw_7_92 gw_7_94 gs_X9_namedBy gw_1_10 gy_X9_namedBy
theorem gc_X9_495 : GoodIn lw_G (wsV RX9 495 RX9 yX9_does wyX9_does) := gI_V gw_7_84 gw_7_86 gs_X9_does gw_1_10 gy_X9_does
theorem gc_X9_498 : GoodIn lw_G (wsV RX9 498 RX9 yX9_value wyX9_value) := gI_V gw_7_88 gw_7_90 gs_X9_value gw_1_10 gy_X9_value
theorem gc_X9_501 : GoodIn lw_G (wsV RX9 501 RX9 yX9_signed wyX9_signed) := gI_V gw_7_96 gw_7_98 gs_X9_signed gw_1_10 gy_X9_signed
