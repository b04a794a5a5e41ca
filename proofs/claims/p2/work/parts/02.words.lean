/-- a private method of a class that the tables say can be made, by its rows of tables_1 -/
def lw_okq (q : MethodName × Nat) : Prop := (q.1.cls ≠ "java/lang/invoke/MethodHandle" ∧ q.1.cls ≠ "java/lang/invoke/VarHandle") ∧ Cond.instantiable q.1.cls q.2 ∈ tables_1 ∧ Cond.privateMethod q.1 ∈ tables_1 ∧ Cond.instanceMethod q.1 ∈ tables_1
theorem ta_1 : ∀ w ∈ tables_1_1, w ∈ tables_1 := fun _ h => List.mem_append_left _ h
theorem ta_2 : ∀ w ∈ tables_1_2, w ∈ tables_1 := fun _ h => List.mem_append_right _ (List.mem_append_left _ h)
theorem ta_3 : ∀ w ∈ tables_1_3, w ∈ tables_1 := fun _ h => List.mem_append_right _ (List.mem_append_right _ (List.mem_append_left _ h))
theorem ta_4 : ∀ w ∈ tables_1_4, w ∈ tables_1 := fun _ h => List.mem_append_right _ (List.mem_append_right _ (List.mem_append_right _ (List.mem_append_left _ h)))
theorem ta_5 : ∀ w ∈ tables_1_5, w ∈ tables_1 := fun _ h => List.mem_append_right _ (List.mem_append_right _ (List.mem_append_right _ (List.mem_append_right _ (List.mem_append_left _ h))))
theorem ta_6 : ∀ w ∈ tables_1_6, w ∈ tables_1 := fun _ h => List.mem_append_right _ (List.mem_append_right _ (List.mem_append_right _ (List.mem_append_right _ (List.mem_append_right _ (List.mem_append_left _ h)))))
theorem ta_7 : ∀ w ∈ tables_1_7, w ∈ tables_1 := fun _ h => List.mem_append_right _ (List.mem_append_right _ (List.mem_append_right _ (List.mem_append_right _ (List.mem_append_right _ (List.mem_append_right _ h)))))
theorem lw_p0 : lw_okq (yX0_await, 11) := ⟨⟨by decide +kernel, by decide +kernel⟩, ta_1 _ (List.mem_of_getElem? (i := 199) rfl), ta_3 _ (List.mem_of_getElem? (i := 62) rfl), ta_3 _ (List.mem_of_getElem? (i := 63) rfl)⟩
theorem lw_p1 : lw_okq (yX0_binary, 11) := ⟨⟨by decide +kernel, by decide +kernel⟩, ta_1 _ (List.mem_of_getElem? (i := 199) rfl), ta_3 _ (List.mem_of_getElem? (i := 94) rfl), ta_3 _ (List.mem_of_getElem? (i := 95) rfl)⟩
theorem lw_p2 : lw_okq (yX0_closeParenthesis, 11) := ⟨⟨by decide +kernel, by decide +kernel⟩, ta_1 _ (List.mem_of_getElem? (i := 199) rfl), ta_3 _ (List.mem_of_getElem? (i := 102) rfl), ta_3 _ (List.mem_of_getElem? (i := 103) rfl)⟩
theorem lw_p3 : lw_okq (yX0_compare, 11) := ⟨⟨by decide +kernel, by decide +kernel⟩, ta_1 _ (List.mem_of_getElem? (i := 199) rfl), ta_3 _ (List.mem_of_getElem? (i := 98) rfl), ta_3 _ (List.mem_of_getElem? (i := 99) rfl)⟩
theorem lw_p4 : lw_okq (yX0_emitOperand, 11) := ⟨⟨by decide +kernel, by decide +kernel⟩, ta_1 _ (List.mem_of_getElem? (i := 199) rfl), ta_3 _ (List.mem_of_getElem? (i := 42) rfl), ta_3 _ (List.mem_of_getElem? (i := 43) rfl)⟩
theorem lw_p5 : lw_okq (yX0_finish, 11) := ⟨⟨by decide +kernel, by decide +kernel⟩, ta_1 _ (List.mem_of_getElem? (i := 199) rfl), ta_3 _ (List.mem_of_getElem? (i := 110) rfl), ta_3 _ (List.mem_of_getElem? (i := 111) rfl)⟩
theorem lw_p6 : lw_okq (yX0_isOneTooMany, 11) := ⟨⟨by decide +kernel, by decide +kernel⟩, ta_1 _ (List.mem_of_getElem? (i := 199) rfl), ta_3 _ (List.mem_of_getElem? (i := 38) rfl), ta_3 _ (List.mem_of_getElem? (i := 39) rfl)⟩
theorem lw_p7 : lw_okq (yX0_occNumber, 11) := ⟨⟨by decide +kernel, by decide +kernel⟩, ta_1 _ (List.mem_of_getElem? (i := 199) rfl), ta_3 _ (List.mem_of_getElem? (i := 34) rfl), ta_3 _ (List.mem_of_getElem? (i := 35) rfl)⟩
theorem lw_p8 : lw_okq (yX0_open, 11) := ⟨⟨by decide +kernel, by decide +kernel⟩, ta_1 _ (List.mem_of_getElem? (i := 199) rfl), ta_3 _ (List.mem_of_getElem? (i := 58) rfl), ta_3 _ (List.mem_of_getElem? (i := 59) rfl)⟩
theorem lw_p9 : lw_okq (yX0_settle, 11) := ⟨⟨by decide +kernel, by decide +kernel⟩, ta_1 _ (List.mem_of_getElem? (i := 199) rfl), ta_3 _ (List.mem_of_getElem? (i := 51) rfl), ta_3 _ (List.mem_of_getElem? (i := 52) rfl)⟩
theorem lw_p10 : lw_okq (yX0_top, 11) := ⟨⟨by decide +kernel, by decide +kernel⟩, ta_1 _ (List.mem_of_getElem? (i := 199) rfl), ta_3 _ (List.mem_of_getElem? (i := 70) rfl), ta_3 _ (List.mem_of_getElem? (i := 71) rfl)⟩
theorem lw_p11 : lw_okq (yX0_topBinds, 11) := ⟨⟨by decide +kernel, by decide +kernel⟩, ta_1 _ (List.mem_of_getElem? (i := 199) rfl), ta_3 _ (List.mem_of_getElem? (i := 66) rfl), ta_3 _ (List.mem_of_getElem? (i := 67) rfl)⟩
theorem lw_p12 : lw_okq (yX0_turn, 11) := ⟨⟨by decide +kernel, by decide +kernel⟩, ta_1 _ (List.mem_of_getElem? (i := 199) rfl), ta_3 _ (List.mem_of_getElem? (i := 106) rfl), ta_3 _ (List.mem_of_getElem? (i := 107) rfl)⟩
theorem lw_p13 : lw_okq (yX3_skipBlanks, 7) := ⟨⟨by decide +kernel, by decide +kernel⟩, ta_1 _ (List.mem_of_getElem? (i := 155) rfl), ta_2 _ (List.mem_of_getElem? (i := 236) rfl), ta_2 _ (List.mem_of_getElem? (i := 237) rfl)⟩
theorem lw_p14 : lw_okq (yX3_takeDigits, 7) := ⟨⟨by decide +kernel, by decide +kernel⟩, ta_1 _ (List.mem_of_getElem? (i := 155) rfl), ta_3 _ (List.mem_of_getElem? (i := 13) rfl), ta_3 _ (List.mem_of_getElem? (i := 14) rfl)⟩
theorem lw_p15 : lw_okq (yX3_takeLetters, 7) := ⟨⟨by decide +kernel, by decide +kernel⟩, ta_1 _ (List.mem_of_getElem? (i := 155) rfl), ta_3 _ (List.mem_of_getElem? (i := 3) rfl), ta_3 _ (List.mem_of_getElem? (i := 4) rfl)⟩
def lw_privs : List (MethodName × Nat) := [(yX0_await, 11), (yX0_binary, 11), (yX0_closeParenthesis, 11), (yX0_compare, 11), (yX0_emitOperand, 11), (yX0_finish, 11), (yX0_isOneTooMany, 11), (yX0_occNumber, 11), (yX0_open, 11), (yX0_settle, 11), (yX0_top, 11), (yX0_topBinds, 11), (yX0_turn, 11), (yX3_skipBlanks, 7), (yX3_takeDigits, 7), (yX3_takeLetters, 7)]
def lw_tbl : List Cond := k2_sels lw_privs ++ tables_1
set_option maxRecDepth 20000 in
theorem lw_privs_ok : ∀ q ∈ lw_privs, lw_okq q := List.forall_mem_cons.mpr ⟨lw_p0, List.forall_mem_cons.mpr ⟨lw_p1, List.forall_mem_cons.mpr ⟨lw_p2, List.forall_mem_cons.mpr ⟨lw_p3, List.forall_mem_cons.mpr ⟨lw_p4, List.forall_mem_cons.mpr ⟨lw_p5, List.forall_mem_cons.mpr ⟨lw_p6, List.forall_mem_cons.mpr ⟨lw_p7, List.forall_mem_cons.mpr ⟨lw_p8, List.forall_mem_cons.mpr ⟨lw_p9, List.forall_mem_cons.mpr ⟨lw_p10, List.forall_mem_cons.mpr ⟨lw_p11, List.forall_mem_cons.mpr ⟨lw_p12, List.forall_mem_cons.mpr ⟨lw_p13, List.forall_mem_cons.mpr ⟨lw_p14, List.forall_mem_cons.mpr ⟨lw_p15, fun _ h => absurd h List.not_mem_nil⟩⟩⟩⟩⟩⟩⟩⟩⟩⟩⟩⟩⟩⟩⟩⟩
/-- the words that any caller can hand to any method: those of the tables that stay what they are -/
theorem lwG_ex : ∃ G : List Cond, ∀ w : Cond, w ∈ G ↔ (w ∈ lw_tbl ∧ goodWord w = true) := ⟨lw_tbl.filter goodWord, fun _ => List.mem_filter⟩
noncomputable def lw_G : List Cond := Classical.choose lwG_ex
theorem lwG_iff (w : Cond) : w ∈ lw_G ↔ (w ∈ lw_tbl ∧ goodWord w = true) := Classical.choose_spec lwG_ex w
theorem lwG {w : Cond} {l : List Cond} (h : ∀ w ∈ l, w ∈ lw_tbl) (m : w ∈ l) (g : goodWord w = true) : w ∈ lw_G := (lwG_iff w).mpr ⟨h _ m, g⟩
theorem lwG_good {w : Cond} (h : w ∈ lw_G) : (w.onTables && w.keeps) = true ∨ ∃ ty, w = .arrayClass ty := good_of_word ((lwG_iff w).mp h).2
theorem tb_1 : ∀ w ∈ tables_1_1, w ∈ lw_tbl := fun w h => List.mem_append_right _ (ta_1 w h)
theorem tb_2 : ∀ w ∈ tables_1_2, w ∈ lw_tbl := fun w h => List.mem_append_right _ (ta_2 w h)
theorem tb_3 : ∀ w ∈ tables_1_3, w ∈ lw_tbl := fun w h => List.mem_append_right _ (ta_3 w h)
theorem tb_4 : ∀ w ∈ tables_1_4, w ∈ lw_tbl := fun w h => List.mem_append_right _ (ta_4 w h)
theorem tb_5 : ∀ w ∈ tables_1_5, w ∈ lw_tbl := fun w h => List.mem_append_right _ (ta_5 w h)
theorem tb_6 : ∀ w ∈ tables_1_6, w ∈ lw_tbl := fun w h => List.mem_append_right _ (ta_6 w h)
theorem tb_7 : ∀ w ∈ tables_1_7, w ∈ lw_tbl := fun w h => List.mem_append_right _ (ta_7 w h)
theorem gw_1_2 : Cond.initialized RX1 ∈ lw_G := lwG tb_1 (List.mem_of_getElem? (i := 2) rfl) rfl
theorem gw_1_4 : Cond.initialized RX3 ∈ lw_G := lwG tb_1 (List.mem_of_getElem? (i := 4) rfl) rfl
theorem gw_1_6 : Cond.initialized RX0 ∈ lw_G := lwG tb_1 (List.mem_of_getElem? (i := 6) rfl) rfl
theorem gw_1_11 : Cond.initialized "java/lang/Math" ∈ lw_G := lwG tb_1 (List.mem_of_getElem? (i := 11) rfl) rfl
theorem gw_1_26 : Cond.fieldLink RX1 9 "AttributeDesk$Grammar" "symbolCount" "I" ∈ lw_G := lwG tb_1 (List.mem_of_getElem? (i := 26) rfl) rfl
theorem gw_1_30 : Cond.fieldLink RX1 15 "AttributeDesk$Grammar" "symbolNames" "[J" ∈ lw_G := lwG tb_1 (List.mem_of_getElem? (i := 30) rfl) rfl
theorem gw_1_31 : Cond.fieldLink RX1 19 "AttributeDesk$Grammar" "attributeCounts" "[I" ∈ lw_G := lwG tb_1 (List.mem_of_getElem? (i := 31) rfl) rfl
theorem gw_1_35 : Cond.fieldLink RX1 23 "AttributeDesk$Grammar" "inheritedCounts" "[I" ∈ lw_G := lwG tb_1 (List.mem_of_getElem? (i := 35) rfl) rfl
theorem gw_1_38 : Cond.fieldLink RX1 26 "AttributeDesk$Grammar" "attributeNames" "[J" ∈ lw_G := lwG tb_1 (List.mem_of_getElem? (i := 38) rfl) rfl
theorem gw_1_39 : Cond.fieldLink RX1 29 "AttributeDesk$Grammar" "inherited" "[Z" ∈ lw_G := lwG tb_1 (List.mem_of_getElem? (i := 39) rfl) rfl
theorem gw_1_40 : Cond.fieldLink RX1 33 "AttributeDesk$Grammar" "ranks" "[I" ∈ lw_G := lwG tb_1 (List.mem_of_getElem? (i := 40) rfl) rfl
theorem gw_1_41 : Cond.fieldLink RX1 36 "AttributeDesk$Grammar" "ruleCount" "I" ∈ lw_G := lwG tb_1 (List.mem_of_getElem? (i := 41) rfl) rfl
theorem gw_1_45 : Cond.fieldLink RX1 39 "AttributeDesk$Grammar" "ruleNames" "[J" ∈ lw_G := lwG tb_1 (List.mem_of_getElem? (i := 45) rfl) rfl
theorem gw_1_46 : Cond.fieldLink RX1 42 "AttributeDesk$Grammar" "ruleSymbols" "[I" ∈ lw_G := lwG tb_1 (List.mem_of_getElem? (i := 46) rfl) rfl
theorem gw_1_48 : Cond.fieldLink RX1 45 "AttributeDesk$Grammar" "childCounts" "[I" ∈ lw_G := lwG tb_1 (List.mem_of_getElem? (i := 48) rfl) rfl
theorem gw_1_49 : Cond.fieldLink RX0 97 "AttributeDesk$Grammar" "childCounts" "[I" ∈ lw_G := lwG tb_1 (List.mem_of_getElem? (i := 49) rfl) rfl
theorem gw_1_54 : Cond.fieldLink RX1 48 "AttributeDesk$Grammar" "equationCounts" "[I" ∈ lw_G := lwG tb_1 (List.mem_of_getElem? (i := 54) rfl) rfl
theorem gw_1_56 : Cond.fieldLink RX0 150 "AttributeDesk$Grammar" "equationCounts" "[I" ∈ lw_G := lwG tb_1 (List.mem_of_getElem? (i := 56) rfl) rfl
theorem gw_1_57 : Cond.fieldLink RX1 51 "AttributeDesk$Grammar" "codeStarts" "[I" ∈ lw_G := lwG tb_1 (List.mem_of_getElem? (i := 57) rfl) rfl
theorem gw_1_61 : Cond.fieldLink RX1 54 "AttributeDesk$Grammar" "codeEnds" "[I" ∈ lw_G := lwG tb_1 (List.mem_of_getElem? (i := 61) rfl) rfl
theorem gw_1_63 : Cond.fieldLink RX0 147 "AttributeDesk$Grammar" "codeEnds" "[I" ∈ lw_G := lwG tb_1 (List.mem_of_getElem? (i := 63) rfl) rfl
theorem gw_1_64 : Cond.fieldLink RX1 57 "AttributeDesk$Grammar" "hangs" "[I" ∈ lw_G := lwG tb_1 (List.mem_of_getElem? (i := 64) rfl) rfl
theorem gw_1_65 : Cond.fieldLink RX0 113 "AttributeDesk$Grammar" "hangs" "[I" ∈ lw_G := lwG tb_1 (List.mem_of_getElem? (i := 65) rfl) rfl
theorem gw_1_67 : Cond.fieldLink RX1 60 "AttributeDesk$Grammar" "operations" "[I" ∈ lw_G := lwG tb_1 (List.mem_of_getElem? (i := 67) rfl) rfl
theorem gw_1_69 : Cond.fieldLink RX1 63 "AttributeDesk$Grammar" "operands" "[I" ∈ lw_G := lwG tb_1 (List.mem_of_getElem? (i := 69) rfl) rfl
theorem gw_1_71 : Cond.fieldLink RX1 66 "AttributeDesk$Grammar" "codeSize" "I" ∈ lw_G := lwG tb_1 (List.mem_of_getElem? (i := 71) rfl) rfl
theorem gw_1_72 : Cond.fieldLink RX0 54 "AttributeDesk$Grammar" "codeSize" "I" ∈ lw_G := lwG tb_1 (List.mem_of_getElem? (i := 72) rfl) rfl
theorem gw_1_73 : Cond.lays RX1 "AttributeDesk$Grammar" "symbolCount" "I" ∈ lw_G := lwG tb_1 (List.mem_of_getElem? (i := 73) rfl) rfl
theorem gw_1_75 : Cond.laysFinal RX1 "AttributeDesk$Grammar" "symbolNames" "[J" ∈ lw_G := lwG tb_1 (List.mem_of_getElem? (i := 75) rfl) rfl
theorem gw_1_77 : Cond.laysFinal RX1 "AttributeDesk$Grammar" "attributeCounts" "[I" ∈ lw_G := lwG tb_1 (List.mem_of_getElem? (i := 77) rfl) rfl
theorem gw_1_79 : Cond.laysFinal RX1 "AttributeDesk$Grammar" "inheritedCounts" "[I" ∈ lw_G := lwG tb_1 (List.mem_of_getElem? (i := 79) rfl) rfl
theorem gw_1_81 : Cond.laysFinal RX1 "AttributeDesk$Grammar" "attributeNames" "[J" ∈ lw_G := lwG tb_1 (List.mem_of_getElem? (i := 81) rfl) rfl
theorem gw_1_83 : Cond.laysFinal RX1 "AttributeDesk$Grammar" "inherited" "[Z" ∈ lw_G := lwG tb_1 (List.mem_of_getElem? (i := 83) rfl) rfl
theorem gw_1_85 : Cond.laysFinal RX1 "AttributeDesk$Grammar" "ranks" "[I" ∈ lw_G := lwG tb_1 (List.mem_of_getElem? (i := 85) rfl) rfl
theorem gw_1_87 : Cond.lays RX1 "AttributeDesk$Grammar" "ruleCount" "I" ∈ lw_G := lwG tb_1 (List.mem_of_getElem? (i := 87) rfl) rfl
theorem gw_1_89 : Cond.laysFinal RX1 "AttributeDesk$Grammar" "ruleNames" "[J" ∈ lw_G := lwG tb_1 (List.mem_of_getElem? (i := 89) rfl) rfl
theorem gw_1_91 : Cond.laysFinal RX1 "AttributeDesk$Grammar" "ruleSymbols" "[I" ∈ lw_G := lwG tb_1 (List.mem_of_getElem? (i := 91) rfl) rfl
theorem gw_1_93 : Cond.laysFinal RX1 "AttributeDesk$Grammar" "childCounts" "[I" ∈ lw_G := lwG tb_1 (List.mem_of_getElem? (i := 93) rfl) rfl
theorem gw_1_95 : Cond.laysFinal RX1 "AttributeDesk$Grammar" "equationCounts" "[I" ∈ lw_G := lwG tb_1 (List.mem_of_getElem? (i := 95) rfl) rfl
theorem gw_1_97 : Cond.laysFinal RX1 "AttributeDesk$Grammar" "codeStarts" "[I" ∈ lw_G := lwG tb_1 (List.mem_of_getElem? (i := 97) rfl) rfl
theorem gw_1_99 : Cond.laysFinal RX1 "AttributeDesk$Grammar" "codeEnds" "[I" ∈ lw_G := lwG tb_1 (List.mem_of_getElem? (i := 99) rfl) rfl
theorem gw_1_101 : Cond.laysFinal RX1 "AttributeDesk$Grammar" "hangs" "[I" ∈ lw_G := lwG tb_1 (List.mem_of_getElem? (i := 101) rfl) rfl
theorem gw_1_103 : Cond.laysFinal RX1 "AttributeDesk$Grammar" "operations" "[I" ∈ lw_G := lwG tb_1 (List.mem_of_getElem? (i := 103) rfl) rfl
theorem gw_1_105 : Cond.laysFinal RX1 "AttributeDesk$Grammar" "operands" "[I" ∈ lw_G := lwG tb_1 (List.mem_of_getElem? (i := 105) rfl) rfl
theorem gw_1_107 : Cond.lays RX1 "AttributeDesk$Grammar" "codeSize" "I" ∈ lw_G := lwG tb_1 (List.mem_of_getElem? (i := 107) rfl) rfl
theorem gw_1_160 : Cond.fieldLink RX3 31 "AttributeDesk$Tokens" "text" "[B" ∈ lw_G := lwG tb_1 (List.mem_of_getElem? (i := 160) rfl) rfl
theorem gw_1_161 : Cond.fieldLink RX3 9 "AttributeDesk$Tokens" "size" "I" ∈ lw_G := lwG tb_1 (List.mem_of_getElem? (i := 161) rfl) rfl
theorem gw_1_162 : Cond.fieldLink RX3 15 "AttributeDesk$Tokens" "behind" "I" ∈ lw_G := lwG tb_1 (List.mem_of_getElem? (i := 162) rfl) rfl
theorem gw_1_163 : Cond.fieldLink RX3 18 "AttributeDesk$Tokens" "kind" "I" ∈ lw_G := lwG tb_1 (List.mem_of_getElem? (i := 163) rfl) rfl
theorem gw_1_165 : Cond.fieldLink RX0 70 "AttributeDesk$Tokens" "kind" "I" ∈ lw_G := lwG tb_1 (List.mem_of_getElem? (i := 165) rfl) rfl
theorem gw_1_167 : Cond.fieldLink RX3 21 "AttributeDesk$Tokens" "at" "I" ∈ lw_G := lwG tb_1 (List.mem_of_getElem? (i := 167) rfl) rfl
theorem gw_1_169 : Cond.fieldLink RX3 24 "AttributeDesk$Tokens" "name" "J" ∈ lw_G := lwG tb_1 (List.mem_of_getElem? (i := 169) rfl) rfl
theorem gw_1_172 : Cond.fieldLink RX0 107 "AttributeDesk$Tokens" "name" "J" ∈ lw_G := lwG tb_1 (List.mem_of_getElem? (i := 172) rfl) rfl
theorem gw_1_173 : Cond.fieldLink RX3 28 "AttributeDesk$Tokens" "number" "J" ∈ lw_G := lwG tb_1 (List.mem_of_getElem? (i := 173) rfl) rfl
theorem gw_1_174 : Cond.fieldLink RX0 82 "AttributeDesk$Tokens" "number" "J" ∈ lw_G := lwG tb_1 (List.mem_of_getElem? (i := 174) rfl) rfl
theorem gw_1_177 : Cond.laysFinal RX3 "AttributeDesk$Tokens" "text" "[B" ∈ lw_G := lwG tb_1 (List.mem_of_getElem? (i := 177) rfl) rfl
theorem gw_1_179 : Cond.lays RX3 "AttributeDesk$Tokens" "size" "I" ∈ lw_G := lwG tb_1 (List.mem_of_getElem? (i := 179) rfl) rfl
theorem gw_1_181 : Cond.lays RX3 "AttributeDesk$Tokens" "behind" "I" ∈ lw_G := lwG tb_1 (List.mem_of_getElem? (i := 181) rfl) rfl
theorem gw_1_183 : Cond.lays RX3 "AttributeDesk$Tokens" "kind" "I" ∈ lw_G := lwG tb_1 (List.mem_of_getElem? (i := 183) rfl) rfl
theorem gw_1_185 : Cond.lays RX3 "AttributeDesk$Tokens" "at" "I" ∈ lw_G := lwG tb_1 (List.mem_of_getElem? (i := 185) rfl) rfl
theorem gw_1_187 : Cond.lays RX3 "AttributeDesk$Tokens" "name" "J" ∈ lw_G := lwG tb_1 (List.mem_of_getElem? (i := 187) rfl) rfl
theorem gw_1_189 : Cond.lays RX3 "AttributeDesk$Tokens" "number" "J" ∈ lw_G := lwG tb_1 (List.mem_of_getElem? (i := 189) rfl) rfl
theorem gw_1_204 : Cond.fieldLink RX0 41 "AttributeDesk$ExpressionReader" "tokens" "LAttributeDesk$Tokens;" ∈ lw_G := lwG tb_1 (List.mem_of_getElem? (i := 204) rfl) rfl
theorem gw_1_205 : Cond.fieldLink RX0 45 "AttributeDesk$ExpressionReader" "grammar" "LAttributeDesk$Grammar;" ∈ lw_G := lwG tb_1 (List.mem_of_getElem? (i := 205) rfl) rfl
theorem gw_1_206 : Cond.fieldLink RX0 9 "AttributeDesk$ExpressionReader" "rule" "I" ∈ lw_G := lwG tb_1 (List.mem_of_getElem? (i := 206) rfl) rfl
theorem gw_1_207 : Cond.fieldLink RX0 15 "AttributeDesk$ExpressionReader" "target" "I" ∈ lw_G := lwG tb_1 (List.mem_of_getElem? (i := 207) rfl) rfl
theorem gw_1_208 : Cond.fieldLink RX0 18 "AttributeDesk$ExpressionReader" "state" "I" ∈ lw_G := lwG tb_1 (List.mem_of_getElem? (i := 208) rfl) rfl
theorem gw_1_209 : Cond.fieldLink RX0 21 "AttributeDesk$ExpressionReader" "tokenCount" "I" ∈ lw_G := lwG tb_1 (List.mem_of_getElem? (i := 209) rfl) rfl
theorem gw_1_210 : Cond.fieldLink RX0 24 "AttributeDesk$ExpressionReader" "occPlace" "I" ∈ lw_G := lwG tb_1 (List.mem_of_getElem? (i := 210) rfl) rfl
theorem gw_1_211 : Cond.fieldLink RX0 27 "AttributeDesk$ExpressionReader" "waiting" "[I" ∈ lw_G := lwG tb_1 (List.mem_of_getElem? (i := 211) rfl) rfl
theorem gw_1_212 : Cond.fieldLink RX0 31 "AttributeDesk$ExpressionReader" "waitingCount" "I" ∈ lw_G := lwG tb_1 (List.mem_of_getElem? (i := 212) rfl) rfl
theorem gw_1_213 : Cond.fieldLink RX0 34 "AttributeDesk$ExpressionReader" "openCount" "I" ∈ lw_G := lwG tb_1 (List.mem_of_getElem? (i := 213) rfl) rfl
theorem gw_1_214 : Cond.fieldLink RX0 37 "AttributeDesk$ExpressionReader" "isComplete" "Z" ∈ lw_G := lwG tb_1 (List.mem_of_getElem? (i := 214) rfl) rfl
theorem gw_1_216 : Cond.laysFinal RX0 "AttributeDesk$ExpressionReader" "tokens" "LAttributeDesk$Tokens;" ∈ lw_G := lwG tb_1 (List.mem_of_getElem? (i := 216) rfl) rfl
theorem gw_1_218 : Cond.lays RX0 "AttributeDesk$ExpressionReader" "grammar" "LAttributeDesk$Grammar;" ∈ lw_G := lwG tb_1 (List.mem_of_getElem? (i := 218) rfl) rfl
theorem gw_1_220 : Cond.lays RX0 "AttributeDesk$ExpressionReader" "rule" "I" ∈ lw_G := lwG tb_1 (List.mem_of_getElem? (i := 220) rfl) rfl
theorem gw_1_222 : Cond.lays RX0 "AttributeDesk$ExpressionReader" "target" "I" ∈ lw_G := lwG tb_1 (List.mem_of_getElem? (i := 222) rfl) rfl
theorem gw_1_224 : Cond.lays RX0 "AttributeDesk$ExpressionReader" "state" "I" ∈ lw_G := lwG tb_1 (List.mem_of_getElem? (i := 224) rfl) rfl
theorem gw_1_226 : Cond.lays RX0 "AttributeDesk$ExpressionReader" "tokenCount" "I" ∈ lw_G := lwG tb_1 (List.mem_of_getElem? (i := 226) rfl) rfl
theorem gw_1_228 : Cond.lays RX0 "AttributeDesk$ExpressionReader" "occPlace" "I" ∈ lw_G := lwG tb_1 (List.mem_of_getElem? (i := 228) rfl) rfl
theorem gw_1_230 : Cond.laysFinal RX0 "AttributeDesk$ExpressionReader" "waiting" "[I" ∈ lw_G := lwG tb_1 (List.mem_of_getElem? (i := 230) rfl) rfl
theorem gw_1_232 : Cond.lays RX0 "AttributeDesk$ExpressionReader" "waitingCount" "I" ∈ lw_G := lwG tb_1 (List.mem_of_getElem? (i := 232) rfl) rfl
theorem gw_1_234 : Cond.lays RX0 "AttributeDesk$ExpressionReader" "openCount" "I" ∈ lw_G := lwG tb_1 (List.mem_of_getElem? (i := 234) rfl) rfl
theorem gw_1_236 : Cond.lays RX0 "AttributeDesk$ExpressionReader" "isComplete" "Z" ∈ lw_G := lwG tb_1 (List.mem_of_getElem? (i := 236) rfl) rfl
theorem gw_2_223 : Cond.code yX1_clear cX1_clear 1 none ∈ lw_G := lwG tb_2 (List.mem_of_getElem? (i := 223) rfl) rfl
theorem gw_2_227 : Cond.code yX3_begin cX3_begin 2 none ∈ lw_G := lwG tb_2 (List.mem_of_getElem? (i := 227) rfl) rfl
theorem gw_2_228 : Cond.methodLink RX3 35 Lib.Math.min.name ∈ lw_G := lwG tb_2 (List.mem_of_getElem? (i := 228) rfl) rfl
theorem gw_2_229 : Cond.static Lib.Math.min.name ∈ lw_G := lwG tb_2 (List.mem_of_getElem? (i := 229) rfl) rfl
theorem gw_2_230 : Cond.code Lib.Math.min.name Lib.Math.min.code 2 (some .int) ∈ lw_G := lwG tb_2 (List.mem_of_getElem? (i := 230) rfl) rfl
theorem gw_2_234 : Cond.code yX3_next cX3_next 2 none ∈ lw_G := lwG tb_2 (List.mem_of_getElem? (i := 234) rfl) rfl
theorem gw_2_235 : Cond.methodLink RX3 41 yX3_skipBlanks ∈ lw_G := lwG tb_2 (List.mem_of_getElem? (i := 235) rfl) rfl
theorem gw_2_237 : Cond.instanceMethod yX3_skipBlanks ∈ lw_G := lwG tb_2 (List.mem_of_getElem? (i := 237) rfl) rfl
theorem gw_2_238 : Cond.code yX3_skipBlanks cX3_skipBlanks 3 (some .int) ∈ lw_G := lwG tb_2 (List.mem_of_getElem? (i := 238) rfl) rfl
theorem gw_2_239 : Cond.methodLink RX3 45 yX3_isLetter ∈ lw_G := lwG tb_2 (List.mem_of_getElem? (i := 239) rfl) rfl
theorem gw_3_0 : Cond.static yX3_isLetter ∈ lw_G := lwG tb_3 (List.mem_of_getElem? (i := 0) rfl) rfl
theorem gw_3_1 : Cond.code yX3_isLetter cX3_isLetter 1 (some .boolean) ∈ lw_G := lwG tb_3 (List.mem_of_getElem? (i := 1) rfl) rfl
theorem gw_3_2 : Cond.methodLink RX3 49 yX3_takeLetters ∈ lw_G := lwG tb_3 (List.mem_of_getElem? (i := 2) rfl) rfl
theorem gw_3_4 : Cond.instanceMethod yX3_takeLetters ∈ lw_G := lwG tb_3 (List.mem_of_getElem? (i := 4) rfl) rfl
theorem gw_3_5 : Cond.code yX3_takeLetters cX3_takeLetters 5 none ∈ lw_G := lwG tb_3 (List.mem_of_getElem? (i := 5) rfl) rfl
theorem gw_3_6 : Cond.methodLink RX3 61 yX3_keywordOrName ∈ lw_G := lwG tb_3 (List.mem_of_getElem? (i := 6) rfl) rfl
theorem gw_3_7 : Cond.static yX3_keywordOrName ∈ lw_G := lwG tb_3 (List.mem_of_getElem? (i := 7) rfl) rfl
theorem gw_3_8 : Cond.code yX3_keywordOrName cX3_keywordOrName 1 (some .int) ∈ lw_G := lwG tb_3 (List.mem_of_getElem? (i := 8) rfl) rfl
theorem gw_3_9 : Cond.methodLink RX3 52 yX3_isDigit ∈ lw_G := lwG tb_3 (List.mem_of_getElem? (i := 9) rfl) rfl
theorem gw_3_10 : Cond.static yX3_isDigit ∈ lw_G := lwG tb_3 (List.mem_of_getElem? (i := 10) rfl) rfl
theorem gw_3_11 : Cond.code yX3_isDigit cX3_isDigit 1 (some .boolean) ∈ lw_G := lwG tb_3 (List.mem_of_getElem? (i := 11) rfl) rfl
theorem gw_3_12 : Cond.methodLink RX3 55 yX3_takeDigits ∈ lw_G := lwG tb_3 (List.mem_of_getElem? (i := 12) rfl) rfl
theorem gw_3_14 : Cond.instanceMethod yX3_takeDigits ∈ lw_G := lwG tb_3 (List.mem_of_getElem? (i := 14) rfl) rfl
theorem gw_3_15 : Cond.code yX3_takeDigits cX3_takeDigits 4 none ∈ lw_G := lwG tb_3 (List.mem_of_getElem? (i := 15) rfl) rfl
theorem gw_3_16 : Cond.constantLong RX3 64 (2147483647) ∈ lw_G := lwG tb_3 (List.mem_of_getElem? (i := 16) rfl) rfl
theorem gw_3_17 : Cond.constantLong RX3 66 (10) ∈ lw_G := lwG tb_3 (List.mem_of_getElem? (i := 17) rfl) rfl
theorem gw_3_18 : Cond.methodLink RX3 58 yX3_isSign ∈ lw_G := lwG tb_3 (List.mem_of_getElem? (i := 18) rfl) rfl
theorem gw_3_19 : Cond.static yX3_isSign ∈ lw_G := lwG tb_3 (List.mem_of_getElem? (i := 19) rfl) rfl
theorem gw_3_20 : Cond.code yX3_isSign cX3_isSign 1 (some .boolean) ∈ lw_G := lwG tb_3 (List.mem_of_getElem? (i := 20) rfl) rfl
theorem gw_3_28 : Cond.code yX0_operand cX0_operand 1 (some .int) ∈ lw_G := lwG tb_3 (List.mem_of_getElem? (i := 28) rfl) rfl
theorem gw_3_29 : Cond.methodLink RX0 75 yX3_hasDotBehind ∈ lw_G := lwG tb_3 (List.mem_of_getElem? (i := 29) rfl) rfl
theorem gw_3_30 : Cond.instanceMethod yX3_hasDotBehind ∈ lw_G := lwG tb_3 (List.mem_of_getElem? (i := 30) rfl) rfl
theorem gw_3_31 : Cond.selects RX3 yX3_hasDotBehind yX3_hasDotBehind ∈ lw_G := lwG tb_3 (List.mem_of_getElem? (i := 31) rfl) rfl
theorem gw_3_32 : Cond.code yX3_hasDotBehind cX3_hasDotBehind 2 (some .boolean) ∈ lw_G := lwG tb_3 (List.mem_of_getElem? (i := 32) rfl) rfl
theorem gw_3_33 : Cond.methodLink RX0 79 yX0_occNumber ∈ lw_G := lwG tb_3 (List.mem_of_getElem? (i := 33) rfl) rfl
theorem gw_3_35 : Cond.instanceMethod yX0_occNumber ∈ lw_G := lwG tb_3 (List.mem_of_getElem? (i := 35) rfl) rfl
theorem gw_3_36 : Cond.code yX0_occNumber cX0_occNumber 1 (some .int) ∈ lw_G := lwG tb_3 (List.mem_of_getElem? (i := 36) rfl) rfl
theorem gw_3_37 : Cond.methodLink RX0 100 yX0_isOneTooMany ∈ lw_G := lwG tb_3 (List.mem_of_getElem? (i := 37) rfl) rfl
theorem gw_3_39 : Cond.instanceMethod yX0_isOneTooMany ∈ lw_G := lwG tb_3 (List.mem_of_getElem? (i := 39) rfl) rfl
theorem gw_3_40 : Cond.code yX0_isOneTooMany cX0_isOneTooMany 1 (some .boolean) ∈ lw_G := lwG tb_3 (List.mem_of_getElem? (i := 40) rfl) rfl
theorem gw_3_41 : Cond.methodLink RX0 86 yX0_emitOperand ∈ lw_G := lwG tb_3 (List.mem_of_getElem? (i := 41) rfl) rfl
theorem gw_3_43 : Cond.instanceMethod yX0_emitOperand ∈ lw_G := lwG tb_3 (List.mem_of_getElem? (i := 43) rfl) rfl
theorem gw_3_44 : Cond.code yX0_emitOperand cX0_emitOperand 4 (some .int) ∈ lw_G := lwG tb_3 (List.mem_of_getElem? (i := 44) rfl) rfl
theorem gw_3_45 : Cond.constantLong RX0 116 (2147483647) ∈ lw_G := lwG tb_3 (List.mem_of_getElem? (i := 45) rfl) rfl
theorem gw_3_46 : Cond.methodLink RX0 118 yX1_addCode ∈ lw_G := lwG tb_3 (List.mem_of_getElem? (i := 46) rfl) rfl
theorem gw_3_47 : Cond.instanceMethod yX1_addCode ∈ lw_G := lwG tb_3 (List.mem_of_getElem? (i := 47) rfl) rfl
theorem gw_3_48 : Cond.selects RX1 yX1_addCode yX1_addCode ∈ lw_G := lwG tb_3 (List.mem_of_getElem? (i := 48) rfl) rfl
theorem gw_3_49 : Cond.code yX1_addCode cX1_addCode 3 none ∈ lw_G := lwG tb_3 (List.mem_of_getElem? (i := 49) rfl) rfl
theorem gw_3_50 : Cond.methodLink RX0 122 yX0_settle ∈ lw_G := lwG tb_3 (List.mem_of_getElem? (i := 50) rfl) rfl
theorem gw_3_52 : Cond.instanceMethod yX0_settle ∈ lw_G := lwG tb_3 (List.mem_of_getElem? (i := 52) rfl) rfl
theorem gw_3_53 : Cond.code yX0_settle cX0_settle 4 none ∈ lw_G := lwG tb_3 (List.mem_of_getElem? (i := 53) rfl) rfl
theorem gw_3_54 : Cond.methodLink RX0 153 yX0_bindingOf ∈ lw_G := lwG tb_3 (List.mem_of_getElem? (i := 54) rfl) rfl
theorem gw_3_55 : Cond.static yX0_bindingOf ∈ lw_G := lwG tb_3 (List.mem_of_getElem? (i := 55) rfl) rfl
theorem gw_3_56 : Cond.code yX0_bindingOf cX0_bindingOf 1 (some .int) ∈ lw_G := lwG tb_3 (List.mem_of_getElem? (i := 56) rfl) rfl
theorem gw_3_57 : Cond.methodLink RX0 90 yX0_open ∈ lw_G := lwG tb_3 (List.mem_of_getElem? (i := 57) rfl) rfl
theorem gw_3_59 : Cond.instanceMethod yX0_open ∈ lw_G := lwG tb_3 (List.mem_of_getElem? (i := 59) rfl) rfl
theorem gw_3_60 : Cond.code yX0_open cX0_open 2 (some .int) ∈ lw_G := lwG tb_3 (List.mem_of_getElem? (i := 60) rfl) rfl
theorem gw_3_61 : Cond.methodLink RX0 126 yX0_await ∈ lw_G := lwG tb_3 (List.mem_of_getElem? (i := 61) rfl) rfl
theorem gw_3_63 : Cond.instanceMethod yX0_await ∈ lw_G := lwG tb_3 (List.mem_of_getElem? (i := 63) rfl) rfl
theorem gw_3_64 : Cond.code yX0_await cX0_await 2 (some .int) ∈ lw_G := lwG tb_3 (List.mem_of_getElem? (i := 64) rfl) rfl
theorem gw_3_65 : Cond.methodLink RX0 94 yX0_topBinds ∈ lw_G := lwG tb_3 (List.mem_of_getElem? (i := 65) rfl) rfl
theorem gw_3_67 : Cond.instanceMethod yX0_topBinds ∈ lw_G := lwG tb_3 (List.mem_of_getElem? (i := 67) rfl) rfl
theorem gw_3_68 : Cond.code yX0_topBinds cX0_topBinds 1 (some .int) ∈ lw_G := lwG tb_3 (List.mem_of_getElem? (i := 68) rfl) rfl
theorem gw_3_69 : Cond.methodLink RX0 144 yX0_top ∈ lw_G := lwG tb_3 (List.mem_of_getElem? (i := 69) rfl) rfl
theorem gw_3_71 : Cond.instanceMethod yX0_top ∈ lw_G := lwG tb_3 (List.mem_of_getElem? (i := 71) rfl) rfl
theorem gw_3_72 : Cond.code yX0_top cX0_top 1 (some .int) ∈ lw_G := lwG tb_3 (List.mem_of_getElem? (i := 72) rfl) rfl
theorem gw_3_76 : Cond.code yX0_occDot cX0_occDot 1 (some .int) ∈ lw_G := lwG tb_3 (List.mem_of_getElem? (i := 76) rfl) rfl
theorem gw_3_80 : Cond.code yX0_occName cX0_occName 3 (some .int) ∈ lw_G := lwG tb_3 (List.mem_of_getElem? (i := 80) rfl) rfl
theorem gw_3_81 : Cond.methodLink RX0 103 yX1_symbolAt ∈ lw_G := lwG tb_3 (List.mem_of_getElem? (i := 81) rfl) rfl
theorem gw_3_82 : Cond.instanceMethod yX1_symbolAt ∈ lw_G := lwG tb_3 (List.mem_of_getElem? (i := 82) rfl) rfl
theorem gw_3_83 : Cond.selects RX1 yX1_symbolAt yX1_symbolAt ∈ lw_G := lwG tb_3 (List.mem_of_getElem? (i := 83) rfl) rfl
theorem gw_3_84 : Cond.code yX1_symbolAt cX1_symbolAt 3 (some .int) ∈ lw_G := lwG tb_3 (List.mem_of_getElem? (i := 84) rfl) rfl
theorem gw_3_85 : Cond.methodLink RX0 110 yX1_findAttribute ∈ lw_G := lwG tb_3 (List.mem_of_getElem? (i := 85) rfl) rfl
theorem gw_3_86 : Cond.instanceMethod yX1_findAttribute ∈ lw_G := lwG tb_3 (List.mem_of_getElem? (i := 86) rfl) rfl
theorem gw_3_87 : Cond.selects RX1 yX1_findAttribute yX1_findAttribute ∈ lw_G := lwG tb_3 (List.mem_of_getElem? (i := 87) rfl) rfl
theorem gw_3_88 : Cond.code yX1_findAttribute cX1_findAttribute 5 (some .int) ∈ lw_G := lwG tb_3 (List.mem_of_getElem? (i := 88) rfl) rfl
theorem gw_3_92 : Cond.code yX0_operator cX0_operator 1 (some .int) ∈ lw_G := lwG tb_3 (List.mem_of_getElem? (i := 92) rfl) rfl
theorem gw_3_93 : Cond.methodLink RX0 129 yX0_binary ∈ lw_G := lwG tb_3 (List.mem_of_getElem? (i := 93) rfl) rfl
theorem gw_3_95 : Cond.instanceMethod yX0_binary ∈ lw_G := lwG tb_3 (List.mem_of_getElem? (i := 95) rfl) rfl
theorem gw_3_96 : Cond.code yX0_binary cX0_binary 2 (some .int) ∈ lw_G := lwG tb_3 (List.mem_of_getElem? (i := 96) rfl) rfl
theorem gw_3_97 : Cond.methodLink RX0 132 yX0_compare ∈ lw_G := lwG tb_3 (List.mem_of_getElem? (i := 97) rfl) rfl
theorem gw_3_99 : Cond.instanceMethod yX0_compare ∈ lw_G := lwG tb_3 (List.mem_of_getElem? (i := 99) rfl) rfl
theorem gw_3_100 : Cond.code yX0_compare cX0_compare 1 (some .int) ∈ lw_G := lwG tb_3 (List.mem_of_getElem? (i := 100) rfl) rfl
theorem gw_3_101 : Cond.methodLink RX0 135 yX0_closeParenthesis ∈ lw_G := lwG tb_3 (List.mem_of_getElem? (i := 101) rfl) rfl
theorem gw_3_103 : Cond.instanceMethod yX0_closeParenthesis ∈ lw_G := lwG tb_3 (List.mem_of_getElem? (i := 103) rfl) rfl
theorem gw_3_104 : Cond.code yX0_closeParenthesis cX0_closeParenthesis 1 (some .int) ∈ lw_G := lwG tb_3 (List.mem_of_getElem? (i := 104) rfl) rfl
theorem gw_3_105 : Cond.methodLink RX0 138 yX0_turn ∈ lw_G := lwG tb_3 (List.mem_of_getElem? (i := 105) rfl) rfl
theorem gw_3_107 : Cond.instanceMethod yX0_turn ∈ lw_G := lwG tb_3 (List.mem_of_getElem? (i := 107) rfl) rfl
theorem gw_3_108 : Cond.code yX0_turn cX0_turn 3 (some .int) ∈ lw_G := lwG tb_3 (List.mem_of_getElem? (i := 108) rfl) rfl
theorem gw_3_109 : Cond.methodLink RX0 141 yX0_finish ∈ lw_G := lwG tb_3 (List.mem_of_getElem? (i := 109) rfl) rfl
theorem gw_3_111 : Cond.instanceMethod yX0_finish ∈ lw_G := lwG tb_3 (List.mem_of_getElem? (i := 111) rfl) rfl
theorem gw_3_112 : Cond.code yX0_finish cX0_finish 1 (some .int) ∈ lw_G := lwG tb_3 (List.mem_of_getElem? (i := 112) rfl) rfl
theorem gw_3_128 : Cond.code yX1_findSymbol cX1_findSymbol 4 (some .int) ∈ lw_G := lwG tb_3 (List.mem_of_getElem? (i := 128) rfl) rfl
theorem gw_3_132 : Cond.code yX1_addSymbol cX1_addSymbol 3 none ∈ lw_G := lwG tb_3 (List.mem_of_getElem? (i := 132) rfl) rfl
theorem gw_3_149 : Cond.code yX1_addAttribute cX1_addAttribute 7 none ∈ lw_G := lwG tb_3 (List.mem_of_getElem? (i := 149) rfl) rfl
theorem gw_3_165 : Cond.code yX1_findRule cX1_findRule 4 (some .int) ∈ lw_G := lwG tb_3 (List.mem_of_getElem? (i := 165) rfl) rfl
theorem gw_3_169 : Cond.code yX1_addRule cX1_addRule 4 none ∈ lw_G := lwG tb_3 (List.mem_of_getElem? (i := 169) rfl) rfl
theorem gw_3_190 : Cond.code yX1_mayTell cX1_mayTell 4 (some .boolean) ∈ lw_G := lwG tb_3 (List.mem_of_getElem? (i := 190) rfl) rfl
theorem gw_4_115 : Cond.code yX1_isInherited cX1_isInherited 3 (some .boolean) ∈ lw_G := lwG tb_4 (List.mem_of_getElem? (i := 115) rfl) rfl
theorem gs_X0_await : Cond.selects RX0 yX0_await yX0_await ∈ lw_G := lwG (fun _ h => List.mem_append_left _ h) (List.mem_of_getElem? (i := 0) rfl) rfl
theorem gs_X0_binary : Cond.selects RX0 yX0_binary yX0_binary ∈ lw_G := lwG (fun _ h => List.mem_append_left _ h) (List.mem_of_getElem? (i := 1) rfl) rfl
theorem gs_X0_closeParenthesis : Cond.selects RX0 yX0_closeParenthesis yX0_closeParenthesis ∈ lw_G := lwG (fun _ h => List.mem_append_left _ h) (List.mem_of_getElem? (i := 2) rfl) rfl
theorem gs_X0_compare : Cond.selects RX0 yX0_compare yX0_compare ∈ lw_G := lwG (fun _ h => List.mem_append_left _ h) (List.mem_of_getElem? (i := 3) rfl) rfl
theorem gs_X0_emitOperand : Cond.selects RX0 yX0_emitOperand yX0_emitOperand ∈ lw_G := lwG (fun _ h => List.mem_append_left _ h) (List.mem_of_getElem? (i := 4) rfl) rfl
theorem gs_X0_finish : Cond.selects RX0 yX0_finish yX0_finish ∈ lw_G := lwG (fun _ h => List.mem_append_left _ h) (List.mem_of_getElem? (i := 5) rfl) rfl
theorem gs_X0_isOneTooMany : Cond.selects RX0 yX0_isOneTooMany yX0_isOneTooMany ∈ lw_G := lwG (fun _ h => List.mem_append_left _ h) (List.mem_of_getElem? (i := 6) rfl) rfl
theorem gs_X0_occNumber : Cond.selects RX0 yX0_occNumber yX0_occNumber ∈ lw_G := lwG (fun _ h => List.mem_append_left _ h) (List.mem_of_getElem? (i := 7) rfl) rfl
theorem gs_X0_open : Cond.selects RX0 yX0_open yX0_open ∈ lw_G := lwG (fun _ h => List.mem_append_left _ h) (List.mem_of_getElem? (i := 8) rfl) rfl
theorem gs_X0_settle : Cond.selects RX0 yX0_settle yX0_settle ∈ lw_G := lwG (fun _ h => List.mem_append_left _ h) (List.mem_of_getElem? (i := 9) rfl) rfl
theorem gs_X0_top : Cond.selects RX0 yX0_top yX0_top ∈ lw_G := lwG (fun _ h => List.mem_append_left _ h) (List.mem_of_getElem? (i := 10) rfl) rfl
theorem gs_X0_topBinds : Cond.selects RX0 yX0_topBinds yX0_topBinds ∈ lw_G := lwG (fun _ h => List.mem_append_left _ h) (List.mem_of_getElem? (i := 11) rfl) rfl
theorem gs_X0_turn : Cond.selects RX0 yX0_turn yX0_turn ∈ lw_G := lwG (fun _ h => List.mem_append_left _ h) (List.mem_of_getElem? (i := 12) rfl) rfl
theorem gs_X3_skipBlanks : Cond.selects RX3 yX3_skipBlanks yX3_skipBlanks ∈ lw_G := lwG (fun _ h => List.mem_append_left _ h) (List.mem_of_getElem? (i := 13) rfl) rfl
theorem gs_X3_takeDigits : Cond.selects RX3 yX3_takeDigits yX3_takeDigits ∈ lw_G := lwG (fun _ h => List.mem_append_left _ h) (List.mem_of_getElem? (i := 14) rfl) rfl
theorem gs_X3_takeLetters : Cond.selects RX3 yX3_takeLetters yX3_takeLetters ∈ lw_G := lwG (fun _ h => List.mem_append_left _ h) (List.mem_of_getElem? (i := 15) rfl) rfl
theorem gI_Y {c : Cond} (h : c ∈ lw_G) : GoodIn lw_G (c :: lw_G) := fun w hw => (List.mem_cons.mp hw).elim (fun q => by rw [q]; exact ⟨h, lwG_good h⟩) (fun q => ⟨q, lwG_good q⟩)
theorem gI_V {own C : String} {idx : Nat} {y : MethodName} {ws : List Cond} (h1 : Cond.methodLink own idx y ∈ lw_G) (h2 : Cond.instanceMethod y ∈ lw_G) (h3 : Cond.selects C y y ∈ lw_G) (h4 : Cond.initialized C ∈ lw_G) (h : GoodIn lw_G ws) : GoodIn lw_G (wsV own idx C y ws) := by
  intro w hw
  unfold wsV at hw
  rcases List.mem_append.mp hw with q | q
  · rcases List.mem_cons.mp q with rfl | q
    · exact ⟨h1, lwG_good h1⟩
    · rcases List.mem_cons.mp q with rfl | q
      · exact ⟨h2, lwG_good h2⟩
      · rcases List.mem_cons.mp q with rfl | q
        · exact ⟨h3, lwG_good h3⟩
        · rcases List.mem_cons.mp q with rfl | q
          · exact ⟨h4, lwG_good h4⟩
          · exact absurd q List.not_mem_nil
  · exact h w q
theorem gI_S {own : String} {idx : Nat} {y : MethodName} {ws : List Cond} (h1 : Cond.methodLink own idx y ∈ lw_G) (h2 : Cond.static y ∈ lw_G) (h3 : Cond.initialized y.cls ∈ lw_G) (h : GoodIn lw_G ws) : GoodIn lw_G (va_wsS own idx y ws) := by
  intro w hw
  unfold va_wsS at hw
  rcases List.mem_append.mp hw with q | q
  · rcases List.mem_cons.mp q with rfl | q
    · exact ⟨h1, lwG_good h1⟩
    · rcases List.mem_cons.mp q with rfl | q
      · exact ⟨h2, lwG_good h2⟩
      · rcases List.mem_cons.mp q with rfl | q
        · exact ⟨h3, lwG_good h3⟩
        · exact absurd q List.not_mem_nil
  · exact h w q
theorem inG_X0 : ∀ w ∈ wsX00, w ∈ lw_G := fun w h => by
  obtain ⟨k, hk, rfl⟩ := List.mem_map.mp h
  exact (match k, List.mem_range.mp hk with
    | 0, _ => gw_1_216
    | 1, _ => gw_1_218
    | 2, _ => gw_1_220
    | 3, _ => gw_1_222
    | 4, _ => gw_1_224
    | 5, _ => gw_1_226
    | 6, _ => gw_1_228
    | 7, _ => gw_1_230
    | 8, _ => gw_1_232
    | 9, _ => gw_1_234
    | 10, _ => gw_1_236
    | j + 11, h => absurd h (by omega))
theorem inG_X1 : ∀ w ∈ wsX10, w ∈ lw_G := fun w h => by
  obtain ⟨k, hk, rfl⟩ := List.mem_map.mp h
  exact (match k, List.mem_range.mp hk with
    | 0, _ => gw_1_73
    | 1, _ => gw_1_75
    | 2, _ => gw_1_77
    | 3, _ => gw_1_79
    | 4, _ => gw_1_81
    | 5, _ => gw_1_83
    | 6, _ => gw_1_85
    | 7, _ => gw_1_87
    | 8, _ => gw_1_89
    | 9, _ => gw_1_91
    | 10, _ => gw_1_93
    | 11, _ => gw_1_95
    | 12, _ => gw_1_97
    | 13, _ => gw_1_99
    | 14, _ => gw_1_101
    | 15, _ => gw_1_103
    | 16, _ => gw_1_105
    | 17, _ => gw_1_107
    | j + 18, h => absurd h (by omega))
theorem inG_X3 : ∀ w ∈ wsX30, w ∈ lw_G := fun w h => by
  obtain ⟨k, hk, rfl⟩ := List.mem_map.mp h
  exact (match k, List.mem_range.mp hk with
    | 0, _ => gw_1_177
    | 1, _ => gw_1_179
    | 2, _ => gw_1_181
    | 3, _ => gw_1_183
    | 4, _ => gw_1_185
    | 5, _ => gw_1_187
    | 6, _ => gw_1_189
    | j + 7, h => absurd h (by omega))
noncomputable def wyX0_await : List Cond := .code yX0_await cX0_await 2 (some .int) :: lw_G
theorem gy_X0_await : GoodIn lw_G wyX0_await := gI_Y gw_3_64
noncomputable def wyX0_binary : List Cond := .code yX0_binary cX0_binary 2 (some .int) :: lw_G
theorem gy_X0_binary : GoodIn lw_G wyX0_binary := gI_Y gw_3_96
noncomputable def wyX0_bindingOf : List Cond := .code yX0_bindingOf cX0_bindingOf 1 (some .int) :: lw_G
theorem gy_X0_bindingOf : GoodIn lw_G wyX0_bindingOf := gI_Y gw_3_56
noncomputable def wyX0_closeParenthesis : List Cond := .code yX0_closeParenthesis cX0_closeParenthesis 1 (some .int) :: lw_G
theorem gy_X0_closeParenthesis : GoodIn lw_G wyX0_closeParenthesis := gI_Y gw_3_104
noncomputable def wyX0_compare : List Cond := .code yX0_compare cX0_compare 1 (some .int) :: lw_G
theorem gy_X0_compare : GoodIn lw_G wyX0_compare := gI_Y gw_3_100
noncomputable def wyX0_emitOperand : List Cond := .code yX0_emitOperand cX0_emitOperand 4 (some .int) :: lw_G
theorem gy_X0_emitOperand : GoodIn lw_G wyX0_emitOperand := gI_Y gw_3_44
noncomputable def wyX0_finish : List Cond := .code yX0_finish cX0_finish 1 (some .int) :: lw_G
theorem gy_X0_finish : GoodIn lw_G wyX0_finish := gI_Y gw_3_112
noncomputable def wyX0_isOneTooMany : List Cond := .code yX0_isOneTooMany cX0_isOneTooMany 1 (some .boolean) :: lw_G
theorem gy_X0_isOneTooMany : GoodIn lw_G wyX0_isOneTooMany := gI_Y gw_3_40
noncomputable def wyX0_occDot : List Cond := .code yX0_occDot cX0_occDot 1 (some .int) :: lw_G
theorem gy_X0_occDot : GoodIn lw_G wyX0_occDot := gI_Y gw_3_76
noncomputable def wyX0_occName : List Cond := .code yX0_occName cX0_occName 3 (some .int) :: lw_G
theorem gy_X0_occName : GoodIn lw_G wyX0_occName := gI_Y gw_3_80
noncomputable def wyX0_occNumber : List Cond := .code yX0_occNumber cX0_occNumber 1 (some .int) :: lw_G
theorem gy_X0_occNumber : GoodIn lw_G wyX0_occNumber := gI_Y gw_3_36
noncomputable def wyX0_open : List Cond := .code yX0_open cX0_open 2 (some .int) :: lw_G
theorem gy_X0_open : GoodIn lw_G wyX0_open := gI_Y gw_3_60
noncomputable def wyX0_operand : List Cond := .code yX0_operand cX0_operand 1 (some .int) :: lw_G
theorem gy_X0_operand : GoodIn lw_G wyX0_operand := gI_Y gw_3_28
noncomputable def wyX0_operator : List Cond := .code yX0_operator cX0_operator 1 (some .int) :: lw_G
theorem gy_X0_operator : GoodIn lw_G wyX0_operator := gI_Y gw_3_92
noncomputable def wyX0_settle : List Cond := .code yX0_settle cX0_settle 4 none :: lw_G
theorem gy_X0_settle : GoodIn lw_G wyX0_settle := gI_Y gw_3_53
noncomputable def wyX0_top : List Cond := .code yX0_top cX0_top 1 (some .int) :: lw_G
theorem gy_X0_top : GoodIn lw_G wyX0_top := gI_Y gw_3_72
noncomputable def wyX0_topBinds : List Cond := .code yX0_topBinds cX0_topBinds 1 (some .int) :: lw_G
theorem gy_X0_topBinds : GoodIn lw_G wyX0_topBinds := gI_Y gw_3_68
noncomputable def wyX0_turn : List Cond := .code yX0_turn cX0_turn 3 (some .int) :: lw_G
theorem gy_X0_turn : GoodIn lw_G wyX0_turn := gI_Y gw_3_108
noncomputable def wyX1_addAttribute : List Cond := .code yX1_addAttribute cX1_addAttribute 7 none :: lw_G
theorem gy_X1_addAttribute : GoodIn lw_G wyX1_addAttribute := gI_Y gw_3_149
noncomputable def wyX1_addCode : List Cond := .code yX1_addCode cX1_addCode 3 none :: lw_G
theorem gy_X1_addCode : GoodIn lw_G wyX1_addCode := gI_Y gw_3_49
noncomputable def wyX1_addRule : List Cond := .code yX1_addRule cX1_addRule 4 none :: lw_G
theorem gy_X1_addRule : GoodIn lw_G wyX1_addRule := gI_Y gw_3_169
noncomputable def wyX1_addSymbol : List Cond := .code yX1_addSymbol cX1_addSymbol 3 none :: lw_G
theorem gy_X1_addSymbol : GoodIn lw_G wyX1_addSymbol := gI_Y gw_3_132
noncomputable def wyX1_clear : List Cond := .code yX1_clear cX1_clear 1 none :: lw_G
theorem gy_X1_clear : GoodIn lw_G wyX1_clear := gI_Y gw_2_223
noncomputable def wyX1_findAttribute : List Cond := .code yX1_findAttribute cX1_findAttribute 5 (some .int) :: lw_G
theorem gy_X1_findAttribute : GoodIn lw_G wyX1_findAttribute := gI_Y gw_3_88
noncomputable def wyX1_findRule : List Cond := .code yX1_findRule cX1_findRule 4 (some .int) :: lw_G
theorem gy_X1_findRule : GoodIn lw_G wyX1_findRule := gI_Y gw_3_165
noncomputable def wyX1_findSymbol : List Cond := .code yX1_findSymbol cX1_findSymbol 4 (some .int) :: lw_G
theorem gy_X1_findSymbol : GoodIn lw_G wyX1_findSymbol := gI_Y gw_3_128
noncomputable def wyX1_isInherited : List Cond := .code yX1_isInherited cX1_isInherited 3 (some .boolean) :: lw_G
theorem gy_X1_isInherited : GoodIn lw_G wyX1_isInherited := gI_Y gw_4_115
noncomputable def wyX1_mayTell : List Cond := .code yX1_mayTell cX1_mayTell 4 (some .boolean) :: lw_G
theorem gy_X1_mayTell : GoodIn lw_G wyX1_mayTell := gI_Y gw_3_190
noncomputable def wyX1_symbolAt : List Cond := .code yX1_symbolAt cX1_symbolAt 3 (some .int) :: lw_G
theorem gy_X1_symbolAt : GoodIn lw_G wyX1_symbolAt := gI_Y gw_3_84
noncomputable def wyX3_begin : List Cond := .code yX3_begin cX3_begin 2 none :: lw_G
theorem gy_X3_begin : GoodIn lw_G wyX3_begin := gI_Y gw_2_227
noncomputable def wyX3_hasDotBehind : List Cond := .code yX3_hasDotBehind cX3_hasDotBehind 2 (some .boolean) :: lw_G
theorem gy_X3_hasDotBehind : GoodIn lw_G wyX3_hasDotBehind := gI_Y gw_3_32
noncomputable def wyX3_isDigit : List Cond := .code yX3_isDigit cX3_isDigit 1 (some .boolean) :: lw_G
theorem gy_X3_isDigit : GoodIn lw_G wyX3_isDigit := gI_Y gw_3_11
noncomputable def wyX3_isLetter : List Cond := .code yX3_isLetter cX3_isLetter 1 (some .boolean) :: lw_G
theorem gy_X3_isLetter : GoodIn lw_G wyX3_isLetter := gI_Y gw_3_1
noncomputable def wyX3_isSign : List Cond := .code yX3_isSign cX3_isSign 1 (some .boolean) :: lw_G
theorem gy_X3_isSign : GoodIn lw_G wyX3_isSign := gI_Y gw_3_20
noncomputable def wyX3_keywordOrName : List Cond := .code yX3_keywordOrName cX3_keywordOrName 1 (some .int) :: lw_G
theorem gy_X3_keywordOrName : GoodIn lw_G wyX3_keywordOrName := gI_Y gw_3_8
noncomputable def wyX3_next : List Cond := .code yX3_next cX3_next 2 none :: lw_G
theorem gy_X3_next : GoodIn lw_G wyX3_next := gI_Y gw_2_234
noncomputable def wyX3_skipBlanks : List Cond := .code yX3_skipBlanks cX3_skipBlanks 3 (some .int) :: lw_G
theorem gy_X3_skipBlanks : GoodIn lw_G wyX3_skipBlanks := gI_Y gw_2_238
noncomputable def wyX3_takeDigits : List Cond := .code yX3_takeDigits cX3_takeDigits 4 none :: lw_G
theorem gy_X3_takeDigits : GoodIn lw_G wyX3_takeDigits := gI_Y gw_3_15
noncomputable def wyX3_takeLetters : List Cond := .code yX3_takeLetters cX3_takeLetters 5 none :: lw_G
theorem gy_X3_takeLetters : GoodIn lw_G wyX3_takeLetters := gI_Y gw_3_5
theorem gc_X0_100 : GoodIn lw_G (wsV RX0 100 RX0 yX0_isOneTooMany wyX0_isOneTooMany) := gI_V gw_3_37 gw_3_39 gs_X0_isOneTooMany gw_1_6 gy_X0_isOneTooMany
theorem gc_X0_103 : GoodIn lw_G (wsV RX0 103 RX1 yX1_symbolAt wyX1_symbolAt) := gI_V gw_3_81 gw_3_82 gw_3_83 gw_1_2 gy_X1_symbolAt
theorem gc_X0_110 : GoodIn lw_G (wsV RX0 110 RX1 yX1_findAttribute wyX1_findAttribute) := gI_V gw_3_85 gw_3_86 gw_3_87 gw_1_2 gy_X1_findAttribute
theorem gc_X0_118 : GoodIn lw_G (wsV RX0 118 RX1 yX1_addCode wyX1_addCode) := gI_V gw_3_46 gw_3_47 gw_3_48 gw_1_2 gy_X1_addCode
theorem gc_X0_122 : GoodIn lw_G (wsV RX0 122 RX0 yX0_settle wyX0_settle) := gI_V gw_3_50 gw_3_52 gs_X0_settle gw_1_6 gy_X0_settle
theorem gc_X0_126 : GoodIn lw_G (wsV RX0 126 RX0 yX0_await wyX0_await) := gI_V gw_3_61 gw_3_63 gs_X0_await gw_1_6 gy_X0_await
theorem gc_X0_129 : GoodIn lw_G (wsV RX0 129 RX0 yX0_binary wyX0_binary) := gI_V gw_3_93 gw_3_95 gs_X0_binary gw_1_6 gy_X0_binary
theorem gc_X0_132 : GoodIn lw_G (wsV RX0 132 RX0 yX0_compare wyX0_compare) := gI_V gw_3_97 gw_3_99 gs_X0_compare gw_1_6 gy_X0_compare
theorem gc_X0_135 : GoodIn lw_G (wsV RX0 135 RX0 yX0_closeParenthesis wyX0_closeParenthesis) := gI_V gw_3_101 gw_3_103 gs_X0_closeParenthesis gw_1_6 gy_X0_closeParenthesis
theorem gc_X0_138 : GoodIn lw_G (wsV RX0 138 RX0 yX0_turn wyX0_turn) := gI_V gw_3_105 gw_3_107 gs_X0_turn gw_1_6 gy_X0_turn
theorem gc_X0_141 : GoodIn lw_G (wsV RX0 141 RX0 yX0_finish wyX0_finish) := gI_V gw_3_109 gw_3_111 gs_X0_finish gw_1_6 gy_X0_finish
theorem gc_X0_144 : GoodIn lw_G (wsV RX0 144 RX0 yX0_top wyX0_top) := gI_V gw_3_69 gw_3_71 gs_X0_top gw_1_6 gy_X0_top
theorem gc_X0_153 : GoodIn lw_G (va_wsS RX0 153 yX0_bindingOf wyX0_bindingOf) := gI_S gw_3_54 gw_3_55 gw_1_6 gy_X0_bindingOf
theorem gc_X0_75 : GoodIn lw_G (wsV RX0 75 RX3 yX3_hasDotBehind wyX3_hasDotBehind) := gI_V gw_3_29 gw_3_30 gw_3_31 gw_1_4 gy_X3_hasDotBehind
theorem gc_X0_79 : GoodIn lw_G (wsV RX0 79 RX0 yX0_occNumber wyX0_occNumber) := gI_V gw_3_33 gw_3_35 gs_X0_occNumber gw_1_6 gy_X0_occNumber
theorem gc_X0_86 : GoodIn lw_G (wsV RX0 86 RX0 yX0_emitOperand wyX0_emitOperand) := gI_V gw_3_41 gw_3_43 gs_X0_emitOperand gw_1_6 gy_X0_emitOperand
theorem gc_X0_90 : GoodIn lw_G (wsV RX0 90 RX0 yX0_open wyX0_open) := gI_V gw_3_57 gw_3_59 gs_X0_open gw_1_6 gy_X0_open
theorem gc_X0_94 : GoodIn lw_G (wsV RX0 94 RX0 yX0_topBinds wyX0_topBinds) := gI_V gw_3_65 gw_3_67 gs_X0_topBinds gw_1_6 gy_X0_topBinds
theorem gc_X3_41 : GoodIn lw_G (wsV RX3 41 RX3 yX3_skipBlanks wyX3_skipBlanks) := gI_V gw_2_235 gw_2_237 gs_X3_skipBlanks gw_1_4 gy_X3_skipBlanks
theorem gc_X3_45 : GoodIn lw_G (va_wsS RX3 45 yX3_isLetter wyX3_isLetter) := gI_S gw_2_239 gw_3_0 gw_1_4 gy_X3_isLetter
theorem gc_X3_49 : GoodIn lw_G (wsV RX3 49 RX3 yX3_takeLetters wyX3_takeLetters) := gI_V gw_3_2 gw_3_4 gs_X3_takeLetters gw_1_4 gy_X3_takeLetters
theorem gc_X3_52 : GoodIn lw_G (va_wsS RX3 52 yX3_isDigit wyX3_isDigit) := gI_S gw_3_9 gw_3_10 gw_1_4 gy_X3_isDigit
theorem gc_X3_55 : GoodIn lw_G (wsV RX3 55 RX3 yX3_takeDigits wyX3_takeDigits) := gI_V gw_3_12 gw_3_14 gs_X3_takeDigits gw_1_4 gy_X3_takeDigits
theorem gc_X3_58 : GoodIn lw_G (va_wsS RX3 58 yX3_isSign wyX3_isSign) := gI_S gw_3_18 gw_3_19 gw_1_4 gy_X3_isSign
theorem gc_X3_61 : GoodIn lw_G (va_wsS RX3 61 yX3_keywordOrName wyX3_keywordOrName) := gI_S gw_3_6 gw_3_7 gw_1_4 gy_X3_keywordOrName
