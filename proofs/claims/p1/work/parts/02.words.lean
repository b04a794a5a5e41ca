/-- a private method of a class that the tables say can be made, by its rows of tables_1 -/
def lw_okq (q : MethodName × Nat) : Prop := (q.1.cls ≠ "java/lang/invoke/MethodHandle" ∧ q.1.cls ≠ "java/lang/invoke/VarHandle") ∧ Cond.instantiable q.1.cls q.2 ∈ tables_1 ∧ Cond.privateMethod q.1 ∈ tables_1 ∧ Cond.instanceMethod q.1 ∈ tables_1
theorem ta_1 : ∀ w ∈ tables_1_1, w ∈ tables_1 := fun _ h => List.mem_append_left _ h
theorem ta_2 : ∀ w ∈ tables_1_2, w ∈ tables_1 := fun _ h => List.mem_append_right _ (List.mem_append_left _ h)
theorem ta_3 : ∀ w ∈ tables_1_3, w ∈ tables_1 := fun _ h => List.mem_append_right _ (List.mem_append_right _ (List.mem_append_left _ h))
theorem ta_4 : ∀ w ∈ tables_1_4, w ∈ tables_1 := fun _ h => List.mem_append_right _ (List.mem_append_right _ (List.mem_append_right _ (List.mem_append_left _ h)))
theorem ta_5 : ∀ w ∈ tables_1_5, w ∈ tables_1 := fun _ h => List.mem_append_right _ (List.mem_append_right _ (List.mem_append_right _ (List.mem_append_right _ (List.mem_append_left _ h))))
theorem ta_6 : ∀ w ∈ tables_1_6, w ∈ tables_1 := fun _ h => List.mem_append_right _ (List.mem_append_right _ (List.mem_append_right _ (List.mem_append_right _ (List.mem_append_right _ (List.mem_append_left _ h)))))
theorem ta_7 : ∀ w ∈ tables_1_7, w ∈ tables_1 := fun _ h => List.mem_append_right _ (List.mem_append_right _ (List.mem_append_right _ (List.mem_append_right _ (List.mem_append_right _ (List.mem_append_right _ h)))))
theorem lw_p0 : lw_okq (yX8_isItem, 13) := ⟨⟨by decide +kernel, by decide +kernel⟩, ta_1 _ (List.mem_of_getElem? (i := 13) rfl), ta_4 _ (List.mem_of_getElem? (i := 159) rfl), ta_4 _ (List.mem_of_getElem? (i := 160) rfl)⟩
theorem lw_p1 : lw_okq (yX8_isNode, 13) := ⟨⟨by decide +kernel, by decide +kernel⟩, ta_1 _ (List.mem_of_getElem? (i := 13) rfl), ta_4 _ (List.mem_of_getElem? (i := 142) rfl), ta_4 _ (List.mem_of_getElem? (i := 143) rfl)⟩
theorem lw_p2 : lw_okq (yX8_keepFault, 13) := ⟨⟨by decide +kernel, by decide +kernel⟩, ta_1 _ (List.mem_of_getElem? (i := 13) rfl), ta_3 _ (List.mem_of_getElem? (i := 208) rfl), ta_3 _ (List.mem_of_getElem? (i := 209) rfl)⟩
theorem lw_p3 : lw_okq (yX8_putWord, 13) := ⟨⟨by decide +kernel, by decide +kernel⟩, ta_1 _ (List.mem_of_getElem? (i := 13) rfl), ta_2 _ (List.mem_of_getElem? (i := 205) rfl), ta_2 _ (List.mem_of_getElem? (i := 206) rfl)⟩
theorem lw_p4 : lw_okq (yX2_goIf, 7) := ⟨⟨by decide +kernel, by decide +kernel⟩, ta_1 _ (List.mem_of_getElem? (i := 193) rfl), ta_3 _ (List.mem_of_getElem? (i := 151) rfl), ta_3 _ (List.mem_of_getElem? (i := 152) rfl)⟩
theorem lw_p5 : lw_okq (yX2_step, 7) := ⟨⟨by decide +kernel, by decide +kernel⟩, ta_1 _ (List.mem_of_getElem? (i := 193) rfl), ta_3 _ (List.mem_of_getElem? (i := 114) rfl), ta_3 _ (List.mem_of_getElem? (i := 115) rfl)⟩
theorem lw_p6 : lw_okq (yX2_symbolStep, 7) := ⟨⟨by decide +kernel, by decide +kernel⟩, ta_1 _ (List.mem_of_getElem? (i := 193) rfl), ta_3 _ (List.mem_of_getElem? (i := 118) rfl), ta_3 _ (List.mem_of_getElem? (i := 119) rfl)⟩
theorem lw_p7 : lw_okq (yX3_skipBlanks, 7) := ⟨⟨by decide +kernel, by decide +kernel⟩, ta_1 _ (List.mem_of_getElem? (i := 155) rfl), ta_2 _ (List.mem_of_getElem? (i := 236) rfl), ta_2 _ (List.mem_of_getElem? (i := 237) rfl)⟩
theorem lw_p8 : lw_okq (yX9_blanks, 80) := ⟨⟨by decide +kernel, by decide +kernel⟩, ta_4 _ (List.mem_of_getElem? (i := 237) rfl), ta_6 _ (List.mem_of_getElem? (i := 35) rfl), ta_6 _ (List.mem_of_getElem? (i := 36) rfl)⟩
theorem lw_p9 : lw_okq (yX9_fails, 80) := ⟨⟨by decide +kernel, by decide +kernel⟩, ta_4 _ (List.mem_of_getElem? (i := 237) rfl), ta_6 _ (List.mem_of_getElem? (i := 69) rfl), ta_6 _ (List.mem_of_getElem? (i := 70) rfl)⟩
theorem lw_p10 : lw_okq (yX9_isAttribute, 80) := ⟨⟨by decide +kernel, by decide +kernel⟩, ta_4 _ (List.mem_of_getElem? (i := 237) rfl), ta_7 _ (List.mem_of_getElem? (i := 65) rfl), ta_7 _ (List.mem_of_getElem? (i := 66) rfl)⟩
theorem lw_p11 : lw_okq (yX9_isWell, 80) := ⟨⟨by decide +kernel, by decide +kernel⟩, ta_4 _ (List.mem_of_getElem? (i := 237) rfl), ta_6 _ (List.mem_of_getElem? (i := 61) rfl), ta_6 _ (List.mem_of_getElem? (i := 62) rfl)⟩
theorem lw_p12 : lw_okq (yX9_isWord, 80) := ⟨⟨by decide +kernel, by decide +kernel⟩, ta_4 _ (List.mem_of_getElem? (i := 237) rfl), ta_6 _ (List.mem_of_getElem? (i := 57) rfl), ta_6 _ (List.mem_of_getElem? (i := 58) rfl)⟩
theorem lw_p13 : lw_okq (yX9_next, 80) := ⟨⟨by decide +kernel, by decide +kernel⟩, ta_4 _ (List.mem_of_getElem? (i := 237) rfl), ta_6 _ (List.mem_of_getElem? (i := 31) rfl), ta_6 _ (List.mem_of_getElem? (i := 32) rfl)⟩
theorem lw_p14 : lw_okq (yX9_put, 80) := ⟨⟨by decide +kernel, by decide +kernel⟩, ta_4 _ (List.mem_of_getElem? (i := 237) rfl), ta_6 _ (List.mem_of_getElem? (i := 8) rfl), ta_6 _ (List.mem_of_getElem? (i := 9) rfl)⟩
theorem lw_p15 : lw_okq (yX9_reads, 80) := ⟨⟨by decide +kernel, by decide +kernel⟩, ta_4 _ (List.mem_of_getElem? (i := 237) rfl), ta_6 _ (List.mem_of_getElem? (i := 27) rfl), ta_6 _ (List.mem_of_getElem? (i := 28) rfl)⟩
theorem lw_p16 : lw_okq (yX9_stray, 80) := ⟨⟨by decide +kernel, by decide +kernel⟩, ta_4 _ (List.mem_of_getElem? (i := 237) rfl), ta_6 _ (List.mem_of_getElem? (i := 65) rfl), ta_6 _ (List.mem_of_getElem? (i := 66) rfl)⟩
theorem lw_p17 : lw_okq (yX9_takesTape, 80) := ⟨⟨by decide +kernel, by decide +kernel⟩, ta_4 _ (List.mem_of_getElem? (i := 237) rfl), ta_6 _ (List.mem_of_getElem? (i := 23) rfl), ta_6 _ (List.mem_of_getElem? (i := 24) rfl)⟩
def lw_privs : List (MethodName × Nat) := [(yX8_isItem, 13), (yX8_isNode, 13), (yX8_keepFault, 13), (yX8_putWord, 13), (yX2_goIf, 7), (yX2_step, 7), (yX2_symbolStep, 7), (yX3_skipBlanks, 7), (yX9_blanks, 80), (yX9_fails, 80), (yX9_isAttribute, 80), (yX9_isWell, 80), (yX9_isWord, 80), (yX9_next, 80), (yX9_put, 80), (yX9_reads, 80), (yX9_stray, 80), (yX9_takesTape, 80)]
def lw_tbl : List Cond := k2_sels lw_privs ++ tables_1
set_option maxRecDepth 20000 in
theorem lw_privs_ok : ∀ q ∈ lw_privs, lw_okq q := List.forall_mem_cons.mpr ⟨lw_p0, List.forall_mem_cons.mpr ⟨lw_p1, List.forall_mem_cons.mpr ⟨lw_p2, List.forall_mem_cons.mpr ⟨lw_p3, List.forall_mem_cons.mpr ⟨lw_p4, List.forall_mem_cons.mpr ⟨lw_p5, List.forall_mem_cons.mpr ⟨lw_p6, List.forall_mem_cons.mpr ⟨lw_p7, List.forall_mem_cons.mpr ⟨lw_p8, List.forall_mem_cons.mpr ⟨lw_p9, List.forall_mem_cons.mpr ⟨lw_p10, List.forall_mem_cons.mpr ⟨lw_p11, List.forall_mem_cons.mpr ⟨lw_p12, List.forall_mem_cons.mpr ⟨lw_p13, List.forall_mem_cons.mpr ⟨lw_p14, List.forall_mem_cons.mpr ⟨lw_p15, List.forall_mem_cons.mpr ⟨lw_p16, List.forall_mem_cons.mpr ⟨lw_p17, fun _ h => absurd h List.not_mem_nil⟩⟩⟩⟩⟩⟩⟩⟩⟩⟩⟩⟩⟩⟩⟩⟩⟩⟩
/-- the words that any caller can hand to any method: those of the tables that stay what they are -/
theorem lwG_ex : ∃ G : List Cond, ∀ w : Cond, w ∈ G ↔ (w ∈ lw_tbl ∧ goodWord w = true) := ⟨lw_tbl.filter goodWord, fun _ => List.mem_filter⟩
noncomputable def lw_G : List Cond := Classical.choose lwG_ex
theorem lwG_iff (w : Cond) : w ∈ lw_G ↔ (w ∈ lw_tbl ∧ goodWord w = true) := Classical.choose_spec lwG_ex w
theorem lwG {w : Cond} {l : List Cond} (h : ∀ w ∈ l, w ∈ lw_tbl) (m : w ∈ l) (g : goodWord w = true) : w ∈ lw_G := (lwG_iff w).mpr ⟨h _ m, g⟩
theorem lwG_good {w : Cond} (h : w ∈ lw_G) : (w.onTables && w.keeps) = true ∨ ∃ ty, w = .arrayClass ty := good_of_word ((lwG_iff w).mp h).2
theorem tb_1 : ∀ w ∈ tables_1_1, w ∈ lw_tbl := fun w h => List.mem_append_right _ (ta_1 w h)
theorem tb_2 : ∀ w ∈ tables_1_2, w ∈ lw_tbl := fun w h => List.mem_append_right _ (ta_2 w h)
theorem tb_3 : ∀ w ∈ tables_1_3, w ∈ lw_tbl := fun w h => List.mem_append_right _ (ta_3 w h)
theorem tb_4 : ∀ w ∈ tables_1_4, w ∈ lw_tbl := fun w h => List.mem_append_right _ (ta_4 w h)
theorem tb_5 : ∀ w ∈ tables_1_5, w ∈ lw_tbl := fun w h => List.mem_append_right _ (ta_5 w h)
theorem tb_6 : ∀ w ∈ tables_1_6, w ∈ lw_tbl := fun w h => List.mem_append_right _ (ta_6 w h)
theorem tb_7 : ∀ w ∈ tables_1_7, w ∈ lw_tbl := fun w h => List.mem_append_right _ (ta_7 w h)
theorem gw_1_1 : Cond.initialized RX8 ∈ lw_G := lwG tb_1 (List.mem_of_getElem? (i := 1) rfl) rfl
theorem gw_1_2 : Cond.initialized RX1 ∈ lw_G := lwG tb_1 (List.mem_of_getElem? (i := 2) rfl) rfl
theorem gw_1_3 : Cond.initialized RX4 ∈ lw_G := lwG tb_1 (List.mem_of_getElem? (i := 3) rfl) rfl
theorem gw_1_4 : Cond.initialized RX3 ∈ lw_G := lwG tb_1 (List.mem_of_getElem? (i := 4) rfl) rfl
theorem gw_1_5 : Cond.initialized RX2 ∈ lw_G := lwG tb_1 (List.mem_of_getElem? (i := 5) rfl) rfl
theorem gw_1_6 : Cond.initialized RX0 ∈ lw_G := lwG tb_1 (List.mem_of_getElem? (i := 6) rfl) rfl
theorem gw_1_7 : Cond.initialized RX5 ∈ lw_G := lwG tb_1 (List.mem_of_getElem? (i := 7) rfl) rfl
theorem gw_1_8 : Cond.initialized RX6 ∈ lw_G := lwG tb_1 (List.mem_of_getElem? (i := 8) rfl) rfl
theorem gw_1_9 : Cond.initialized RX7 ∈ lw_G := lwG tb_1 (List.mem_of_getElem? (i := 9) rfl) rfl
theorem gw_1_10 : Cond.initialized RX9 ∈ lw_G := lwG tb_1 (List.mem_of_getElem? (i := 10) rfl) rfl
theorem gw_1_11 : Cond.initialized "java/lang/Math" ∈ lw_G := lwG tb_1 (List.mem_of_getElem? (i := 11) rfl) rfl
theorem gw_1_12 : Cond.classLink RL 7 RX8 ∈ lw_G := lwG tb_1 (List.mem_of_getElem? (i := 12) rfl) rfl
theorem gw_1_13 : Cond.instantiable RX8 13 ∈ lw_G := lwG tb_1 (List.mem_of_getElem? (i := 13) rfl) rfl
theorem gw_1_14 : Cond.methodLink RL 9 yX8_init ∈ lw_G := lwG tb_1 (List.mem_of_getElem? (i := 14) rfl) rfl
theorem gw_1_15 : Cond.instanceMethod yX8_init ∈ lw_G := lwG tb_1 (List.mem_of_getElem? (i := 15) rfl) rfl
theorem gw_1_16 : Cond.code yX8_init cX8_init 1 none ∈ lw_G := lwG tb_1 (List.mem_of_getElem? (i := 16) rfl) rfl
theorem gw_1_17 : Cond.methodLink RX8 3 objectInit ∈ lw_G := lwG tb_1 (List.mem_of_getElem? (i := 17) rfl) rfl
theorem gw_1_18 : Cond.instanceMethod objectInit ∈ lw_G := lwG tb_1 (List.mem_of_getElem? (i := 18) rfl) rfl
theorem gw_1_19 : Cond.code objectInit ⟨#[0xb1]⟩ 1 none ∈ lw_G := lwG tb_1 (List.mem_of_getElem? (i := 19) rfl) rfl
theorem gw_1_20 : Cond.classLink RX8 17 RX1 ∈ lw_G := lwG tb_1 (List.mem_of_getElem? (i := 20) rfl) rfl
theorem gw_1_21 : Cond.instantiable RX1 18 ∈ lw_G := lwG tb_1 (List.mem_of_getElem? (i := 21) rfl) rfl
theorem gw_1_23 : Cond.instanceMethod yX1_init ∈ lw_G := lwG tb_1 (List.mem_of_getElem? (i := 23) rfl) rfl
theorem gw_1_24 : Cond.code yX1_init cX1_init 1 none ∈ lw_G := lwG tb_1 (List.mem_of_getElem? (i := 24) rfl) rfl
theorem gw_1_25 : Cond.methodLink RX1 3 objectInit ∈ lw_G := lwG tb_1 (List.mem_of_getElem? (i := 25) rfl) rfl
theorem gw_1_26 : Cond.fieldLink RX1 9 "AttributeDesk$Grammar" "symbolCount" "I" ∈ lw_G := lwG tb_1 (List.mem_of_getElem? (i := 26) rfl) rfl
theorem gw_1_28 : Cond.fieldLink RX8 114 "AttributeDesk$Grammar" "symbolCount" "I" ∈ lw_G := lwG tb_1 (List.mem_of_getElem? (i := 28) rfl) rfl
theorem gw_1_30 : Cond.fieldLink RX1 15 "AttributeDesk$Grammar" "symbolNames" "[J" ∈ lw_G := lwG tb_1 (List.mem_of_getElem? (i := 30) rfl) rfl
theorem gw_1_31 : Cond.fieldLink RX1 19 "AttributeDesk$Grammar" "attributeCounts" "[I" ∈ lw_G := lwG tb_1 (List.mem_of_getElem? (i := 31) rfl) rfl
theorem gw_1_35 : Cond.fieldLink RX1 23 "AttributeDesk$Grammar" "inheritedCounts" "[I" ∈ lw_G := lwG tb_1 (List.mem_of_getElem? (i := 35) rfl) rfl
theorem gw_1_38 : Cond.fieldLink RX1 26 "AttributeDesk$Grammar" "attributeNames" "[J" ∈ lw_G := lwG tb_1 (List.mem_of_getElem? (i := 38) rfl) rfl
theorem gw_1_39 : Cond.fieldLink RX1 29 "AttributeDesk$Grammar" "inherited" "[Z" ∈ lw_G := lwG tb_1 (List.mem_of_getElem? (i := 39) rfl) rfl
theorem gw_1_40 : Cond.fieldLink RX1 33 "AttributeDesk$Grammar" "ranks" "[I" ∈ lw_G := lwG tb_1 (List.mem_of_getElem? (i := 40) rfl) rfl
theorem gw_1_41 : Cond.fieldLink RX1 36 "AttributeDesk$Grammar" "ruleCount" "I" ∈ lw_G := lwG tb_1 (List.mem_of_getElem? (i := 41) rfl) rfl
theorem gw_1_43 : Cond.fieldLink RX8 108 "AttributeDesk$Grammar" "ruleCount" "I" ∈ lw_G := lwG tb_1 (List.mem_of_getElem? (i := 43) rfl) rfl
theorem gw_1_45 : Cond.fieldLink RX1 39 "AttributeDesk$Grammar" "ruleNames" "[J" ∈ lw_G := lwG tb_1 (List.mem_of_getElem? (i := 45) rfl) rfl
theorem gw_1_46 : Cond.fieldLink RX1 42 "AttributeDesk$Grammar" "ruleSymbols" "[I" ∈ lw_G := lwG tb_1 (List.mem_of_getElem? (i := 46) rfl) rfl
theorem gw_1_48 : Cond.fieldLink RX1 45 "AttributeDesk$Grammar" "childCounts" "[I" ∈ lw_G := lwG tb_1 (List.mem_of_getElem? (i := 48) rfl) rfl
theorem gw_1_54 : Cond.fieldLink RX1 48 "AttributeDesk$Grammar" "equationCounts" "[I" ∈ lw_G := lwG tb_1 (List.mem_of_getElem? (i := 54) rfl) rfl
theorem gw_1_57 : Cond.fieldLink RX1 51 "AttributeDesk$Grammar" "codeStarts" "[I" ∈ lw_G := lwG tb_1 (List.mem_of_getElem? (i := 57) rfl) rfl
theorem gw_1_61 : Cond.fieldLink RX1 54 "AttributeDesk$Grammar" "codeEnds" "[I" ∈ lw_G := lwG tb_1 (List.mem_of_getElem? (i := 61) rfl) rfl
theorem gw_1_64 : Cond.fieldLink RX1 57 "AttributeDesk$Grammar" "hangs" "[I" ∈ lw_G := lwG tb_1 (List.mem_of_getElem? (i := 64) rfl) rfl
theorem gw_1_67 : Cond.fieldLink RX1 60 "AttributeDesk$Grammar" "operations" "[I" ∈ lw_G := lwG tb_1 (List.mem_of_getElem? (i := 67) rfl) rfl
theorem gw_1_69 : Cond.fieldLink RX1 63 "AttributeDesk$Grammar" "operands" "[I" ∈ lw_G := lwG tb_1 (List.mem_of_getElem? (i := 69) rfl) rfl
theorem gw_1_71 : Cond.fieldLink RX1 66 "AttributeDesk$Grammar" "codeSize" "I" ∈ lw_G := lwG tb_1 (List.mem_of_getElem? (i := 71) rfl) rfl
theorem gw_1_73 : Cond.lays RX1 "AttributeDesk$Grammar" "symbolCount" "I" ∈ lw_G := lwG tb_1 (List.mem_of_getElem? (i := 73) rfl) rfl
theorem gw_1_75 : Cond.laysFinal RX1 "AttributeDesk$Grammar" "symbolNames" "[J" ∈ lw_G := lwG tb_1 (List.mem_of_getElem? (i := 75) rfl) rfl
theorem gw_1_77 : Cond.laysFinal RX1 "AttributeDesk$Grammar" "attributeCounts" "[I" ∈ lw_G := lwG tb_1 (List.mem_of_getElem? (i := 77) rfl) rfl
theorem gw_1_79 : Cond.laysFinal RX1 "AttributeDesk$Grammar" "inheritedCounts" "[I" ∈ lw_G := lwG tb_1 (List.mem_of_getElem? (i := 79) rfl) rfl
theorem gw_1_81 : Cond.laysFinal RX1 "AttributeDesk$Grammar" "attributeNames" "[J" ∈ lw_G := lwG tb_1 (List.mem_of_getElem? (i := 81) rfl) rfl
theorem gw_1_83 : Cond.laysFinal RX1 "AttributeDesk$Grammar" "inherited" "[Z" ∈ lw_G := lwG tb_1 (List.mem_of_getElem? (i := 83) rfl) rfl
theorem gw_1_85 : Cond.laysFinal RX1 "AttributeDesk$Grammar" "ranks" "[I" ∈ lw_G := lwG tb_1 (List.mem_of_getElem? (i := 85) rfl) rfl
theorem gw_1_87 : Cond.lays RX1 "AttributeDesk$Grammar" "ruleCount" "I" ∈ lw_G := lwG tb_1 (List.mem_of_getElem? (i := 87) rfl) rfl
theorem gw_1_89 : Cond.laysFinal RX1 "AttributeDesk$Grammar" "ruleNames" "[J" ∈ lw_G := lwG tb_1 (List.mem_of_getElem? (i := 89) rfl) rfl
theorem gw_1_91 : Cond.laysFinal RX1 "AttributeDesk$Grammar" "ruleSymbols" "[I" ∈ lw_G := lwG tb_1 (List.mem_of_getElem? (i := 91) rfl) rfl
theorem gw_1_93 : Cond.laysFinal RX1 "AttributeDesk$Grammar" "childCounts" "[I" ∈ lw_G := lwG tb_1 (List.mem_of_getElem? (i := 93) rfl) rfl
theorem gw_1_95 : Cond.laysFinal RX1 "AttributeDesk$Grammar" "equationCounts" "[I" ∈ lw_G := lwG tb_1 (List.mem_of_getElem? (i := 95) rfl) rfl
theorem gw_1_97 : Cond.laysFinal RX1 "AttributeDesk$Grammar" "codeStarts" "[I" ∈ lw_G := lwG tb_1 (List.mem_of_getElem? (i := 97) rfl) rfl
theorem gw_1_99 : Cond.laysFinal RX1 "AttributeDesk$Grammar" "codeEnds" "[I" ∈ lw_G := lwG tb_1 (List.mem_of_getElem? (i := 99) rfl) rfl
theorem gw_1_101 : Cond.laysFinal RX1 "AttributeDesk$Grammar" "hangs" "[I" ∈ lw_G := lwG tb_1 (List.mem_of_getElem? (i := 101) rfl) rfl
theorem gw_1_103 : Cond.laysFinal RX1 "AttributeDesk$Grammar" "operations" "[I" ∈ lw_G := lwG tb_1 (List.mem_of_getElem? (i := 103) rfl) rfl
theorem gw_1_105 : Cond.laysFinal RX1 "AttributeDesk$Grammar" "operands" "[I" ∈ lw_G := lwG tb_1 (List.mem_of_getElem? (i := 105) rfl) rfl
theorem gw_1_107 : Cond.lays RX1 "AttributeDesk$Grammar" "codeSize" "I" ∈ lw_G := lwG tb_1 (List.mem_of_getElem? (i := 107) rfl) rfl
theorem gw_1_110 : Cond.arrayClass .byte ∈ lw_G := lwG tb_1 (List.mem_of_getElem? (i := 110) rfl) rfl
theorem gw_1_111 : Cond.arrayClass .long ∈ lw_G := lwG tb_1 (List.mem_of_getElem? (i := 111) rfl) rfl
theorem gw_1_112 : Cond.arrayClass .int ∈ lw_G := lwG tb_1 (List.mem_of_getElem? (i := 112) rfl) rfl
theorem gw_1_113 : Cond.arrayClass .boolean ∈ lw_G := lwG tb_1 (List.mem_of_getElem? (i := 113) rfl) rfl
theorem gw_1_114 : Cond.classLink RX8 27 RX4 ∈ lw_G := lwG tb_1 (List.mem_of_getElem? (i := 114) rfl) rfl
theorem gw_1_115 : Cond.instantiable RX4 6 ∈ lw_G := lwG tb_1 (List.mem_of_getElem? (i := 115) rfl) rfl
theorem gw_1_117 : Cond.instanceMethod yX4_init ∈ lw_G := lwG tb_1 (List.mem_of_getElem? (i := 117) rfl) rfl
theorem gw_1_118 : Cond.code yX4_init cX4_init 1 none ∈ lw_G := lwG tb_1 (List.mem_of_getElem? (i := 118) rfl) rfl
theorem gw_1_119 : Cond.methodLink RX4 3 objectInit ∈ lw_G := lwG tb_1 (List.mem_of_getElem? (i := 119) rfl) rfl
theorem gw_1_120 : Cond.fieldLink RX4 9 "AttributeDesk$Tree" "size" "I" ∈ lw_G := lwG tb_1 (List.mem_of_getElem? (i := 120) rfl) rfl
theorem gw_1_122 : Cond.fieldLink RX8 99 "AttributeDesk$Tree" "size" "I" ∈ lw_G := lwG tb_1 (List.mem_of_getElem? (i := 122) rfl) rfl
theorem gw_1_123 : Cond.fieldLink RX4 15 "AttributeDesk$Tree" "rules" "[I" ∈ lw_G := lwG tb_1 (List.mem_of_getElem? (i := 123) rfl) rfl
theorem gw_1_127 : Cond.fieldLink RX4 19 "AttributeDesk$Tree" "above" "[I" ∈ lw_G := lwG tb_1 (List.mem_of_getElem? (i := 127) rfl) rfl
theorem gw_1_131 : Cond.fieldLink RX4 22 "AttributeDesk$Tree" "places" "[I" ∈ lw_G := lwG tb_1 (List.mem_of_getElem? (i := 131) rfl) rfl
theorem gw_1_135 : Cond.fieldLink RX4 25 "AttributeDesk$Tree" "owns" "[I" ∈ lw_G := lwG tb_1 (List.mem_of_getElem? (i := 135) rfl) rfl
theorem gw_1_139 : Cond.fieldLink RX4 28 "AttributeDesk$Tree" "children" "[I" ∈ lw_G := lwG tb_1 (List.mem_of_getElem? (i := 139) rfl) rfl
theorem gw_1_141 : Cond.lays RX4 "AttributeDesk$Tree" "size" "I" ∈ lw_G := lwG tb_1 (List.mem_of_getElem? (i := 141) rfl) rfl
theorem gw_1_143 : Cond.laysFinal RX4 "AttributeDesk$Tree" "rules" "[I" ∈ lw_G := lwG tb_1 (List.mem_of_getElem? (i := 143) rfl) rfl
theorem gw_1_145 : Cond.laysFinal RX4 "AttributeDesk$Tree" "above" "[I" ∈ lw_G := lwG tb_1 (List.mem_of_getElem? (i := 145) rfl) rfl
theorem gw_1_147 : Cond.laysFinal RX4 "AttributeDesk$Tree" "places" "[I" ∈ lw_G := lwG tb_1 (List.mem_of_getElem? (i := 147) rfl) rfl
theorem gw_1_149 : Cond.laysFinal RX4 "AttributeDesk$Tree" "owns" "[I" ∈ lw_G := lwG tb_1 (List.mem_of_getElem? (i := 149) rfl) rfl
theorem gw_1_151 : Cond.laysFinal RX4 "AttributeDesk$Tree" "children" "[I" ∈ lw_G := lwG tb_1 (List.mem_of_getElem? (i := 151) rfl) rfl
theorem gw_1_154 : Cond.classLink RX8 37 RX3 ∈ lw_G := lwG tb_1 (List.mem_of_getElem? (i := 154) rfl) rfl
theorem gw_1_155 : Cond.instantiable RX3 7 ∈ lw_G := lwG tb_1 (List.mem_of_getElem? (i := 155) rfl) rfl
theorem gw_1_156 : Cond.methodLink RX8 39 yX3_init ∈ lw_G := lwG tb_1 (List.mem_of_getElem? (i := 156) rfl) rfl
theorem gw_1_157 : Cond.instanceMethod yX3_init ∈ lw_G := lwG tb_1 (List.mem_of_getElem? (i := 157) rfl) rfl
theorem gw_1_158 : Cond.code yX3_init cX3_init 2 none ∈ lw_G := lwG tb_1 (List.mem_of_getElem? (i := 158) rfl) rfl
theorem gw_1_159 : Cond.methodLink RX3 3 objectInit ∈ lw_G := lwG tb_1 (List.mem_of_getElem? (i := 159) rfl) rfl
theorem gw_1_160 : Cond.fieldLink RX3 31 "AttributeDesk$Tokens" "text" "[B" ∈ lw_G := lwG tb_1 (List.mem_of_getElem? (i := 160) rfl) rfl
theorem gw_1_161 : Cond.fieldLink RX3 9 "AttributeDesk$Tokens" "size" "I" ∈ lw_G := lwG tb_1 (List.mem_of_getElem? (i := 161) rfl) rfl
theorem gw_1_162 : Cond.fieldLink RX3 15 "AttributeDesk$Tokens" "behind" "I" ∈ lw_G := lwG tb_1 (List.mem_of_getElem? (i := 162) rfl) rfl
theorem gw_1_163 : Cond.fieldLink RX3 18 "AttributeDesk$Tokens" "kind" "I" ∈ lw_G := lwG tb_1 (List.mem_of_getElem? (i := 163) rfl) rfl
theorem gw_1_166 : Cond.fieldLink RX2 73 "AttributeDesk$Tokens" "kind" "I" ∈ lw_G := lwG tb_1 (List.mem_of_getElem? (i := 166) rfl) rfl
theorem gw_1_167 : Cond.fieldLink RX3 21 "AttributeDesk$Tokens" "at" "I" ∈ lw_G := lwG tb_1 (List.mem_of_getElem? (i := 167) rfl) rfl
theorem gw_1_168 : Cond.fieldLink RX8 209 "AttributeDesk$Tokens" "at" "I" ∈ lw_G := lwG tb_1 (List.mem_of_getElem? (i := 168) rfl) rfl
theorem gw_1_169 : Cond.fieldLink RX3 24 "AttributeDesk$Tokens" "name" "J" ∈ lw_G := lwG tb_1 (List.mem_of_getElem? (i := 169) rfl) rfl
theorem gw_1_173 : Cond.fieldLink RX3 28 "AttributeDesk$Tokens" "number" "J" ∈ lw_G := lwG tb_1 (List.mem_of_getElem? (i := 173) rfl) rfl
theorem gw_1_177 : Cond.laysFinal RX3 "AttributeDesk$Tokens" "text" "[B" ∈ lw_G := lwG tb_1 (List.mem_of_getElem? (i := 177) rfl) rfl
theorem gw_1_179 : Cond.lays RX3 "AttributeDesk$Tokens" "size" "I" ∈ lw_G := lwG tb_1 (List.mem_of_getElem? (i := 179) rfl) rfl
theorem gw_1_181 : Cond.lays RX3 "AttributeDesk$Tokens" "behind" "I" ∈ lw_G := lwG tb_1 (List.mem_of_getElem? (i := 181) rfl) rfl
theorem gw_1_183 : Cond.lays RX3 "AttributeDesk$Tokens" "kind" "I" ∈ lw_G := lwG tb_1 (List.mem_of_getElem? (i := 183) rfl) rfl
theorem gw_1_185 : Cond.lays RX3 "AttributeDesk$Tokens" "at" "I" ∈ lw_G := lwG tb_1 (List.mem_of_getElem? (i := 185) rfl) rfl
theorem gw_1_187 : Cond.lays RX3 "AttributeDesk$Tokens" "name" "J" ∈ lw_G := lwG tb_1 (List.mem_of_getElem? (i := 187) rfl) rfl
theorem gw_1_189 : Cond.lays RX3 "AttributeDesk$Tokens" "number" "J" ∈ lw_G := lwG tb_1 (List.mem_of_getElem? (i := 189) rfl) rfl
theorem gw_1_192 : Cond.classLink RX8 46 RX2 ∈ lw_G := lwG tb_1 (List.mem_of_getElem? (i := 192) rfl) rfl
theorem gw_1_193 : Cond.instantiable RX2 7 ∈ lw_G := lwG tb_1 (List.mem_of_getElem? (i := 193) rfl) rfl
theorem gw_1_194 : Cond.methodLink RX8 48 yX2_init ∈ lw_G := lwG tb_1 (List.mem_of_getElem? (i := 194) rfl) rfl
theorem gw_1_195 : Cond.instanceMethod yX2_init ∈ lw_G := lwG tb_1 (List.mem_of_getElem? (i := 195) rfl) rfl
theorem gw_1_196 : Cond.code yX2_init cX2_init 3 none ∈ lw_G := lwG tb_1 (List.mem_of_getElem? (i := 196) rfl) rfl
theorem gw_1_197 : Cond.methodLink RX2 3 objectInit ∈ lw_G := lwG tb_1 (List.mem_of_getElem? (i := 197) rfl) rfl
theorem gw_1_198 : Cond.classLink RX2 33 RX0 ∈ lw_G := lwG tb_1 (List.mem_of_getElem? (i := 198) rfl) rfl
theorem gw_1_199 : Cond.instantiable RX0 11 ∈ lw_G := lwG tb_1 (List.mem_of_getElem? (i := 199) rfl) rfl
theorem gw_1_200 : Cond.methodLink RX2 35 yX0_init ∈ lw_G := lwG tb_1 (List.mem_of_getElem? (i := 200) rfl) rfl
theorem gw_1_201 : Cond.instanceMethod yX0_init ∈ lw_G := lwG tb_1 (List.mem_of_getElem? (i := 201) rfl) rfl
theorem gw_1_202 : Cond.code yX0_init cX0_init 3 none ∈ lw_G := lwG tb_1 (List.mem_of_getElem? (i := 202) rfl) rfl
theorem gw_1_203 : Cond.methodLink RX0 3 objectInit ∈ lw_G := lwG tb_1 (List.mem_of_getElem? (i := 203) rfl) rfl
theorem gw_1_204 : Cond.fieldLink RX0 41 "AttributeDesk$ExpressionReader" "tokens" "LAttributeDesk$Tokens;" ∈ lw_G := lwG tb_1 (List.mem_of_getElem? (i := 204) rfl) rfl
theorem gw_1_205 : Cond.fieldLink RX0 45 "AttributeDesk$ExpressionReader" "grammar" "LAttributeDesk$Grammar;" ∈ lw_G := lwG tb_1 (List.mem_of_getElem? (i := 205) rfl) rfl
theorem gw_1_206 : Cond.fieldLink RX0 9 "AttributeDesk$ExpressionReader" "rule" "I" ∈ lw_G := lwG tb_1 (List.mem_of_getElem? (i := 206) rfl) rfl
theorem gw_1_207 : Cond.fieldLink RX0 15 "AttributeDesk$ExpressionReader" "target" "I" ∈ lw_G := lwG tb_1 (List.mem_of_getElem? (i := 207) rfl) rfl
theorem gw_1_208 : Cond.fieldLink RX0 18 "AttributeDesk$ExpressionReader" "state" "I" ∈ lw_G := lwG tb_1 (List.mem_of_getElem? (i := 208) rfl) rfl
theorem gw_1_209 : Cond.fieldLink RX0 21 "AttributeDesk$ExpressionReader" "tokenCount" "I" ∈ lw_G := lwG tb_1 (List.mem_of_getElem? (i := 209) rfl) rfl
theorem gw_1_210 : Cond.fieldLink RX0 24 "AttributeDesk$ExpressionReader" "occPlace" "I" ∈ lw_G := lwG tb_1 (List.mem_of_getElem? (i := 210) rfl) rfl
theorem gw_1_211 : Cond.fieldLink RX0 27 "AttributeDesk$ExpressionReader" "waiting" "[I" ∈ lw_G := lwG tb_1 (List.mem_of_getElem? (i := 211) rfl) rfl
theorem gw_1_212 : Cond.fieldLink RX0 31 "AttributeDesk$ExpressionReader" "waitingCount" "I" ∈ lw_G := lwG tb_1 (List.mem_of_getElem? (i := 212) rfl) rfl
theorem gw_1_213 : Cond.fieldLink RX0 34 "AttributeDesk$ExpressionReader" "openCount" "I" ∈ lw_G := lwG tb_1 (List.mem_of_getElem? (i := 213) rfl) rfl
theorem gw_1_214 : Cond.fieldLink RX0 37 "AttributeDesk$ExpressionReader" "isComplete" "Z" ∈ lw_G := lwG tb_1 (List.mem_of_getElem? (i := 214) rfl) rfl
theorem gw_1_216 : Cond.laysFinal RX0 "AttributeDesk$ExpressionReader" "tokens" "LAttributeDesk$Tokens;" ∈ lw_G := lwG tb_1 (List.mem_of_getElem? (i := 216) rfl) rfl
theorem gw_1_218 : Cond.lays RX0 "AttributeDesk$ExpressionReader" "grammar" "LAttributeDesk$Grammar;" ∈ lw_G := lwG tb_1 (List.mem_of_getElem? (i := 218) rfl) rfl
theorem gw_1_220 : Cond.lays RX0 "AttributeDesk$ExpressionReader" "rule" "I" ∈ lw_G := lwG tb_1 (List.mem_of_getElem? (i := 220) rfl) rfl
theorem gw_1_222 : Cond.lays RX0 "AttributeDesk$ExpressionReader" "target" "I" ∈ lw_G := lwG tb_1 (List.mem_of_getElem? (i := 222) rfl) rfl
theorem gw_1_224 : Cond.lays RX0 "AttributeDesk$ExpressionReader" "state" "I" ∈ lw_G := lwG tb_1 (List.mem_of_getElem? (i := 224) rfl) rfl
theorem gw_1_226 : Cond.lays RX0 "AttributeDesk$ExpressionReader" "tokenCount" "I" ∈ lw_G := lwG tb_1 (List.mem_of_getElem? (i := 226) rfl) rfl
theorem gw_1_228 : Cond.lays RX0 "AttributeDesk$ExpressionReader" "occPlace" "I" ∈ lw_G := lwG tb_1 (List.mem_of_getElem? (i := 228) rfl) rfl
theorem gw_1_230 : Cond.laysFinal RX0 "AttributeDesk$ExpressionReader" "waiting" "[I" ∈ lw_G := lwG tb_1 (List.mem_of_getElem? (i := 230) rfl) rfl
theorem gw_1_232 : Cond.lays RX0 "AttributeDesk$ExpressionReader" "waitingCount" "I" ∈ lw_G := lwG tb_1 (List.mem_of_getElem? (i := 232) rfl) rfl
theorem gw_1_234 : Cond.lays RX0 "AttributeDesk$ExpressionReader" "openCount" "I" ∈ lw_G := lwG tb_1 (List.mem_of_getElem? (i := 234) rfl) rfl
theorem gw_1_236 : Cond.lays RX0 "AttributeDesk$ExpressionReader" "isComplete" "Z" ∈ lw_G := lwG tb_1 (List.mem_of_getElem? (i := 236) rfl) rfl
theorem gw_1_239 : Cond.fieldLink RX2 25 "AttributeDesk$GrammarReader" "tokens" "LAttributeDesk$Tokens;" ∈ lw_G := lwG tb_1 (List.mem_of_getElem? (i := 239) rfl) rfl
theorem gw_2_0 : Cond.fieldLink RX2 38 "AttributeDesk$GrammarReader" "expression" "LAttributeDesk$ExpressionReader;" ∈ lw_G := lwG tb_2 (List.mem_of_getElem? (i := 0) rfl) rfl
theorem gw_2_1 : Cond.fieldLink RX2 29 "AttributeDesk$GrammarReader" "grammar" "LAttributeDesk$Grammar;" ∈ lw_G := lwG tb_2 (List.mem_of_getElem? (i := 1) rfl) rfl
theorem gw_2_2 : Cond.fieldLink RX2 11 "AttributeDesk$GrammarReader" "state" "I" ∈ lw_G := lwG tb_2 (List.mem_of_getElem? (i := 2) rfl) rfl
theorem gw_2_3 : Cond.fieldLink RX2 15 "AttributeDesk$GrammarReader" "readsInherited" "Z" ∈ lw_G := lwG tb_2 (List.mem_of_getElem? (i := 3) rfl) rfl
theorem gw_2_4 : Cond.fieldLink RX2 19 "AttributeDesk$GrammarReader" "targetPlace" "I" ∈ lw_G := lwG tb_2 (List.mem_of_getElem? (i := 4) rfl) rfl
theorem gw_2_5 : Cond.fieldLink RX2 22 "AttributeDesk$GrammarReader" "targetSpot" "I" ∈ lw_G := lwG tb_2 (List.mem_of_getElem? (i := 5) rfl) rfl
theorem gw_2_6 : Cond.laysFinal RX2 "AttributeDesk$GrammarReader" "tokens" "LAttributeDesk$Tokens;" ∈ lw_G := lwG tb_2 (List.mem_of_getElem? (i := 6) rfl) rfl
theorem gw_2_8 : Cond.laysFinal RX2 "AttributeDesk$GrammarReader" "expression" "LAttributeDesk$ExpressionReader;" ∈ lw_G := lwG tb_2 (List.mem_of_getElem? (i := 8) rfl) rfl
theorem gw_2_10 : Cond.lays RX2 "AttributeDesk$GrammarReader" "grammar" "LAttributeDesk$Grammar;" ∈ lw_G := lwG tb_2 (List.mem_of_getElem? (i := 10) rfl) rfl
theorem gw_2_12 : Cond.lays RX2 "AttributeDesk$GrammarReader" "state" "I" ∈ lw_G := lwG tb_2 (List.mem_of_getElem? (i := 12) rfl) rfl
theorem gw_2_14 : Cond.lays RX2 "AttributeDesk$GrammarReader" "readsInherited" "Z" ∈ lw_G := lwG tb_2 (List.mem_of_getElem? (i := 14) rfl) rfl
theorem gw_2_16 : Cond.lays RX2 "AttributeDesk$GrammarReader" "targetPlace" "I" ∈ lw_G := lwG tb_2 (List.mem_of_getElem? (i := 16) rfl) rfl
theorem gw_2_18 : Cond.lays RX2 "AttributeDesk$GrammarReader" "targetSpot" "I" ∈ lw_G := lwG tb_2 (List.mem_of_getElem? (i := 18) rfl) rfl
theorem gw_2_21 : Cond.classLink RX8 55 RX5 ∈ lw_G := lwG tb_2 (List.mem_of_getElem? (i := 21) rfl) rfl
theorem gw_2_22 : Cond.instantiable RX5 7 ∈ lw_G := lwG tb_2 (List.mem_of_getElem? (i := 22) rfl) rfl
theorem gw_2_23 : Cond.methodLink RX8 57 yX5_init ∈ lw_G := lwG tb_2 (List.mem_of_getElem? (i := 23) rfl) rfl
theorem gw_2_24 : Cond.instanceMethod yX5_init ∈ lw_G := lwG tb_2 (List.mem_of_getElem? (i := 24) rfl) rfl
theorem gw_2_25 : Cond.code yX5_init cX5_init 4 none ∈ lw_G := lwG tb_2 (List.mem_of_getElem? (i := 25) rfl) rfl
theorem gw_2_26 : Cond.methodLink RX5 3 objectInit ∈ lw_G := lwG tb_2 (List.mem_of_getElem? (i := 26) rfl) rfl
theorem gw_2_27 : Cond.fieldLink RX5 25 "AttributeDesk$TreeReader" "tokens" "LAttributeDesk$Tokens;" ∈ lw_G := lwG tb_2 (List.mem_of_getElem? (i := 27) rfl) rfl
theorem gw_2_28 : Cond.fieldLink RX5 29 "AttributeDesk$TreeReader" "grammar" "LAttributeDesk$Grammar;" ∈ lw_G := lwG tb_2 (List.mem_of_getElem? (i := 28) rfl) rfl
theorem gw_2_29 : Cond.fieldLink RX5 33 "AttributeDesk$TreeReader" "tree" "LAttributeDesk$Tree;" ∈ lw_G := lwG tb_2 (List.mem_of_getElem? (i := 29) rfl) rfl
theorem gw_2_30 : Cond.fieldLink RX5 11 "AttributeDesk$TreeReader" "state" "I" ∈ lw_G := lwG tb_2 (List.mem_of_getElem? (i := 30) rfl) rfl
theorem gw_2_31 : Cond.fieldLink RX5 15 "AttributeDesk$TreeReader" "here" "I" ∈ lw_G := lwG tb_2 (List.mem_of_getElem? (i := 31) rfl) rfl
theorem gw_2_32 : Cond.fieldLink RX5 18 "AttributeDesk$TreeReader" "depth" "I" ∈ lw_G := lwG tb_2 (List.mem_of_getElem? (i := 32) rfl) rfl
theorem gw_2_33 : Cond.fieldLink RX5 21 "AttributeDesk$TreeReader" "filled" "[I" ∈ lw_G := lwG tb_2 (List.mem_of_getElem? (i := 33) rfl) rfl
theorem gw_2_34 : Cond.laysFinal RX5 "AttributeDesk$TreeReader" "tokens" "LAttributeDesk$Tokens;" ∈ lw_G := lwG tb_2 (List.mem_of_getElem? (i := 34) rfl) rfl
theorem gw_2_36 : Cond.lays RX5 "AttributeDesk$TreeReader" "grammar" "LAttributeDesk$Grammar;" ∈ lw_G := lwG tb_2 (List.mem_of_getElem? (i := 36) rfl) rfl
theorem gw_2_38 : Cond.lays RX5 "AttributeDesk$TreeReader" "tree" "LAttributeDesk$Tree;" ∈ lw_G := lwG tb_2 (List.mem_of_getElem? (i := 38) rfl) rfl
theorem gw_2_40 : Cond.lays RX5 "AttributeDesk$TreeReader" "state" "I" ∈ lw_G := lwG tb_2 (List.mem_of_getElem? (i := 40) rfl) rfl
theorem gw_2_42 : Cond.lays RX5 "AttributeDesk$TreeReader" "here" "I" ∈ lw_G := lwG tb_2 (List.mem_of_getElem? (i := 42) rfl) rfl
theorem gw_2_44 : Cond.lays RX5 "AttributeDesk$TreeReader" "depth" "I" ∈ lw_G := lwG tb_2 (List.mem_of_getElem? (i := 44) rfl) rfl
theorem gw_2_46 : Cond.laysFinal RX5 "AttributeDesk$TreeReader" "filled" "[I" ∈ lw_G := lwG tb_2 (List.mem_of_getElem? (i := 46) rfl) rfl
theorem gw_2_49 : Cond.classLink RX8 64 RX6 ∈ lw_G := lwG tb_2 (List.mem_of_getElem? (i := 49) rfl) rfl
theorem gw_2_50 : Cond.instantiable RX6 15 ∈ lw_G := lwG tb_2 (List.mem_of_getElem? (i := 50) rfl) rfl
theorem gw_2_51 : Cond.methodLink RX8 66 yX6_init ∈ lw_G := lwG tb_2 (List.mem_of_getElem? (i := 51) rfl) rfl
theorem gw_2_52 : Cond.instanceMethod yX6_init ∈ lw_G := lwG tb_2 (List.mem_of_getElem? (i := 52) rfl) rfl
theorem gw_2_53 : Cond.code yX6_init cX6_init 2 none ∈ lw_G := lwG tb_2 (List.mem_of_getElem? (i := 53) rfl) rfl
theorem gw_2_54 : Cond.methodLink RX6 3 objectInit ∈ lw_G := lwG tb_2 (List.mem_of_getElem? (i := 54) rfl) rfl
theorem gw_2_55 : Cond.fieldLink RX6 9 "AttributeDesk$Ways" "plain" "[I" ∈ lw_G := lwG tb_2 (List.mem_of_getElem? (i := 55) rfl) rfl
theorem gw_2_57 : Cond.fieldLink RX6 15 "AttributeDesk$Ways" "plainRound" "[Z" ∈ lw_G := lwG tb_2 (List.mem_of_getElem? (i := 57) rfl) rfl
theorem gw_2_59 : Cond.fieldLink RX6 19 "AttributeDesk$Ways" "tooLarge" "Z" ∈ lw_G := lwG tb_2 (List.mem_of_getElem? (i := 59) rfl) rfl
theorem gw_2_61 : Cond.fieldLink RX6 23 "AttributeDesk$Ways" "graphs" "[I" ∈ lw_G := lwG tb_2 (List.mem_of_getElem? (i := 61) rfl) rfl
theorem gw_2_63 : Cond.fieldLink RX6 26 "AttributeDesk$Ways" "graphCounts" "[I" ∈ lw_G := lwG tb_2 (List.mem_of_getElem? (i := 63) rfl) rfl
theorem gw_2_65 : Cond.fieldLink RX6 29 "AttributeDesk$Ways" "exactRound" "[Z" ∈ lw_G := lwG tb_2 (List.mem_of_getElem? (i := 65) rfl) rfl
theorem gw_2_67 : Cond.fieldLink RX6 32 "AttributeDesk$Ways" "comes" "[Z" ∈ lw_G := lwG tb_2 (List.mem_of_getElem? (i := 67) rfl) rfl
theorem gw_2_69 : Cond.fieldLink RX6 56 "AttributeDesk$Ways" "grammar" "LAttributeDesk$Grammar;" ∈ lw_G := lwG tb_2 (List.mem_of_getElem? (i := 69) rfl) rfl
theorem gw_2_70 : Cond.fieldLink RX6 35 "AttributeDesk$Ways" "hasGraph" "[Z" ∈ lw_G := lwG tb_2 (List.mem_of_getElem? (i := 70) rfl) rfl
theorem gw_2_71 : Cond.fieldLink RX6 38 "AttributeDesk$Ways" "hasTree" "[Z" ∈ lw_G := lwG tb_2 (List.mem_of_getElem? (i := 71) rfl) rfl
theorem gw_2_72 : Cond.fieldLink RX6 41 "AttributeDesk$Ways" "isReached" "[Z" ∈ lw_G := lwG tb_2 (List.mem_of_getElem? (i := 72) rfl) rfl
theorem gw_2_73 : Cond.fieldLink RX6 44 "AttributeDesk$Ways" "rows" "[I" ∈ lw_G := lwG tb_2 (List.mem_of_getElem? (i := 73) rfl) rfl
theorem gw_2_74 : Cond.fieldLink RX6 47 "AttributeDesk$Ways" "taken" "[I" ∈ lw_G := lwG tb_2 (List.mem_of_getElem? (i := 74) rfl) rfl
theorem gw_2_75 : Cond.fieldLink RX6 50 "AttributeDesk$Ways" "firsts" "[I" ∈ lw_G := lwG tb_2 (List.mem_of_getElem? (i := 75) rfl) rfl
theorem gw_2_76 : Cond.fieldLink RX6 53 "AttributeDesk$Ways" "spans" "[I" ∈ lw_G := lwG tb_2 (List.mem_of_getElem? (i := 76) rfl) rfl
theorem gw_2_77 : Cond.laysFinal RX6 "AttributeDesk$Ways" "plain" "[I" ∈ lw_G := lwG tb_2 (List.mem_of_getElem? (i := 77) rfl) rfl
theorem gw_2_79 : Cond.laysFinal RX6 "AttributeDesk$Ways" "plainRound" "[Z" ∈ lw_G := lwG tb_2 (List.mem_of_getElem? (i := 79) rfl) rfl
theorem gw_2_81 : Cond.lays RX6 "AttributeDesk$Ways" "tooLarge" "Z" ∈ lw_G := lwG tb_2 (List.mem_of_getElem? (i := 81) rfl) rfl
theorem gw_2_83 : Cond.laysFinal RX6 "AttributeDesk$Ways" "graphs" "[I" ∈ lw_G := lwG tb_2 (List.mem_of_getElem? (i := 83) rfl) rfl
theorem gw_2_85 : Cond.laysFinal RX6 "AttributeDesk$Ways" "graphCounts" "[I" ∈ lw_G := lwG tb_2 (List.mem_of_getElem? (i := 85) rfl) rfl
theorem gw_2_87 : Cond.laysFinal RX6 "AttributeDesk$Ways" "exactRound" "[Z" ∈ lw_G := lwG tb_2 (List.mem_of_getElem? (i := 87) rfl) rfl
theorem gw_2_89 : Cond.laysFinal RX6 "AttributeDesk$Ways" "comes" "[Z" ∈ lw_G := lwG tb_2 (List.mem_of_getElem? (i := 89) rfl) rfl
theorem gw_2_91 : Cond.lays RX6 "AttributeDesk$Ways" "grammar" "LAttributeDesk$Grammar;" ∈ lw_G := lwG tb_2 (List.mem_of_getElem? (i := 91) rfl) rfl
theorem gw_2_93 : Cond.laysFinal RX6 "AttributeDesk$Ways" "hasGraph" "[Z" ∈ lw_G := lwG tb_2 (List.mem_of_getElem? (i := 93) rfl) rfl
theorem gw_2_95 : Cond.laysFinal RX6 "AttributeDesk$Ways" "hasTree" "[Z" ∈ lw_G := lwG tb_2 (List.mem_of_getElem? (i := 95) rfl) rfl
theorem gw_2_97 : Cond.laysFinal RX6 "AttributeDesk$Ways" "isReached" "[Z" ∈ lw_G := lwG tb_2 (List.mem_of_getElem? (i := 97) rfl) rfl
theorem gw_2_99 : Cond.laysFinal RX6 "AttributeDesk$Ways" "rows" "[I" ∈ lw_G := lwG tb_2 (List.mem_of_getElem? (i := 99) rfl) rfl
theorem gw_2_101 : Cond.laysFinal RX6 "AttributeDesk$Ways" "taken" "[I" ∈ lw_G := lwG tb_2 (List.mem_of_getElem? (i := 101) rfl) rfl
theorem gw_2_103 : Cond.laysFinal RX6 "AttributeDesk$Ways" "firsts" "[I" ∈ lw_G := lwG tb_2 (List.mem_of_getElem? (i := 103) rfl) rfl
theorem gw_2_105 : Cond.laysFinal RX6 "AttributeDesk$Ways" "spans" "[I" ∈ lw_G := lwG tb_2 (List.mem_of_getElem? (i := 105) rfl) rfl
theorem gw_2_108 : Cond.classLink RX8 73 RX7 ∈ lw_G := lwG tb_2 (List.mem_of_getElem? (i := 108) rfl) rfl
theorem gw_2_109 : Cond.instantiable RX7 14 ∈ lw_G := lwG tb_2 (List.mem_of_getElem? (i := 109) rfl) rfl
theorem gw_2_110 : Cond.methodLink RX8 75 yX7_init ∈ lw_G := lwG tb_2 (List.mem_of_getElem? (i := 110) rfl) rfl
theorem gw_2_111 : Cond.instanceMethod yX7_init ∈ lw_G := lwG tb_2 (List.mem_of_getElem? (i := 111) rfl) rfl
theorem gw_2_112 : Cond.code yX7_init cX7_init 3 none ∈ lw_G := lwG tb_2 (List.mem_of_getElem? (i := 112) rfl) rfl
theorem gw_2_113 : Cond.methodLink RX7 3 objectInit ∈ lw_G := lwG tb_2 (List.mem_of_getElem? (i := 113) rfl) rfl
theorem gw_2_114 : Cond.fieldLink RX7 9 "AttributeDesk$Worker" "numbers" "[I" ∈ lw_G := lwG tb_2 (List.mem_of_getElem? (i := 114) rfl) rfl
theorem gw_2_116 : Cond.fieldLink RX7 15 "AttributeDesk$Worker" "order" "[I" ∈ lw_G := lwG tb_2 (List.mem_of_getElem? (i := 116) rfl) rfl
theorem gw_2_118 : Cond.fieldLink RX7 18 "AttributeDesk$Worker" "orderSize" "I" ∈ lw_G := lwG tb_2 (List.mem_of_getElem? (i := 118) rfl) rfl
theorem gw_2_119 : Cond.fieldLink RX8 203 "AttributeDesk$Worker" "orderSize" "I" ∈ lw_G := lwG tb_2 (List.mem_of_getElem? (i := 119) rfl) rfl
theorem gw_2_120 : Cond.fieldLink RX7 50 "AttributeDesk$Worker" "grammar" "LAttributeDesk$Grammar;" ∈ lw_G := lwG tb_2 (List.mem_of_getElem? (i := 120) rfl) rfl
theorem gw_2_121 : Cond.fieldLink RX7 54 "AttributeDesk$Worker" "tree" "LAttributeDesk$Tree;" ∈ lw_G := lwG tb_2 (List.mem_of_getElem? (i := 121) rfl) rfl
theorem gw_2_122 : Cond.fieldLink RX7 22 "AttributeDesk$Worker" "states" "[I" ∈ lw_G := lwG tb_2 (List.mem_of_getElem? (i := 122) rfl) rfl
theorem gw_2_123 : Cond.fieldLink RX7 25 "AttributeDesk$Worker" "way" "[I" ∈ lw_G := lwG tb_2 (List.mem_of_getElem? (i := 123) rfl) rfl
theorem gw_2_124 : Cond.fieldLink RX7 28 "AttributeDesk$Worker" "bases" "[I" ∈ lw_G := lwG tb_2 (List.mem_of_getElem? (i := 124) rfl) rfl
theorem gw_2_125 : Cond.fieldLink RX7 31 "AttributeDesk$Worker" "equations" "[I" ∈ lw_G := lwG tb_2 (List.mem_of_getElem? (i := 125) rfl) rfl
theorem gw_2_126 : Cond.fieldLink RX7 34 "AttributeDesk$Worker" "codeAt" "[I" ∈ lw_G := lwG tb_2 (List.mem_of_getElem? (i := 126) rfl) rfl
theorem gw_2_127 : Cond.fieldLink RX7 37 "AttributeDesk$Worker" "wayLength" "I" ∈ lw_G := lwG tb_2 (List.mem_of_getElem? (i := 127) rfl) rfl
theorem gw_2_128 : Cond.fieldLink RX7 40 "AttributeDesk$Worker" "values" "[I" ∈ lw_G := lwG tb_2 (List.mem_of_getElem? (i := 128) rfl) rfl
theorem gw_2_129 : Cond.fieldLink RX7 43 "AttributeDesk$Worker" "bads" "[Z" ∈ lw_G := lwG tb_2 (List.mem_of_getElem? (i := 129) rfl) rfl
theorem gw_2_130 : Cond.fieldLink RX7 47 "AttributeDesk$Worker" "valueCount" "I" ∈ lw_G := lwG tb_2 (List.mem_of_getElem? (i := 130) rfl) rfl
theorem gw_2_131 : Cond.laysFinal RX7 "AttributeDesk$Worker" "numbers" "[I" ∈ lw_G := lwG tb_2 (List.mem_of_getElem? (i := 131) rfl) rfl
theorem gw_2_133 : Cond.laysFinal RX7 "AttributeDesk$Worker" "order" "[I" ∈ lw_G := lwG tb_2 (List.mem_of_getElem? (i := 133) rfl) rfl
theorem gw_2_135 : Cond.lays RX7 "AttributeDesk$Worker" "orderSize" "I" ∈ lw_G := lwG tb_2 (List.mem_of_getElem? (i := 135) rfl) rfl
theorem gw_2_137 : Cond.lays RX7 "AttributeDesk$Worker" "grammar" "LAttributeDesk$Grammar;" ∈ lw_G := lwG tb_2 (List.mem_of_getElem? (i := 137) rfl) rfl
theorem gw_2_139 : Cond.lays RX7 "AttributeDesk$Worker" "tree" "LAttributeDesk$Tree;" ∈ lw_G := lwG tb_2 (List.mem_of_getElem? (i := 139) rfl) rfl
theorem gw_2_141 : Cond.laysFinal RX7 "AttributeDesk$Worker" "states" "[I" ∈ lw_G := lwG tb_2 (List.mem_of_getElem? (i := 141) rfl) rfl
theorem gw_2_143 : Cond.laysFinal RX7 "AttributeDesk$Worker" "way" "[I" ∈ lw_G := lwG tb_2 (List.mem_of_getElem? (i := 143) rfl) rfl
theorem gw_2_145 : Cond.laysFinal RX7 "AttributeDesk$Worker" "bases" "[I" ∈ lw_G := lwG tb_2 (List.mem_of_getElem? (i := 145) rfl) rfl
theorem gw_2_147 : Cond.laysFinal RX7 "AttributeDesk$Worker" "equations" "[I" ∈ lw_G := lwG tb_2 (List.mem_of_getElem? (i := 147) rfl) rfl
theorem gw_2_149 : Cond.laysFinal RX7 "AttributeDesk$Worker" "codeAt" "[I" ∈ lw_G := lwG tb_2 (List.mem_of_getElem? (i := 149) rfl) rfl
theorem gw_2_151 : Cond.lays RX7 "AttributeDesk$Worker" "wayLength" "I" ∈ lw_G := lwG tb_2 (List.mem_of_getElem? (i := 151) rfl) rfl
theorem gw_2_153 : Cond.laysFinal RX7 "AttributeDesk$Worker" "values" "[I" ∈ lw_G := lwG tb_2 (List.mem_of_getElem? (i := 153) rfl) rfl
theorem gw_2_155 : Cond.laysFinal RX7 "AttributeDesk$Worker" "bads" "[Z" ∈ lw_G := lwG tb_2 (List.mem_of_getElem? (i := 155) rfl) rfl
theorem gw_2_157 : Cond.lays RX7 "AttributeDesk$Worker" "valueCount" "I" ∈ lw_G := lwG tb_2 (List.mem_of_getElem? (i := 157) rfl) rfl
theorem gw_2_160 : Cond.fieldLink RX8 9 "AttributeDesk" "tape" "[B" ∈ lw_G := lwG tb_2 (List.mem_of_getElem? (i := 160) rfl) rfl
theorem gw_2_161 : Cond.fieldLink RX8 13 "AttributeDesk" "tapeSize" "I" ∈ lw_G := lwG tb_2 (List.mem_of_getElem? (i := 161) rfl) rfl
theorem gw_2_162 : Cond.fieldLink RX8 20 "AttributeDesk" "known" "LAttributeDesk$Grammar;" ∈ lw_G := lwG tb_2 (List.mem_of_getElem? (i := 162) rfl) rfl
theorem gw_2_163 : Cond.fieldLink RX8 24 "AttributeDesk" "spareGrammar" "LAttributeDesk$Grammar;" ∈ lw_G := lwG tb_2 (List.mem_of_getElem? (i := 163) rfl) rfl
theorem gw_2_164 : Cond.fieldLink RX8 30 "AttributeDesk" "grown" "LAttributeDesk$Tree;" ∈ lw_G := lwG tb_2 (List.mem_of_getElem? (i := 164) rfl) rfl
theorem gw_2_165 : Cond.fieldLink RX8 34 "AttributeDesk" "spareTree" "LAttributeDesk$Tree;" ∈ lw_G := lwG tb_2 (List.mem_of_getElem? (i := 165) rfl) rfl
theorem gw_2_166 : Cond.fieldLink RX8 42 "AttributeDesk" "tokens" "LAttributeDesk$Tokens;" ∈ lw_G := lwG tb_2 (List.mem_of_getElem? (i := 166) rfl) rfl
theorem gw_2_167 : Cond.fieldLink RX8 51 "AttributeDesk" "grammarReader" "LAttributeDesk$GrammarReader;" ∈ lw_G := lwG tb_2 (List.mem_of_getElem? (i := 167) rfl) rfl
theorem gw_2_168 : Cond.fieldLink RX8 60 "AttributeDesk" "treeReader" "LAttributeDesk$TreeReader;" ∈ lw_G := lwG tb_2 (List.mem_of_getElem? (i := 168) rfl) rfl
theorem gw_2_169 : Cond.fieldLink RX8 69 "AttributeDesk" "ways" "LAttributeDesk$Ways;" ∈ lw_G := lwG tb_2 (List.mem_of_getElem? (i := 169) rfl) rfl
theorem gw_2_170 : Cond.fieldLink RX8 78 "AttributeDesk" "worker" "LAttributeDesk$Worker;" ∈ lw_G := lwG tb_2 (List.mem_of_getElem? (i := 170) rfl) rfl
theorem gw_2_171 : Cond.fieldLink RX8 82 "AttributeDesk" "latestFault" "I" ∈ lw_G := lwG tb_2 (List.mem_of_getElem? (i := 171) rfl) rfl
theorem gw_2_172 : Cond.fieldLink RX8 85 "AttributeDesk" "latestPlace" "I" ∈ lw_G := lwG tb_2 (List.mem_of_getElem? (i := 172) rfl) rfl
theorem gw_2_173 : Cond.laysFinal RX8 "AttributeDesk" "tape" "[B" ∈ lw_G := lwG tb_2 (List.mem_of_getElem? (i := 173) rfl) rfl
theorem gw_2_175 : Cond.lays RX8 "AttributeDesk" "tapeSize" "I" ∈ lw_G := lwG tb_2 (List.mem_of_getElem? (i := 175) rfl) rfl
theorem gw_2_177 : Cond.lays RX8 "AttributeDesk" "known" "LAttributeDesk$Grammar;" ∈ lw_G := lwG tb_2 (List.mem_of_getElem? (i := 177) rfl) rfl
theorem gw_2_179 : Cond.lays RX8 "AttributeDesk" "spareGrammar" "LAttributeDesk$Grammar;" ∈ lw_G := lwG tb_2 (List.mem_of_getElem? (i := 179) rfl) rfl
theorem gw_2_181 : Cond.lays RX8 "AttributeDesk" "grown" "LAttributeDesk$Tree;" ∈ lw_G := lwG tb_2 (List.mem_of_getElem? (i := 181) rfl) rfl
theorem gw_2_183 : Cond.lays RX8 "AttributeDesk" "spareTree" "LAttributeDesk$Tree;" ∈ lw_G := lwG tb_2 (List.mem_of_getElem? (i := 183) rfl) rfl
theorem gw_2_185 : Cond.laysFinal RX8 "AttributeDesk" "tokens" "LAttributeDesk$Tokens;" ∈ lw_G := lwG tb_2 (List.mem_of_getElem? (i := 185) rfl) rfl
theorem gw_2_187 : Cond.laysFinal RX8 "AttributeDesk" "grammarReader" "LAttributeDesk$GrammarReader;" ∈ lw_G := lwG tb_2 (List.mem_of_getElem? (i := 187) rfl) rfl
theorem gw_2_189 : Cond.laysFinal RX8 "AttributeDesk" "treeReader" "LAttributeDesk$TreeReader;" ∈ lw_G := lwG tb_2 (List.mem_of_getElem? (i := 189) rfl) rfl
theorem gw_2_191 : Cond.laysFinal RX8 "AttributeDesk" "ways" "LAttributeDesk$Ways;" ∈ lw_G := lwG tb_2 (List.mem_of_getElem? (i := 191) rfl) rfl
theorem gw_2_193 : Cond.laysFinal RX8 "AttributeDesk" "worker" "LAttributeDesk$Worker;" ∈ lw_G := lwG tb_2 (List.mem_of_getElem? (i := 193) rfl) rfl
theorem gw_2_195 : Cond.lays RX8 "AttributeDesk" "latestFault" "I" ∈ lw_G := lwG tb_2 (List.mem_of_getElem? (i := 195) rfl) rfl
theorem gw_2_197 : Cond.lays RX8 "AttributeDesk" "latestPlace" "I" ∈ lw_G := lwG tb_2 (List.mem_of_getElem? (i := 197) rfl) rfl
theorem gw_2_200 : Cond.methodLink RL 13 yX8_feed ∈ lw_G := lwG tb_2 (List.mem_of_getElem? (i := 200) rfl) rfl
theorem gw_2_201 : Cond.instanceMethod yX8_feed ∈ lw_G := lwG tb_2 (List.mem_of_getElem? (i := 201) rfl) rfl
theorem gw_2_202 : Cond.selects RX8 yX8_feed yX8_feed ∈ lw_G := lwG tb_2 (List.mem_of_getElem? (i := 202) rfl) rfl
theorem gw_2_203 : Cond.code yX8_feed cX8_feed 6 (some .int) ∈ lw_G := lwG tb_2 (List.mem_of_getElem? (i := 203) rfl) rfl
theorem gw_2_204 : Cond.methodLink RX8 88 yX8_putWord ∈ lw_G := lwG tb_2 (List.mem_of_getElem? (i := 204) rfl) rfl
theorem gw_2_206 : Cond.instanceMethod yX8_putWord ∈ lw_G := lwG tb_2 (List.mem_of_getElem? (i := 206) rfl) rfl
theorem gw_2_207 : Cond.code yX8_putWord cX8_putWord 3 none ∈ lw_G := lwG tb_2 (List.mem_of_getElem? (i := 207) rfl) rfl
theorem gw_2_208 : Cond.methodLink RL 18 yX8_end ∈ lw_G := lwG tb_2 (List.mem_of_getElem? (i := 208) rfl) rfl
theorem gw_2_209 : Cond.instanceMethod yX8_end ∈ lw_G := lwG tb_2 (List.mem_of_getElem? (i := 209) rfl) rfl
theorem gw_2_210 : Cond.selects RX8 yX8_end yX8_end ∈ lw_G := lwG tb_2 (List.mem_of_getElem? (i := 210) rfl) rfl
theorem gw_2_211 : Cond.code yX8_end cX8_end 2 (some .int) ∈ lw_G := lwG tb_2 (List.mem_of_getElem? (i := 211) rfl) rfl
theorem gw_2_212 : Cond.methodLink RL 23 yX8_grammar ∈ lw_G := lwG tb_2 (List.mem_of_getElem? (i := 212) rfl) rfl
theorem gw_2_213 : Cond.instanceMethod yX8_grammar ∈ lw_G := lwG tb_2 (List.mem_of_getElem? (i := 213) rfl) rfl
theorem gw_2_214 : Cond.selects RX8 yX8_grammar yX8_grammar ∈ lw_G := lwG tb_2 (List.mem_of_getElem? (i := 214) rfl) rfl
theorem gw_2_215 : Cond.code yX8_grammar cX8_grammar 3 (some .int) ∈ lw_G := lwG tb_2 (List.mem_of_getElem? (i := 215) rfl) rfl
theorem gw_2_216 : Cond.methodLink RX8 92 yX2_read ∈ lw_G := lwG tb_2 (List.mem_of_getElem? (i := 216) rfl) rfl
theorem gw_2_217 : Cond.instanceMethod yX2_read ∈ lw_G := lwG tb_2 (List.mem_of_getElem? (i := 217) rfl) rfl
theorem gw_2_218 : Cond.selects RX2 yX2_read yX2_read ∈ lw_G := lwG tb_2 (List.mem_of_getElem? (i := 218) rfl) rfl
theorem gw_2_219 : Cond.code yX2_read cX2_read 5 (some .int) ∈ lw_G := lwG tb_2 (List.mem_of_getElem? (i := 219) rfl) rfl
theorem gw_2_220 : Cond.methodLink RX2 42 yX1_clear ∈ lw_G := lwG tb_2 (List.mem_of_getElem? (i := 220) rfl) rfl
theorem gw_2_221 : Cond.instanceMethod yX1_clear ∈ lw_G := lwG tb_2 (List.mem_of_getElem? (i := 221) rfl) rfl
theorem gw_2_222 : Cond.selects RX1 yX1_clear yX1_clear ∈ lw_G := lwG tb_2 (List.mem_of_getElem? (i := 222) rfl) rfl
theorem gw_2_223 : Cond.code yX1_clear cX1_clear 1 none ∈ lw_G := lwG tb_2 (List.mem_of_getElem? (i := 223) rfl) rfl
theorem gw_2_224 : Cond.methodLink RX2 47 yX3_begin ∈ lw_G := lwG tb_2 (List.mem_of_getElem? (i := 224) rfl) rfl
theorem gw_2_225 : Cond.instanceMethod yX3_begin ∈ lw_G := lwG tb_2 (List.mem_of_getElem? (i := 225) rfl) rfl
theorem gw_2_226 : Cond.selects RX3 yX3_begin yX3_begin ∈ lw_G := lwG tb_2 (List.mem_of_getElem? (i := 226) rfl) rfl
theorem gw_2_227 : Cond.code yX3_begin cX3_begin 2 none ∈ lw_G := lwG tb_2 (List.mem_of_getElem? (i := 227) rfl) rfl
theorem gw_2_228 : Cond.methodLink RX3 35 Lib.Math.min.name ∈ lw_G := lwG tb_2 (List.mem_of_getElem? (i := 228) rfl) rfl
theorem gw_2_229 : Cond.static Lib.Math.min.name ∈ lw_G := lwG tb_2 (List.mem_of_getElem? (i := 229) rfl) rfl
theorem gw_2_230 : Cond.code Lib.Math.min.name Lib.Math.min.code 2 (some .int) ∈ lw_G := lwG tb_2 (List.mem_of_getElem? (i := 230) rfl) rfl
theorem gw_2_231 : Cond.methodLink RX2 53 yX3_next ∈ lw_G := lwG tb_2 (List.mem_of_getElem? (i := 231) rfl) rfl
theorem gw_2_232 : Cond.instanceMethod yX3_next ∈ lw_G := lwG tb_2 (List.mem_of_getElem? (i := 232) rfl) rfl
theorem gw_2_233 : Cond.selects RX3 yX3_next yX3_next ∈ lw_G := lwG tb_2 (List.mem_of_getElem? (i := 233) rfl) rfl
theorem gw_2_234 : Cond.code yX3_next cX3_next 2 none ∈ lw_G := lwG tb_2 (List.mem_of_getElem? (i := 234) rfl) rfl
theorem gw_2_235 : Cond.methodLink RX3 41 yX3_skipBlanks ∈ lw_G := lwG tb_2 (List.mem_of_getElem? (i := 235) rfl) rfl
theorem gw_2_237 : Cond.instanceMethod yX3_skipBlanks ∈ lw_G := lwG tb_2 (List.mem_of_getElem? (i := 237) rfl) rfl
theorem gw_2_238 : Cond.code yX3_skipBlanks cX3_skipBlanks 3 (some .int) ∈ lw_G := lwG tb_2 (List.mem_of_getElem? (i := 238) rfl) rfl
theorem gw_3_113 : Cond.methodLink RX2 60 yX2_step ∈ lw_G := lwG tb_3 (List.mem_of_getElem? (i := 113) rfl) rfl
theorem gw_3_115 : Cond.instanceMethod yX2_step ∈ lw_G := lwG tb_3 (List.mem_of_getElem? (i := 115) rfl) rfl
theorem gw_3_116 : Cond.code yX2_step cX2_step 1 (some .int) ∈ lw_G := lwG tb_3 (List.mem_of_getElem? (i := 116) rfl) rfl
theorem gw_3_117 : Cond.methodLink RX2 64 yX2_symbolStep ∈ lw_G := lwG tb_3 (List.mem_of_getElem? (i := 117) rfl) rfl
theorem gw_3_119 : Cond.instanceMethod yX2_symbolStep ∈ lw_G := lwG tb_3 (List.mem_of_getElem? (i := 119) rfl) rfl
theorem gw_3_120 : Cond.code yX2_symbolStep cX2_symbolStep 1 (some .int) ∈ lw_G := lwG tb_3 (List.mem_of_getElem? (i := 120) rfl) rfl
theorem gw_3_150 : Cond.methodLink RX2 89 yX2_goIf ∈ lw_G := lwG tb_3 (List.mem_of_getElem? (i := 150) rfl) rfl
theorem gw_3_152 : Cond.instanceMethod yX2_goIf ∈ lw_G := lwG tb_3 (List.mem_of_getElem? (i := 152) rfl) rfl
theorem gw_3_153 : Cond.code yX2_goIf cX2_goIf 3 (some .int) ∈ lw_G := lwG tb_3 (List.mem_of_getElem? (i := 153) rfl) rfl
theorem gw_3_207 : Cond.methodLink RX8 96 yX8_keepFault ∈ lw_G := lwG tb_3 (List.mem_of_getElem? (i := 207) rfl) rfl
theorem gw_3_209 : Cond.instanceMethod yX8_keepFault ∈ lw_G := lwG tb_3 (List.mem_of_getElem? (i := 209) rfl) rfl
theorem gw_3_210 : Cond.code yX8_keepFault cX8_keepFault 2 none ∈ lw_G := lwG tb_3 (List.mem_of_getElem? (i := 210) rfl) rfl
theorem gw_4_59 : Cond.methodLink RL 28 yX8_tree ∈ lw_G := lwG tb_4 (List.mem_of_getElem? (i := 59) rfl) rfl
theorem gw_4_60 : Cond.instanceMethod yX8_tree ∈ lw_G := lwG tb_4 (List.mem_of_getElem? (i := 60) rfl) rfl
theorem gw_4_61 : Cond.selects RX8 yX8_tree yX8_tree ∈ lw_G := lwG tb_4 (List.mem_of_getElem? (i := 61) rfl) rfl
theorem gw_4_62 : Cond.code yX8_tree cX8_tree 3 (some .int) ∈ lw_G := lwG tb_4 (List.mem_of_getElem? (i := 62) rfl) rfl
theorem gw_4_100 : Cond.methodLink RL 32 yX8_fault ∈ lw_G := lwG tb_4 (List.mem_of_getElem? (i := 100) rfl) rfl
theorem gw_4_101 : Cond.instanceMethod yX8_fault ∈ lw_G := lwG tb_4 (List.mem_of_getElem? (i := 101) rfl) rfl
theorem gw_4_102 : Cond.selects RX8 yX8_fault yX8_fault ∈ lw_G := lwG tb_4 (List.mem_of_getElem? (i := 102) rfl) rfl
theorem gw_4_103 : Cond.code yX8_fault cX8_fault 2 (some .int) ∈ lw_G := lwG tb_4 (List.mem_of_getElem? (i := 103) rfl) rfl
theorem gw_4_104 : Cond.methodLink RL 36 yX8_symbol ∈ lw_G := lwG tb_4 (List.mem_of_getElem? (i := 104) rfl) rfl
theorem gw_4_105 : Cond.instanceMethod yX8_symbol ∈ lw_G := lwG tb_4 (List.mem_of_getElem? (i := 105) rfl) rfl
theorem gw_4_106 : Cond.selects RX8 yX8_symbol yX8_symbol ∈ lw_G := lwG tb_4 (List.mem_of_getElem? (i := 106) rfl) rfl
theorem gw_4_107 : Cond.code yX8_symbol cX8_symbol 3 (some .int) ∈ lw_G := lwG tb_4 (List.mem_of_getElem? (i := 107) rfl) rfl
theorem gw_4_116 : Cond.methodLink RL 41 yX8_graph ∈ lw_G := lwG tb_4 (List.mem_of_getElem? (i := 116) rfl) rfl
theorem gw_4_117 : Cond.instanceMethod yX8_graph ∈ lw_G := lwG tb_4 (List.mem_of_getElem? (i := 117) rfl) rfl
theorem gw_4_118 : Cond.selects RX8 yX8_graph yX8_graph ∈ lw_G := lwG tb_4 (List.mem_of_getElem? (i := 118) rfl) rfl
theorem gw_4_119 : Cond.code yX8_graph cX8_graph 3 (some .int) ∈ lw_G := lwG tb_4 (List.mem_of_getElem? (i := 119) rfl) rfl
theorem gw_4_120 : Cond.methodLink RL 45 yX8_rule ∈ lw_G := lwG tb_4 (List.mem_of_getElem? (i := 120) rfl) rfl
theorem gw_4_121 : Cond.instanceMethod yX8_rule ∈ lw_G := lwG tb_4 (List.mem_of_getElem? (i := 121) rfl) rfl
theorem gw_4_122 : Cond.selects RX8 yX8_rule yX8_rule ∈ lw_G := lwG tb_4 (List.mem_of_getElem? (i := 122) rfl) rfl
theorem gw_4_123 : Cond.code yX8_rule cX8_rule 3 (some .int) ∈ lw_G := lwG tb_4 (List.mem_of_getElem? (i := 123) rfl) rfl
theorem gw_4_125 : Cond.methodLink RL 49 yX8_test ∈ lw_G := lwG tb_4 (List.mem_of_getElem? (i := 125) rfl) rfl
theorem gw_4_126 : Cond.instanceMethod yX8_test ∈ lw_G := lwG tb_4 (List.mem_of_getElem? (i := 126) rfl) rfl
theorem gw_4_127 : Cond.selects RX8 yX8_test yX8_test ∈ lw_G := lwG tb_4 (List.mem_of_getElem? (i := 127) rfl) rfl
theorem gw_4_128 : Cond.code yX8_test cX8_test 2 (some .int) ∈ lw_G := lwG tb_4 (List.mem_of_getElem? (i := 128) rfl) rfl
theorem gw_4_137 : Cond.methodLink RL 53 yX8_node ∈ lw_G := lwG tb_4 (List.mem_of_getElem? (i := 137) rfl) rfl
theorem gw_4_138 : Cond.instanceMethod yX8_node ∈ lw_G := lwG tb_4 (List.mem_of_getElem? (i := 138) rfl) rfl
theorem gw_4_139 : Cond.selects RX8 yX8_node yX8_node ∈ lw_G := lwG tb_4 (List.mem_of_getElem? (i := 139) rfl) rfl
theorem gw_4_140 : Cond.code yX8_node cX8_node 3 (some .int) ∈ lw_G := lwG tb_4 (List.mem_of_getElem? (i := 140) rfl) rfl
theorem gw_4_141 : Cond.methodLink RX8 167 yX8_isNode ∈ lw_G := lwG tb_4 (List.mem_of_getElem? (i := 141) rfl) rfl
theorem gw_4_143 : Cond.instanceMethod yX8_isNode ∈ lw_G := lwG tb_4 (List.mem_of_getElem? (i := 143) rfl) rfl
theorem gw_4_144 : Cond.code yX8_isNode cX8_isNode 2 (some .boolean) ∈ lw_G := lwG tb_4 (List.mem_of_getElem? (i := 144) rfl) rfl
theorem gw_4_149 : Cond.methodLink RL 57 yX8_own ∈ lw_G := lwG tb_4 (List.mem_of_getElem? (i := 149) rfl) rfl
theorem gw_4_150 : Cond.instanceMethod yX8_own ∈ lw_G := lwG tb_4 (List.mem_of_getElem? (i := 150) rfl) rfl
theorem gw_4_151 : Cond.selects RX8 yX8_own yX8_own ∈ lw_G := lwG tb_4 (List.mem_of_getElem? (i := 151) rfl) rfl
theorem gw_4_152 : Cond.code yX8_own cX8_own 3 (some .boolean) ∈ lw_G := lwG tb_4 (List.mem_of_getElem? (i := 152) rfl) rfl
theorem gw_4_154 : Cond.methodLink RL 62 yX8_demand ∈ lw_G := lwG tb_4 (List.mem_of_getElem? (i := 154) rfl) rfl
theorem gw_4_155 : Cond.instanceMethod yX8_demand ∈ lw_G := lwG tb_4 (List.mem_of_getElem? (i := 155) rfl) rfl
theorem gw_4_156 : Cond.selects RX8 yX8_demand yX8_demand ∈ lw_G := lwG tb_4 (List.mem_of_getElem? (i := 156) rfl) rfl
theorem gw_4_157 : Cond.code yX8_demand cX8_demand 3 (some .int) ∈ lw_G := lwG tb_4 (List.mem_of_getElem? (i := 157) rfl) rfl
theorem gw_4_158 : Cond.methodLink RX8 190 yX8_isItem ∈ lw_G := lwG tb_4 (List.mem_of_getElem? (i := 158) rfl) rfl
theorem gw_4_160 : Cond.instanceMethod yX8_isItem ∈ lw_G := lwG tb_4 (List.mem_of_getElem? (i := 160) rfl) rfl
theorem gw_4_161 : Cond.code yX8_isItem cX8_isItem 3 (some .boolean) ∈ lw_G := lwG tb_4 (List.mem_of_getElem? (i := 161) rfl) rfl
theorem gw_4_223 : Cond.methodLink RL 66 yX8_value ∈ lw_G := lwG tb_4 (List.mem_of_getElem? (i := 223) rfl) rfl
theorem gw_4_224 : Cond.instanceMethod yX8_value ∈ lw_G := lwG tb_4 (List.mem_of_getElem? (i := 224) rfl) rfl
theorem gw_4_225 : Cond.selects RX8 yX8_value yX8_value ∈ lw_G := lwG tb_4 (List.mem_of_getElem? (i := 225) rfl) rfl
theorem gw_4_226 : Cond.code yX8_value cX8_value 5 (some .int) ∈ lw_G := lwG tb_4 (List.mem_of_getElem? (i := 226) rfl) rfl
theorem gw_4_228 : Cond.methodLink RL 71 yX8_order ∈ lw_G := lwG tb_4 (List.mem_of_getElem? (i := 228) rfl) rfl
theorem gw_4_229 : Cond.instanceMethod yX8_order ∈ lw_G := lwG tb_4 (List.mem_of_getElem? (i := 229) rfl) rfl
theorem gw_4_230 : Cond.selects RX8 yX8_order yX8_order ∈ lw_G := lwG tb_4 (List.mem_of_getElem? (i := 230) rfl) rfl
theorem gw_4_231 : Cond.code yX8_order cX8_order 2 (some .int) ∈ lw_G := lwG tb_4 (List.mem_of_getElem? (i := 231) rfl) rfl
theorem gw_4_232 : Cond.methodLink RL 75 yX8_about ∈ lw_G := lwG tb_4 (List.mem_of_getElem? (i := 232) rfl) rfl
theorem gw_4_233 : Cond.instanceMethod yX8_about ∈ lw_G := lwG tb_4 (List.mem_of_getElem? (i := 233) rfl) rfl
theorem gw_4_234 : Cond.selects RX8 yX8_about yX8_about ∈ lw_G := lwG tb_4 (List.mem_of_getElem? (i := 234) rfl) rfl
theorem gw_4_235 : Cond.code yX8_about cX8_about 2 (some .int) ∈ lw_G := lwG tb_4 (List.mem_of_getElem? (i := 235) rfl) rfl
theorem gw_4_236 : Cond.classLink RL 10 RX9 ∈ lw_G := lwG tb_4 (List.mem_of_getElem? (i := 236) rfl) rfl
theorem gw_4_237 : Cond.instantiable RX9 80 ∈ lw_G := lwG tb_4 (List.mem_of_getElem? (i := 237) rfl) rfl
theorem gw_4_238 : Cond.methodLink RL 12 yX9_init ∈ lw_G := lwG tb_4 (List.mem_of_getElem? (i := 238) rfl) rfl
theorem gw_4_239 : Cond.instanceMethod yX9_init ∈ lw_G := lwG tb_4 (List.mem_of_getElem? (i := 239) rfl) rfl
theorem gw_5_0 : Cond.code yX9_init cX9_init 1 none ∈ lw_G := lwG tb_5 (List.mem_of_getElem? (i := 0) rfl) rfl
theorem gw_5_1 : Cond.methodLink RX9 1 objectInit ∈ lw_G := lwG tb_5 (List.mem_of_getElem? (i := 1) rfl) rfl
theorem gw_5_2 : Cond.fieldLink RX9 7 "AttributeDeskModel" "tape" "[B" ∈ lw_G := lwG tb_5 (List.mem_of_getElem? (i := 2) rfl) rfl
theorem gw_5_3 : Cond.fieldLink RX9 173 "AttributeDeskModel" "taped" "I" ∈ lw_G := lwG tb_5 (List.mem_of_getElem? (i := 3) rfl) rfl
theorem gw_5_4 : Cond.fieldLink RX9 13 "AttributeDeskModel" "text" "[B" ∈ lw_G := lwG tb_5 (List.mem_of_getElem? (i := 4) rfl) rfl
theorem gw_5_5 : Cond.fieldLink RX9 200 "AttributeDeskModel" "length" "I" ∈ lw_G := lwG tb_5 (List.mem_of_getElem? (i := 5) rfl) rfl
theorem gw_5_6 : Cond.fieldLink RX9 16 "AttributeDeskModel" "former" "[B" ∈ lw_G := lwG tb_5 (List.mem_of_getElem? (i := 6) rfl) rfl
theorem gw_5_8 : Cond.fieldLink RX9 389 "AttributeDeskModel" "hasGrammar" "Z" ∈ lw_G := lwG tb_5 (List.mem_of_getElem? (i := 8) rfl) rfl
theorem gw_5_9 : Cond.fieldLink RX9 197 "AttributeDeskModel" "at" "I" ∈ lw_G := lwG tb_5 (List.mem_of_getElem? (i := 9) rfl) rfl
theorem gw_5_10 : Cond.fieldLink RX9 190 "AttributeDeskModel" "token" "I" ∈ lw_G := lwG tb_5 (List.mem_of_getElem? (i := 10) rfl) rfl
theorem gw_5_11 : Cond.fieldLink RX9 210 "AttributeDeskModel" "sort" "I" ∈ lw_G := lwG tb_5 (List.mem_of_getElem? (i := 11) rfl) rfl
theorem gw_5_12 : Cond.fieldLink RX9 206 "AttributeDeskModel" "told" "J" ∈ lw_G := lwG tb_5 (List.mem_of_getElem? (i := 12) rfl) rfl
theorem gw_5_13 : Cond.fieldLink RX9 184 "AttributeDeskModel" "wrong" "I" ∈ lw_G := lwG tb_5 (List.mem_of_getElem? (i := 13) rfl) rfl
theorem gw_5_14 : Cond.fieldLink RX9 187 "AttributeDeskModel" "wrongAt" "I" ∈ lw_G := lwG tb_5 (List.mem_of_getElem? (i := 14) rfl) rfl
theorem gw_5_15 : Cond.fieldLink RX9 19 "AttributeDeskModel" "fault" "I" ∈ lw_G := lwG tb_5 (List.mem_of_getElem? (i := 15) rfl) rfl
theorem gw_5_16 : Cond.fieldLink RX9 23 "AttributeDeskModel" "faultAt" "I" ∈ lw_G := lwG tb_5 (List.mem_of_getElem? (i := 16) rfl) rfl
theorem gw_5_18 : Cond.fieldLink RX9 248 "AttributeDeskModel" "symbols" "I" ∈ lw_G := lwG tb_5 (List.mem_of_getElem? (i := 18) rfl) rfl
theorem gw_5_19 : Cond.fieldLink RX9 26 "AttributeDeskModel" "symbolName" "[J" ∈ lw_G := lwG tb_5 (List.mem_of_getElem? (i := 19) rfl) rfl
theorem gw_5_20 : Cond.fieldLink RX9 30 "AttributeDeskModel" "attributes" "[I" ∈ lw_G := lwG tb_5 (List.mem_of_getElem? (i := 20) rfl) rfl
theorem gw_5_21 : Cond.fieldLink RX9 34 "AttributeDeskModel" "attributeName" "[J" ∈ lw_G := lwG tb_5 (List.mem_of_getElem? (i := 21) rfl) rfl
theorem gw_5_22 : Cond.fieldLink RX9 37 "AttributeDeskModel" "isInherited" "[Z" ∈ lw_G := lwG tb_5 (List.mem_of_getElem? (i := 22) rfl) rfl
theorem gw_5_23 : Cond.fieldLink RX9 272 "AttributeDeskModel" "rules" "I" ∈ lw_G := lwG tb_5 (List.mem_of_getElem? (i := 23) rfl) rfl
theorem gw_5_24 : Cond.fieldLink RX9 41 "AttributeDeskModel" "ruleName" "[J" ∈ lw_G := lwG tb_5 (List.mem_of_getElem? (i := 24) rfl) rfl
theorem gw_5_25 : Cond.fieldLink RX9 44 "AttributeDeskModel" "children" "[I" ∈ lw_G := lwG tb_5 (List.mem_of_getElem? (i := 25) rfl) rfl
theorem gw_5_26 : Cond.fieldLink RX9 47 "AttributeDeskModel" "ruleSymbol" "[I" ∈ lw_G := lwG tb_5 (List.mem_of_getElem? (i := 26) rfl) rfl
theorem gw_5_27 : Cond.fieldLink RX9 50 "AttributeDeskModel" "equations" "[I" ∈ lw_G := lwG tb_5 (List.mem_of_getElem? (i := 27) rfl) rfl
theorem gw_5_28 : Cond.fieldLink RX9 53 "AttributeDeskModel" "eqFrom" "[I" ∈ lw_G := lwG tb_5 (List.mem_of_getElem? (i := 28) rfl) rfl
theorem gw_5_29 : Cond.fieldLink RX9 56 "AttributeDeskModel" "eqOccs" "[I" ∈ lw_G := lwG tb_5 (List.mem_of_getElem? (i := 29) rfl) rfl
theorem gw_5_30 : Cond.fieldLink RX9 59 "AttributeDeskModel" "eqMany" "[I" ∈ lw_G := lwG tb_5 (List.mem_of_getElem? (i := 30) rfl) rfl
theorem gw_5_31 : Cond.fieldLink RX9 302 "AttributeDeskModel" "orders" "I" ∈ lw_G := lwG tb_5 (List.mem_of_getElem? (i := 31) rfl) rfl
theorem gw_5_32 : Cond.fieldLink RX9 62 "AttributeDeskModel" "order" "[I" ∈ lw_G := lwG tb_5 (List.mem_of_getElem? (i := 32) rfl) rfl
theorem gw_5_33 : Cond.fieldLink RX9 65 "AttributeDeskModel" "orderOf" "[I" ∈ lw_G := lwG tb_5 (List.mem_of_getElem? (i := 33) rfl) rfl
theorem gw_5_34 : Cond.fieldLink RX9 305 "AttributeDeskModel" "occs" "I" ∈ lw_G := lwG tb_5 (List.mem_of_getElem? (i := 34) rfl) rfl
theorem gw_5_35 : Cond.fieldLink RX9 68 "AttributeDeskModel" "occPlace" "[I" ∈ lw_G := lwG tb_5 (List.mem_of_getElem? (i := 35) rfl) rfl
theorem gw_5_36 : Cond.fieldLink RX9 71 "AttributeDeskModel" "occAttribute" "[I" ∈ lw_G := lwG tb_5 (List.mem_of_getElem? (i := 36) rfl) rfl
theorem gw_5_40 : Cond.fieldLink RX9 74 "AttributeDeskModel" "frame" "[I" ∈ lw_G := lwG tb_5 (List.mem_of_getElem? (i := 40) rfl) rfl
theorem gw_5_41 : Cond.fieldLink RX9 77 "AttributeDeskModel" "frameOf" "[I" ∈ lw_G := lwG tb_5 (List.mem_of_getElem? (i := 41) rfl) rfl
theorem gw_5_44 : Cond.fieldLink RX9 396 "AttributeDeskModel" "nodes" "I" ∈ lw_G := lwG tb_5 (List.mem_of_getElem? (i := 44) rfl) rfl
theorem gw_5_45 : Cond.fieldLink RX9 80 "AttributeDeskModel" "nodeRule" "[I" ∈ lw_G := lwG tb_5 (List.mem_of_getElem? (i := 45) rfl) rfl
theorem gw_5_46 : Cond.fieldLink RX9 83 "AttributeDeskModel" "nodeAbove" "[I" ∈ lw_G := lwG tb_5 (List.mem_of_getElem? (i := 46) rfl) rfl
theorem gw_5_47 : Cond.fieldLink RX9 86 "AttributeDeskModel" "nodePlace" "[I" ∈ lw_G := lwG tb_5 (List.mem_of_getElem? (i := 47) rfl) rfl
theorem gw_5_48 : Cond.fieldLink RX9 89 "AttributeDeskModel" "nodeOwn" "[I" ∈ lw_G := lwG tb_5 (List.mem_of_getElem? (i := 48) rfl) rfl
theorem gw_5_49 : Cond.fieldLink RX9 92 "AttributeDeskModel" "nodeChild" "[I" ∈ lw_G := lwG tb_5 (List.mem_of_getElem? (i := 49) rfl) rfl
theorem gw_5_51 : Cond.fieldLink RX9 95 "AttributeDeskModel" "newRule" "[I" ∈ lw_G := lwG tb_5 (List.mem_of_getElem? (i := 51) rfl) rfl
theorem gw_5_52 : Cond.fieldLink RX9 98 "AttributeDeskModel" "newAbove" "[I" ∈ lw_G := lwG tb_5 (List.mem_of_getElem? (i := 52) rfl) rfl
theorem gw_5_53 : Cond.fieldLink RX9 101 "AttributeDeskModel" "newPlace" "[I" ∈ lw_G := lwG tb_5 (List.mem_of_getElem? (i := 53) rfl) rfl
theorem gw_5_54 : Cond.fieldLink RX9 104 "AttributeDeskModel" "newOwn" "[I" ∈ lw_G := lwG tb_5 (List.mem_of_getElem? (i := 54) rfl) rfl
theorem gw_5_55 : Cond.fieldLink RX9 107 "AttributeDeskModel" "newMany" "[I" ∈ lw_G := lwG tb_5 (List.mem_of_getElem? (i := 55) rfl) rfl
theorem gw_5_56 : Cond.fieldLink RX9 110 "AttributeDeskModel" "newChild" "[I" ∈ lw_G := lwG tb_5 (List.mem_of_getElem? (i := 56) rfl) rfl
theorem gw_5_57 : Cond.fieldLink RX9 113 "AttributeDeskModel" "canBe" "[Z" ∈ lw_G := lwG tb_5 (List.mem_of_getElem? (i := 57) rfl) rfl
theorem gw_5_58 : Cond.fieldLink RX9 116 "AttributeDeskModel" "canCome" "[Z" ∈ lw_G := lwG tb_5 (List.mem_of_getElem? (i := 58) rfl) rfl
theorem gw_5_59 : Cond.fieldLink RX9 119 "AttributeDeskModel" "isAbove" "[Z" ∈ lw_G := lwG tb_5 (List.mem_of_getElem? (i := 59) rfl) rfl
theorem gw_5_61 : Cond.fieldLink RX9 122 "AttributeDeskModel" "hasGraph" "[Z" ∈ lw_G := lwG tb_5 (List.mem_of_getElem? (i := 61) rfl) rfl
theorem gw_5_62 : Cond.fieldLink RX9 125 "AttributeDeskModel" "graphs" "[I" ∈ lw_G := lwG tb_5 (List.mem_of_getElem? (i := 62) rfl) rfl
theorem gw_5_63 : Cond.fieldLink RX9 128 "AttributeDeskModel" "plain" "[I" ∈ lw_G := lwG tb_5 (List.mem_of_getElem? (i := 63) rfl) rfl
theorem gw_5_64 : Cond.fieldLink RX9 131 "AttributeDeskModel" "isRoundPlain" "[Z" ∈ lw_G := lwG tb_5 (List.mem_of_getElem? (i := 64) rfl) rfl
theorem gw_5_65 : Cond.fieldLink RX9 134 "AttributeDeskModel" "isRound" "[Z" ∈ lw_G := lwG tb_5 (List.mem_of_getElem? (i := 65) rfl) rfl
theorem gw_5_66 : Cond.fieldLink RX9 137 "AttributeDeskModel" "reach" "[I" ∈ lw_G := lwG tb_5 (List.mem_of_getElem? (i := 66) rfl) rfl
theorem gw_5_67 : Cond.fieldLink RX9 140 "AttributeDeskModel" "chosen" "[I" ∈ lw_G := lwG tb_5 (List.mem_of_getElem? (i := 67) rfl) rfl
theorem gw_5_69 : Cond.fieldLink RX9 143 "AttributeDeskModel" "fresh" "[I" ∈ lw_G := lwG tb_5 (List.mem_of_getElem? (i := 69) rfl) rfl
theorem gw_5_70 : Cond.fieldLink RX9 399 "AttributeDeskModel" "worked" "I" ∈ lw_G := lwG tb_5 (List.mem_of_getElem? (i := 70) rfl) rfl
theorem gw_5_71 : Cond.fieldLink RX9 146 "AttributeDeskModel" "workedAt" "[I" ∈ lw_G := lwG tb_5 (List.mem_of_getElem? (i := 71) rfl) rfl
theorem gw_5_72 : Cond.fieldLink RX9 149 "AttributeDeskModel" "isWorked" "[Z" ∈ lw_G := lwG tb_5 (List.mem_of_getElem? (i := 72) rfl) rfl
theorem gw_5_73 : Cond.fieldLink RX9 152 "AttributeDeskModel" "isBad" "[Z" ∈ lw_G := lwG tb_5 (List.mem_of_getElem? (i := 73) rfl) rfl
theorem gw_5_74 : Cond.fieldLink RX9 155 "AttributeDeskModel" "number" "[I" ∈ lw_G := lwG tb_5 (List.mem_of_getElem? (i := 74) rfl) rfl
theorem gw_5_75 : Cond.fieldLink RX9 158 "AttributeDeskModel" "isWaiting" "[Z" ∈ lw_G := lwG tb_5 (List.mem_of_getElem? (i := 75) rfl) rfl
theorem gw_5_77 : Cond.fieldLink RX9 161 "AttributeDeskModel" "waitsFor" "[I" ∈ lw_G := lwG tb_5 (List.mem_of_getElem? (i := 77) rfl) rfl
theorem gw_5_78 : Cond.fieldLink RX9 164 "AttributeDeskModel" "waitsAt" "[I" ∈ lw_G := lwG tb_5 (List.mem_of_getElem? (i := 78) rfl) rfl
theorem gw_5_80 : Cond.fieldLink RX9 167 "AttributeDeskModel" "stack" "[I" ∈ lw_G := lwG tb_5 (List.mem_of_getElem? (i := 80) rfl) rfl
theorem gw_5_81 : Cond.fieldLink RX9 170 "AttributeDeskModel" "stackBad" "[Z" ∈ lw_G := lwG tb_5 (List.mem_of_getElem? (i := 81) rfl) rfl
theorem gw_5_82 : Cond.laysFinal RX9 "AttributeDeskModel" "tape" "[B" ∈ lw_G := lwG tb_5 (List.mem_of_getElem? (i := 82) rfl) rfl
theorem gw_5_84 : Cond.lays RX9 "AttributeDeskModel" "taped" "I" ∈ lw_G := lwG tb_5 (List.mem_of_getElem? (i := 84) rfl) rfl
theorem gw_5_86 : Cond.laysFinal RX9 "AttributeDeskModel" "text" "[B" ∈ lw_G := lwG tb_5 (List.mem_of_getElem? (i := 86) rfl) rfl
theorem gw_5_88 : Cond.lays RX9 "AttributeDeskModel" "length" "I" ∈ lw_G := lwG tb_5 (List.mem_of_getElem? (i := 88) rfl) rfl
theorem gw_5_90 : Cond.laysFinal RX9 "AttributeDeskModel" "former" "[B" ∈ lw_G := lwG tb_5 (List.mem_of_getElem? (i := 90) rfl) rfl
theorem gw_5_92 : Cond.lays RX9 "AttributeDeskModel" "formerLength" "I" ∈ lw_G := lwG tb_5 (List.mem_of_getElem? (i := 92) rfl) rfl
theorem gw_5_94 : Cond.lays RX9 "AttributeDeskModel" "hasGrammar" "Z" ∈ lw_G := lwG tb_5 (List.mem_of_getElem? (i := 94) rfl) rfl
theorem gw_5_96 : Cond.lays RX9 "AttributeDeskModel" "at" "I" ∈ lw_G := lwG tb_5 (List.mem_of_getElem? (i := 96) rfl) rfl
theorem gw_5_98 : Cond.lays RX9 "AttributeDeskModel" "token" "I" ∈ lw_G := lwG tb_5 (List.mem_of_getElem? (i := 98) rfl) rfl
theorem gw_5_100 : Cond.lays RX9 "AttributeDeskModel" "sort" "I" ∈ lw_G := lwG tb_5 (List.mem_of_getElem? (i := 100) rfl) rfl
theorem gw_5_102 : Cond.lays RX9 "AttributeDeskModel" "told" "J" ∈ lw_G := lwG tb_5 (List.mem_of_getElem? (i := 102) rfl) rfl
theorem gw_5_104 : Cond.lays RX9 "AttributeDeskModel" "wrong" "I" ∈ lw_G := lwG tb_5 (List.mem_of_getElem? (i := 104) rfl) rfl
theorem gw_5_106 : Cond.lays RX9 "AttributeDeskModel" "wrongAt" "I" ∈ lw_G := lwG tb_5 (List.mem_of_getElem? (i := 106) rfl) rfl
theorem gw_5_108 : Cond.lays RX9 "AttributeDeskModel" "fault" "I" ∈ lw_G := lwG tb_5 (List.mem_of_getElem? (i := 108) rfl) rfl
theorem gw_5_110 : Cond.lays RX9 "AttributeDeskModel" "faultAt" "I" ∈ lw_G := lwG tb_5 (List.mem_of_getElem? (i := 110) rfl) rfl
theorem gw_5_112 : Cond.lays RX9 "AttributeDeskModel" "nest" "I" ∈ lw_G := lwG tb_5 (List.mem_of_getElem? (i := 112) rfl) rfl
theorem gw_5_114 : Cond.lays RX9 "AttributeDeskModel" "symbols" "I" ∈ lw_G := lwG tb_5 (List.mem_of_getElem? (i := 114) rfl) rfl
theorem gw_5_116 : Cond.laysFinal RX9 "AttributeDeskModel" "symbolName" "[J" ∈ lw_G := lwG tb_5 (List.mem_of_getElem? (i := 116) rfl) rfl
theorem gw_5_118 : Cond.laysFinal RX9 "AttributeDeskModel" "attributes" "[I" ∈ lw_G := lwG tb_5 (List.mem_of_getElem? (i := 118) rfl) rfl
theorem gw_5_120 : Cond.laysFinal RX9 "AttributeDeskModel" "attributeName" "[J" ∈ lw_G := lwG tb_5 (List.mem_of_getElem? (i := 120) rfl) rfl
theorem gw_5_122 : Cond.laysFinal RX9 "AttributeDeskModel" "isInherited" "[Z" ∈ lw_G := lwG tb_5 (List.mem_of_getElem? (i := 122) rfl) rfl
theorem gw_5_124 : Cond.lays RX9 "AttributeDeskModel" "rules" "I" ∈ lw_G := lwG tb_5 (List.mem_of_getElem? (i := 124) rfl) rfl
theorem gw_5_126 : Cond.laysFinal RX9 "AttributeDeskModel" "ruleName" "[J" ∈ lw_G := lwG tb_5 (List.mem_of_getElem? (i := 126) rfl) rfl
theorem gw_5_128 : Cond.laysFinal RX9 "AttributeDeskModel" "children" "[I" ∈ lw_G := lwG tb_5 (List.mem_of_getElem? (i := 128) rfl) rfl
theorem gw_5_130 : Cond.laysFinal RX9 "AttributeDeskModel" "ruleSymbol" "[I" ∈ lw_G := lwG tb_5 (List.mem_of_getElem? (i := 130) rfl) rfl
theorem gw_5_132 : Cond.laysFinal RX9 "AttributeDeskModel" "equations" "[I" ∈ lw_G := lwG tb_5 (List.mem_of_getElem? (i := 132) rfl) rfl
theorem gw_5_134 : Cond.laysFinal RX9 "AttributeDeskModel" "eqFrom" "[I" ∈ lw_G := lwG tb_5 (List.mem_of_getElem? (i := 134) rfl) rfl
theorem gw_5_136 : Cond.laysFinal RX9 "AttributeDeskModel" "eqOccs" "[I" ∈ lw_G := lwG tb_5 (List.mem_of_getElem? (i := 136) rfl) rfl
theorem gw_5_138 : Cond.laysFinal RX9 "AttributeDeskModel" "eqMany" "[I" ∈ lw_G := lwG tb_5 (List.mem_of_getElem? (i := 138) rfl) rfl
theorem gw_5_140 : Cond.lays RX9 "AttributeDeskModel" "orders" "I" ∈ lw_G := lwG tb_5 (List.mem_of_getElem? (i := 140) rfl) rfl
theorem gw_5_142 : Cond.laysFinal RX9 "AttributeDeskModel" "order" "[I" ∈ lw_G := lwG tb_5 (List.mem_of_getElem? (i := 142) rfl) rfl
theorem gw_5_144 : Cond.laysFinal RX9 "AttributeDeskModel" "orderOf" "[I" ∈ lw_G := lwG tb_5 (List.mem_of_getElem? (i := 144) rfl) rfl
theorem gw_5_146 : Cond.lays RX9 "AttributeDeskModel" "occs" "I" ∈ lw_G := lwG tb_5 (List.mem_of_getElem? (i := 146) rfl) rfl
theorem gw_5_148 : Cond.laysFinal RX9 "AttributeDeskModel" "occPlace" "[I" ∈ lw_G := lwG tb_5 (List.mem_of_getElem? (i := 148) rfl) rfl
theorem gw_5_150 : Cond.laysFinal RX9 "AttributeDeskModel" "occAttribute" "[I" ∈ lw_G := lwG tb_5 (List.mem_of_getElem? (i := 150) rfl) rfl
theorem gw_5_152 : Cond.lays RX9 "AttributeDeskModel" "occurK" "I" ∈ lw_G := lwG tb_5 (List.mem_of_getElem? (i := 152) rfl) rfl
theorem gw_5_154 : Cond.lays RX9 "AttributeDeskModel" "occurA" "I" ∈ lw_G := lwG tb_5 (List.mem_of_getElem? (i := 154) rfl) rfl
theorem gw_5_156 : Cond.lays RX9 "AttributeDeskModel" "frames" "I" ∈ lw_G := lwG tb_5 (List.mem_of_getElem? (i := 156) rfl) rfl
theorem gw_5_158 : Cond.laysFinal RX9 "AttributeDeskModel" "frame" "[I" ∈ lw_G := lwG tb_5 (List.mem_of_getElem? (i := 158) rfl) rfl
theorem gw_5_160 : Cond.laysFinal RX9 "AttributeDeskModel" "frameOf" "[I" ∈ lw_G := lwG tb_5 (List.mem_of_getElem? (i := 160) rfl) rfl
theorem gw_5_162 : Cond.lays RX9 "AttributeDeskModel" "tokens" "I" ∈ lw_G := lwG tb_5 (List.mem_of_getElem? (i := 162) rfl) rfl
theorem gw_5_164 : Cond.lays RX9 "AttributeDeskModel" "mode" "I" ∈ lw_G := lwG tb_5 (List.mem_of_getElem? (i := 164) rfl) rfl
theorem gw_5_166 : Cond.lays RX9 "AttributeDeskModel" "nodes" "I" ∈ lw_G := lwG tb_5 (List.mem_of_getElem? (i := 166) rfl) rfl
theorem gw_5_168 : Cond.laysFinal RX9 "AttributeDeskModel" "nodeRule" "[I" ∈ lw_G := lwG tb_5 (List.mem_of_getElem? (i := 168) rfl) rfl
theorem gw_5_170 : Cond.laysFinal RX9 "AttributeDeskModel" "nodeAbove" "[I" ∈ lw_G := lwG tb_5 (List.mem_of_getElem? (i := 170) rfl) rfl
theorem gw_5_172 : Cond.laysFinal RX9 "AttributeDeskModel" "nodePlace" "[I" ∈ lw_G := lwG tb_5 (List.mem_of_getElem? (i := 172) rfl) rfl
theorem gw_5_174 : Cond.laysFinal RX9 "AttributeDeskModel" "nodeOwn" "[I" ∈ lw_G := lwG tb_5 (List.mem_of_getElem? (i := 174) rfl) rfl
theorem gw_5_176 : Cond.laysFinal RX9 "AttributeDeskModel" "nodeChild" "[I" ∈ lw_G := lwG tb_5 (List.mem_of_getElem? (i := 176) rfl) rfl
theorem gw_5_178 : Cond.lays RX9 "AttributeDeskModel" "newNodes" "I" ∈ lw_G := lwG tb_5 (List.mem_of_getElem? (i := 178) rfl) rfl
theorem gw_5_180 : Cond.laysFinal RX9 "AttributeDeskModel" "newRule" "[I" ∈ lw_G := lwG tb_5 (List.mem_of_getElem? (i := 180) rfl) rfl
theorem gw_5_182 : Cond.laysFinal RX9 "AttributeDeskModel" "newAbove" "[I" ∈ lw_G := lwG tb_5 (List.mem_of_getElem? (i := 182) rfl) rfl
theorem gw_5_184 : Cond.laysFinal RX9 "AttributeDeskModel" "newPlace" "[I" ∈ lw_G := lwG tb_5 (List.mem_of_getElem? (i := 184) rfl) rfl
theorem gw_5_186 : Cond.laysFinal RX9 "AttributeDeskModel" "newOwn" "[I" ∈ lw_G := lwG tb_5 (List.mem_of_getElem? (i := 186) rfl) rfl
theorem gw_5_188 : Cond.laysFinal RX9 "AttributeDeskModel" "newMany" "[I" ∈ lw_G := lwG tb_5 (List.mem_of_getElem? (i := 188) rfl) rfl
theorem gw_5_190 : Cond.laysFinal RX9 "AttributeDeskModel" "newChild" "[I" ∈ lw_G := lwG tb_5 (List.mem_of_getElem? (i := 190) rfl) rfl
theorem gw_5_192 : Cond.laysFinal RX9 "AttributeDeskModel" "canBe" "[Z" ∈ lw_G := lwG tb_5 (List.mem_of_getElem? (i := 192) rfl) rfl
theorem gw_5_194 : Cond.laysFinal RX9 "AttributeDeskModel" "canCome" "[Z" ∈ lw_G := lwG tb_5 (List.mem_of_getElem? (i := 194) rfl) rfl
theorem gw_5_196 : Cond.laysFinal RX9 "AttributeDeskModel" "isAbove" "[Z" ∈ lw_G := lwG tb_5 (List.mem_of_getElem? (i := 196) rfl) rfl
theorem gw_5_198 : Cond.lays RX9 "AttributeDeskModel" "isLarge" "Z" ∈ lw_G := lwG tb_5 (List.mem_of_getElem? (i := 198) rfl) rfl
theorem gw_5_200 : Cond.laysFinal RX9 "AttributeDeskModel" "hasGraph" "[Z" ∈ lw_G := lwG tb_5 (List.mem_of_getElem? (i := 200) rfl) rfl
theorem gw_5_202 : Cond.laysFinal RX9 "AttributeDeskModel" "graphs" "[I" ∈ lw_G := lwG tb_5 (List.mem_of_getElem? (i := 202) rfl) rfl
theorem gw_5_204 : Cond.laysFinal RX9 "AttributeDeskModel" "plain" "[I" ∈ lw_G := lwG tb_5 (List.mem_of_getElem? (i := 204) rfl) rfl
theorem gw_5_206 : Cond.laysFinal RX9 "AttributeDeskModel" "isRoundPlain" "[Z" ∈ lw_G := lwG tb_5 (List.mem_of_getElem? (i := 206) rfl) rfl
theorem gw_5_208 : Cond.laysFinal RX9 "AttributeDeskModel" "isRound" "[Z" ∈ lw_G := lwG tb_5 (List.mem_of_getElem? (i := 208) rfl) rfl
theorem gw_5_210 : Cond.laysFinal RX9 "AttributeDeskModel" "reach" "[I" ∈ lw_G := lwG tb_5 (List.mem_of_getElem? (i := 210) rfl) rfl
theorem gw_5_212 : Cond.laysFinal RX9 "AttributeDeskModel" "chosen" "[I" ∈ lw_G := lwG tb_5 (List.mem_of_getElem? (i := 212) rfl) rfl
theorem gw_5_214 : Cond.lays RX9 "AttributeDeskModel" "fresh0" "I" ∈ lw_G := lwG tb_5 (List.mem_of_getElem? (i := 214) rfl) rfl
theorem gw_5_216 : Cond.laysFinal RX9 "AttributeDeskModel" "fresh" "[I" ∈ lw_G := lwG tb_5 (List.mem_of_getElem? (i := 216) rfl) rfl
theorem gw_5_218 : Cond.lays RX9 "AttributeDeskModel" "worked" "I" ∈ lw_G := lwG tb_5 (List.mem_of_getElem? (i := 218) rfl) rfl
theorem gw_5_220 : Cond.laysFinal RX9 "AttributeDeskModel" "workedAt" "[I" ∈ lw_G := lwG tb_5 (List.mem_of_getElem? (i := 220) rfl) rfl
theorem gw_5_222 : Cond.laysFinal RX9 "AttributeDeskModel" "isWorked" "[Z" ∈ lw_G := lwG tb_5 (List.mem_of_getElem? (i := 222) rfl) rfl
theorem gw_5_224 : Cond.laysFinal RX9 "AttributeDeskModel" "isBad" "[Z" ∈ lw_G := lwG tb_5 (List.mem_of_getElem? (i := 224) rfl) rfl
theorem gw_5_226 : Cond.laysFinal RX9 "AttributeDeskModel" "number" "[I" ∈ lw_G := lwG tb_5 (List.mem_of_getElem? (i := 226) rfl) rfl
theorem gw_5_228 : Cond.laysFinal RX9 "AttributeDeskModel" "isWaiting" "[Z" ∈ lw_G := lwG tb_5 (List.mem_of_getElem? (i := 228) rfl) rfl
theorem gw_5_230 : Cond.lays RX9 "AttributeDeskModel" "waits" "I" ∈ lw_G := lwG tb_5 (List.mem_of_getElem? (i := 230) rfl) rfl
theorem gw_5_232 : Cond.laysFinal RX9 "AttributeDeskModel" "waitsFor" "[I" ∈ lw_G := lwG tb_5 (List.mem_of_getElem? (i := 232) rfl) rfl
theorem gw_5_234 : Cond.laysFinal RX9 "AttributeDeskModel" "waitsAt" "[I" ∈ lw_G := lwG tb_5 (List.mem_of_getElem? (i := 234) rfl) rfl
theorem gw_5_236 : Cond.lays RX9 "AttributeDeskModel" "top" "I" ∈ lw_G := lwG tb_5 (List.mem_of_getElem? (i := 236) rfl) rfl
theorem gw_5_238 : Cond.laysFinal RX9 "AttributeDeskModel" "stack" "[I" ∈ lw_G := lwG tb_5 (List.mem_of_getElem? (i := 238) rfl) rfl
theorem gw_6_0 : Cond.laysFinal RX9 "AttributeDeskModel" "stackBad" "[Z" ∈ lw_G := lwG tb_6 (List.mem_of_getElem? (i := 0) rfl) rfl
theorem gw_6_3 : Cond.methodLink RL 17 yX9_feed ∈ lw_G := lwG tb_6 (List.mem_of_getElem? (i := 3) rfl) rfl
theorem gw_6_4 : Cond.instanceMethod yX9_feed ∈ lw_G := lwG tb_6 (List.mem_of_getElem? (i := 4) rfl) rfl
theorem gw_6_5 : Cond.selects RX9 yX9_feed yX9_feed ∈ lw_G := lwG tb_6 (List.mem_of_getElem? (i := 5) rfl) rfl
theorem gw_6_6 : Cond.code yX9_feed cX9_feed 6 (some .int) ∈ lw_G := lwG tb_6 (List.mem_of_getElem? (i := 6) rfl) rfl
theorem gw_6_7 : Cond.methodLink RX9 176 yX9_put ∈ lw_G := lwG tb_6 (List.mem_of_getElem? (i := 7) rfl) rfl
theorem gw_6_9 : Cond.instanceMethod yX9_put ∈ lw_G := lwG tb_6 (List.mem_of_getElem? (i := 9) rfl) rfl
theorem gw_6_10 : Cond.code yX9_put cX9_put 2 none ∈ lw_G := lwG tb_6 (List.mem_of_getElem? (i := 10) rfl) rfl
theorem gw_6_11 : Cond.methodLink RL 22 yX9_end ∈ lw_G := lwG tb_6 (List.mem_of_getElem? (i := 11) rfl) rfl
theorem gw_6_12 : Cond.instanceMethod yX9_end ∈ lw_G := lwG tb_6 (List.mem_of_getElem? (i := 12) rfl) rfl
theorem gw_6_13 : Cond.selects RX9 yX9_end yX9_end ∈ lw_G := lwG tb_6 (List.mem_of_getElem? (i := 13) rfl) rfl
theorem gw_6_14 : Cond.code yX9_end cX9_end 2 (some .int) ∈ lw_G := lwG tb_6 (List.mem_of_getElem? (i := 14) rfl) rfl
theorem gw_6_15 : Cond.methodLink RX9 180 yX9_in ∈ lw_G := lwG tb_6 (List.mem_of_getElem? (i := 15) rfl) rfl
theorem gw_6_16 : Cond.static yX9_in ∈ lw_G := lwG tb_6 (List.mem_of_getElem? (i := 16) rfl) rfl
theorem gw_6_17 : Cond.code yX9_in cX9_in 3 (some .boolean) ∈ lw_G := lwG tb_6 (List.mem_of_getElem? (i := 17) rfl) rfl
theorem gw_6_18 : Cond.methodLink RL 27 yX9_grammar ∈ lw_G := lwG tb_6 (List.mem_of_getElem? (i := 18) rfl) rfl
theorem gw_6_19 : Cond.instanceMethod yX9_grammar ∈ lw_G := lwG tb_6 (List.mem_of_getElem? (i := 19) rfl) rfl
theorem gw_6_20 : Cond.selects RX9 yX9_grammar yX9_grammar ∈ lw_G := lwG tb_6 (List.mem_of_getElem? (i := 20) rfl) rfl
theorem gw_6_21 : Cond.code yX9_grammar cX9_grammar 2 (some .int) ∈ lw_G := lwG tb_6 (List.mem_of_getElem? (i := 21) rfl) rfl
theorem gw_6_22 : Cond.methodLink RX9 383 yX9_takesTape ∈ lw_G := lwG tb_6 (List.mem_of_getElem? (i := 22) rfl) rfl
theorem gw_6_24 : Cond.instanceMethod yX9_takesTape ∈ lw_G := lwG tb_6 (List.mem_of_getElem? (i := 24) rfl) rfl
theorem gw_6_25 : Cond.code yX9_takesTape cX9_takesTape 2 none ∈ lw_G := lwG tb_6 (List.mem_of_getElem? (i := 25) rfl) rfl
theorem gw_6_26 : Cond.methodLink RX9 386 yX9_reads ∈ lw_G := lwG tb_6 (List.mem_of_getElem? (i := 26) rfl) rfl
theorem gw_6_28 : Cond.instanceMethod yX9_reads ∈ lw_G := lwG tb_6 (List.mem_of_getElem? (i := 28) rfl) rfl
theorem gw_6_29 : Cond.code yX9_reads cX9_reads 3 none ∈ lw_G := lwG tb_6 (List.mem_of_getElem? (i := 29) rfl) rfl
theorem gw_6_30 : Cond.methodLink RX9 242 yX9_next ∈ lw_G := lwG tb_6 (List.mem_of_getElem? (i := 30) rfl) rfl
theorem gw_6_32 : Cond.instanceMethod yX9_next ∈ lw_G := lwG tb_6 (List.mem_of_getElem? (i := 32) rfl) rfl
theorem gw_6_33 : Cond.code yX9_next cX9_next 2 none ∈ lw_G := lwG tb_6 (List.mem_of_getElem? (i := 33) rfl) rfl
theorem gw_6_34 : Cond.methodLink RX9 203 yX9_blanks ∈ lw_G := lwG tb_6 (List.mem_of_getElem? (i := 34) rfl) rfl
theorem gw_6_36 : Cond.instanceMethod yX9_blanks ∈ lw_G := lwG tb_6 (List.mem_of_getElem? (i := 36) rfl) rfl
theorem gw_6_37 : Cond.code yX9_blanks cX9_blanks 1 none ∈ lw_G := lwG tb_6 (List.mem_of_getElem? (i := 37) rfl) rfl
theorem gw_6_56 : Cond.methodLink RX9 258 yX9_isWord ∈ lw_G := lwG tb_6 (List.mem_of_getElem? (i := 56) rfl) rfl
theorem gw_6_58 : Cond.instanceMethod yX9_isWord ∈ lw_G := lwG tb_6 (List.mem_of_getElem? (i := 58) rfl) rfl
theorem gw_6_59 : Cond.code yX9_isWord cX9_isWord 2 (some .boolean) ∈ lw_G := lwG tb_6 (List.mem_of_getElem? (i := 59) rfl) rfl
theorem gw_6_60 : Cond.methodLink RX9 234 yX9_isWell ∈ lw_G := lwG tb_6 (List.mem_of_getElem? (i := 60) rfl) rfl
theorem gw_6_62 : Cond.instanceMethod yX9_isWell ∈ lw_G := lwG tb_6 (List.mem_of_getElem? (i := 62) rfl) rfl
theorem gw_6_63 : Cond.code yX9_isWell cX9_isWell 1 (some .boolean) ∈ lw_G := lwG tb_6 (List.mem_of_getElem? (i := 63) rfl) rfl
theorem gw_6_64 : Cond.methodLink RX9 245 yX9_stray ∈ lw_G := lwG tb_6 (List.mem_of_getElem? (i := 64) rfl) rfl
theorem gw_6_66 : Cond.instanceMethod yX9_stray ∈ lw_G := lwG tb_6 (List.mem_of_getElem? (i := 66) rfl) rfl
theorem gw_6_67 : Cond.code yX9_stray cX9_stray 1 none ∈ lw_G := lwG tb_6 (List.mem_of_getElem? (i := 67) rfl) rfl
theorem gw_6_68 : Cond.methodLink RX9 193 yX9_fails ∈ lw_G := lwG tb_6 (List.mem_of_getElem? (i := 68) rfl) rfl
theorem gw_6_70 : Cond.instanceMethod yX9_fails ∈ lw_G := lwG tb_6 (List.mem_of_getElem? (i := 70) rfl) rfl
theorem gw_6_71 : Cond.code yX9_fails cX9_fails 3 none ∈ lw_G := lwG tb_6 (List.mem_of_getElem? (i := 71) rfl) rfl
theorem gw_7_20 : Cond.methodLink RL 35 yX9_fault ∈ lw_G := lwG tb_7 (List.mem_of_getElem? (i := 20) rfl) rfl
theorem gw_7_21 : Cond.instanceMethod yX9_fault ∈ lw_G := lwG tb_7 (List.mem_of_getElem? (i := 21) rfl) rfl
theorem gw_7_22 : Cond.selects RX9 yX9_fault yX9_fault ∈ lw_G := lwG tb_7 (List.mem_of_getElem? (i := 22) rfl) rfl
theorem gw_7_23 : Cond.code yX9_fault cX9_fault 2 (some .int) ∈ lw_G := lwG tb_7 (List.mem_of_getElem? (i := 23) rfl) rfl
theorem gw_7_24 : Cond.methodLink RL 31 yX9_tree ∈ lw_G := lwG tb_7 (List.mem_of_getElem? (i := 24) rfl) rfl
theorem gw_7_25 : Cond.instanceMethod yX9_tree ∈ lw_G := lwG tb_7 (List.mem_of_getElem? (i := 25) rfl) rfl
theorem gw_7_26 : Cond.selects RX9 yX9_tree yX9_tree ∈ lw_G := lwG tb_7 (List.mem_of_getElem? (i := 26) rfl) rfl
theorem gw_7_27 : Cond.code yX9_tree cX9_tree 5 (some .int) ∈ lw_G := lwG tb_7 (List.mem_of_getElem? (i := 27) rfl) rfl
theorem gw_7_36 : Cond.methodLink RL 40 yX9_symbol_ ∈ lw_G := lwG tb_7 (List.mem_of_getElem? (i := 36) rfl) rfl
theorem gw_7_37 : Cond.instanceMethod yX9_symbol_ ∈ lw_G := lwG tb_7 (List.mem_of_getElem? (i := 37) rfl) rfl
theorem gw_7_38 : Cond.selects RX9 yX9_symbol_ yX9_symbol_ ∈ lw_G := lwG tb_7 (List.mem_of_getElem? (i := 38) rfl) rfl
theorem gw_7_39 : Cond.code yX9_symbol_ cX9_symbol_ 3 (some .int) ∈ lw_G := lwG tb_7 (List.mem_of_getElem? (i := 39) rfl) rfl
theorem gw_7_40 : Cond.methodLink RL 44 yX9_graph ∈ lw_G := lwG tb_7 (List.mem_of_getElem? (i := 40) rfl) rfl
theorem gw_7_41 : Cond.instanceMethod yX9_graph ∈ lw_G := lwG tb_7 (List.mem_of_getElem? (i := 41) rfl) rfl
theorem gw_7_42 : Cond.selects RX9 yX9_graph yX9_graph ∈ lw_G := lwG tb_7 (List.mem_of_getElem? (i := 42) rfl) rfl
theorem gw_7_43 : Cond.code yX9_graph cX9_graph 3 (some .int) ∈ lw_G := lwG tb_7 (List.mem_of_getElem? (i := 43) rfl) rfl
theorem gw_7_44 : Cond.methodLink RL 48 yX9_rule_ ∈ lw_G := lwG tb_7 (List.mem_of_getElem? (i := 44) rfl) rfl
theorem gw_7_45 : Cond.instanceMethod yX9_rule_ ∈ lw_G := lwG tb_7 (List.mem_of_getElem? (i := 45) rfl) rfl
theorem gw_7_46 : Cond.selects RX9 yX9_rule_ yX9_rule_ ∈ lw_G := lwG tb_7 (List.mem_of_getElem? (i := 46) rfl) rfl
theorem gw_7_47 : Cond.code yX9_rule_ cX9_rule_ 3 (some .int) ∈ lw_G := lwG tb_7 (List.mem_of_getElem? (i := 47) rfl) rfl
theorem gw_7_48 : Cond.methodLink RL 52 yX9_test ∈ lw_G := lwG tb_7 (List.mem_of_getElem? (i := 48) rfl) rfl
theorem gw_7_49 : Cond.instanceMethod yX9_test ∈ lw_G := lwG tb_7 (List.mem_of_getElem? (i := 49) rfl) rfl
theorem gw_7_50 : Cond.selects RX9 yX9_test yX9_test ∈ lw_G := lwG tb_7 (List.mem_of_getElem? (i := 50) rfl) rfl
theorem gw_7_51 : Cond.code yX9_test cX9_test 4 (some .int) ∈ lw_G := lwG tb_7 (List.mem_of_getElem? (i := 51) rfl) rfl
theorem gw_7_52 : Cond.methodLink RL 56 yX9_node ∈ lw_G := lwG tb_7 (List.mem_of_getElem? (i := 52) rfl) rfl
theorem gw_7_53 : Cond.instanceMethod yX9_node ∈ lw_G := lwG tb_7 (List.mem_of_getElem? (i := 53) rfl) rfl
theorem gw_7_54 : Cond.selects RX9 yX9_node yX9_node ∈ lw_G := lwG tb_7 (List.mem_of_getElem? (i := 54) rfl) rfl
theorem gw_7_55 : Cond.code yX9_node cX9_node 3 (some .int) ∈ lw_G := lwG tb_7 (List.mem_of_getElem? (i := 55) rfl) rfl
theorem gw_7_56 : Cond.methodLink RL 61 yX9_own ∈ lw_G := lwG tb_7 (List.mem_of_getElem? (i := 56) rfl) rfl
theorem gw_7_57 : Cond.instanceMethod yX9_own ∈ lw_G := lwG tb_7 (List.mem_of_getElem? (i := 57) rfl) rfl
theorem gw_7_58 : Cond.selects RX9 yX9_own yX9_own ∈ lw_G := lwG tb_7 (List.mem_of_getElem? (i := 58) rfl) rfl
theorem gw_7_59 : Cond.code yX9_own cX9_own 3 (some .boolean) ∈ lw_G := lwG tb_7 (List.mem_of_getElem? (i := 59) rfl) rfl
theorem gw_7_60 : Cond.methodLink RL 65 yX9_demand ∈ lw_G := lwG tb_7 (List.mem_of_getElem? (i := 60) rfl) rfl
theorem gw_7_61 : Cond.instanceMethod yX9_demand ∈ lw_G := lwG tb_7 (List.mem_of_getElem? (i := 61) rfl) rfl
theorem gw_7_62 : Cond.selects RX9 yX9_demand yX9_demand ∈ lw_G := lwG tb_7 (List.mem_of_getElem? (i := 62) rfl) rfl
theorem gw_7_63 : Cond.code yX9_demand cX9_demand 7 (some .int) ∈ lw_G := lwG tb_7 (List.mem_of_getElem? (i := 63) rfl) rfl
theorem gw_7_64 : Cond.methodLink RX9 473 yX9_isAttribute ∈ lw_G := lwG tb_7 (List.mem_of_getElem? (i := 64) rfl) rfl
theorem gw_7_66 : Cond.instanceMethod yX9_isAttribute ∈ lw_G := lwG tb_7 (List.mem_of_getElem? (i := 66) rfl) rfl
theorem gw_7_67 : Cond.code yX9_isAttribute cX9_isAttribute 3 (some .boolean) ∈ lw_G := lwG tb_7 (List.mem_of_getElem? (i := 67) rfl) rfl
theorem gw_7_100 : Cond.methodLink RL 70 yX9_value_ ∈ lw_G := lwG tb_7 (List.mem_of_getElem? (i := 100) rfl) rfl
theorem gw_7_101 : Cond.instanceMethod yX9_value_ ∈ lw_G := lwG tb_7 (List.mem_of_getElem? (i := 101) rfl) rfl
theorem gw_7_102 : Cond.selects RX9 yX9_value_ yX9_value_ ∈ lw_G := lwG tb_7 (List.mem_of_getElem? (i := 102) rfl) rfl
theorem gw_7_103 : Cond.code yX9_value_ cX9_value_ 5 (some .int) ∈ lw_G := lwG tb_7 (List.mem_of_getElem? (i := 103) rfl) rfl
theorem gw_7_104 : Cond.methodLink RL 74 yX9_order_ ∈ lw_G := lwG tb_7 (List.mem_of_getElem? (i := 104) rfl) rfl
theorem gw_7_105 : Cond.instanceMethod yX9_order_ ∈ lw_G := lwG tb_7 (List.mem_of_getElem? (i := 105) rfl) rfl
theorem gw_7_106 : Cond.selects RX9 yX9_order_ yX9_order_ ∈ lw_G := lwG tb_7 (List.mem_of_getElem? (i := 106) rfl) rfl
theorem gw_7_107 : Cond.code yX9_order_ cX9_order_ 2 (some .int) ∈ lw_G := lwG tb_7 (List.mem_of_getElem? (i := 107) rfl) rfl
theorem gw_7_108 : Cond.methodLink RL 78 yX9_about ∈ lw_G := lwG tb_7 (List.mem_of_getElem? (i := 108) rfl) rfl
theorem gw_7_109 : Cond.instanceMethod yX9_about ∈ lw_G := lwG tb_7 (List.mem_of_getElem? (i := 109) rfl) rfl
theorem gw_7_110 : Cond.selects RX9 yX9_about yX9_about ∈ lw_G := lwG tb_7 (List.mem_of_getElem? (i := 110) rfl) rfl
theorem gw_7_111 : Cond.code yX9_about cX9_about 2 (some .int) ∈ lw_G := lwG tb_7 (List.mem_of_getElem? (i := 111) rfl) rfl
theorem gs_X8_isItem : Cond.selects RX8 yX8_isItem yX8_isItem ∈ lw_G := lwG (fun _ h => List.mem_append_left _ h) (List.mem_of_getElem? (i := 0) rfl) rfl
theorem gs_X8_isNode : Cond.selects RX8 yX8_isNode yX8_isNode ∈ lw_G := lwG (fun _ h => List.mem_append_left _ h) (List.mem_of_getElem? (i := 1) rfl) rfl
theorem gs_X8_keepFault : Cond.selects RX8 yX8_keepFault yX8_keepFault ∈ lw_G := lwG (fun _ h => List.mem_append_left _ h) (List.mem_of_getElem? (i := 2) rfl) rfl
theorem gs_X8_putWord : Cond.selects RX8 yX8_putWord yX8_putWord ∈ lw_G := lwG (fun _ h => List.mem_append_left _ h) (List.mem_of_getElem? (i := 3) rfl) rfl
theorem gs_X2_goIf : Cond.selects RX2 yX2_goIf yX2_goIf ∈ lw_G := lwG (fun _ h => List.mem_append_left _ h) (List.mem_of_getElem? (i := 4) rfl) rfl
theorem gs_X2_step : Cond.selects RX2 yX2_step yX2_step ∈ lw_G := lwG (fun _ h => List.mem_append_left _ h) (List.mem_of_getElem? (i := 5) rfl) rfl
theorem gs_X2_symbolStep : Cond.selects RX2 yX2_symbolStep yX2_symbolStep ∈ lw_G := lwG (fun _ h => List.mem_append_left _ h) (List.mem_of_getElem? (i := 6) rfl) rfl
theorem gs_X3_skipBlanks : Cond.selects RX3 yX3_skipBlanks yX3_skipBlanks ∈ lw_G := lwG (fun _ h => List.mem_append_left _ h) (List.mem_of_getElem? (i := 7) rfl) rfl
theorem gs_X9_blanks : Cond.selects RX9 yX9_blanks yX9_blanks ∈ lw_G := lwG (fun _ h => List.mem_append_left _ h) (List.mem_of_getElem? (i := 8) rfl) rfl
theorem gs_X9_fails : Cond.selects RX9 yX9_fails yX9_fails ∈ lw_G := lwG (fun _ h => List.mem_append_left _ h) (List.mem_of_getElem? (i := 9) rfl) rfl
theorem gs_X9_isAttribute : Cond.selects RX9 yX9_isAttribute yX9_isAttribute ∈ lw_G := lwG (fun _ h => List.mem_append_left _ h) (List.mem_of_getElem? (i := 10) rfl) rfl
theorem gs_X9_isWell : Cond.selects RX9 yX9_isWell yX9_isWell ∈ lw_G := lwG (fun _ h => List.mem_append_left _ h) (List.mem_of_getElem? (i := 11) rfl) rfl
theorem gs_X9_isWord : Cond.selects RX9 yX9_isWord yX9_isWord ∈ lw_G := lwG (fun _ h => List.mem_append_left _ h) (List.mem_of_getElem? (i := 12) rfl) rfl
theorem gs_X9_next : Cond.selects RX9 yX9_next yX9_next ∈ lw_G := lwG (fun _ h => List.mem_append_left _ h) (List.mem_of_getElem? (i := 13) rfl) rfl
theorem gs_X9_put : Cond.selects RX9 yX9_put yX9_put ∈ lw_G := lwG (fun _ h => List.mem_append_left _ h) (List.mem_of_getElem? (i := 14) rfl) rfl
theorem gs_X9_reads : Cond.selects RX9 yX9_reads yX9_reads ∈ lw_G := lwG (fun _ h => List.mem_append_left _ h) (List.mem_of_getElem? (i := 15) rfl) rfl
theorem gs_X9_stray : Cond.selects RX9 yX9_stray yX9_stray ∈ lw_G := lwG (fun _ h => List.mem_append_left _ h) (List.mem_of_getElem? (i := 16) rfl) rfl
theorem gs_X9_takesTape : Cond.selects RX9 yX9_takesTape yX9_takesTape ∈ lw_G := lwG (fun _ h => List.mem_append_left _ h) (List.mem_of_getElem? (i := 17) rfl) rfl
theorem gI_Y {c : Cond} (h : c ∈ lw_G) : GoodIn lw_G (c :: lw_G) := fun w hw => (List.mem_cons.mp hw).elim (fun q => by rw [q]; exact ⟨h, lwG_good h⟩) (fun q => ⟨q, lwG_good q⟩)
theorem gI_V {own C : String} {idx : Nat} {y : MethodName} {ws : List Cond} (h1 : Cond.methodLink own idx y ∈ lw_G) (h2 : Cond.instanceMethod y ∈ lw_G) (h3 : Cond.selects C y y ∈ lw_G) (h4 : Cond.initialized C ∈ lw_G) (h : GoodIn lw_G ws) : GoodIn lw_G (wsV own idx C y ws) := by
  intro w hw
  unfold wsV at hw
  rcases List.mem_append.mp hw with q | q
  · rcases List.mem_cons.mp q with rfl | q
    · exact ⟨h1, lwG_good h1⟩
    · rcases List.mem_cons.mp q with rfl | q
      · exact ⟨h2, lwG_good h2⟩
      · rcases List.mem_cons.mp q with rfl | q
        · exact ⟨h3, lwG_good h3⟩
        · rcases List.mem_cons.mp q with rfl | q
          · exact ⟨h4, lwG_good h4⟩
          · exact absurd q List.not_mem_nil
  · exact h w q
theorem gI_S {own : String} {idx : Nat} {y : MethodName} {ws : List Cond} (h1 : Cond.methodLink own idx y ∈ lw_G) (h2 : Cond.static y ∈ lw_G) (h3 : Cond.initialized y.cls ∈ lw_G) (h : GoodIn lw_G ws) : GoodIn lw_G (va_wsS own idx y ws) := by
  intro w hw
  unfold va_wsS at hw
  rcases List.mem_append.mp hw with q | q
  · rcases List.mem_cons.mp q with rfl | q
    · exact ⟨h1, lwG_good h1⟩
    · rcases List.mem_cons.mp q with rfl | q
      · exact ⟨h2, lwG_good h2⟩
      · rcases List.mem_cons.mp q with rfl | q
        · exact ⟨h3, lwG_good h3⟩
        · exact absurd q List.not_mem_nil
  · exact h w q
theorem inG_X0 : ∀ w ∈ wsX00, w ∈ lw_G := fun w h => by
  obtain ⟨k, hk, rfl⟩ := List.mem_map.mp h
  exact (match k, List.mem_range.mp hk with
    | 0, _ => gw_1_216
    | 1, _ => gw_1_218
    | 2, _ => gw_1_220
    | 3, _ => gw_1_222
    | 4, _ => gw_1_224
    | 5, _ => gw_1_226
    | 6, _ => gw_1_228
    | 7, _ => gw_1_230
    | 8, _ => gw_1_232
    | 9, _ => gw_1_234
    | 10, _ => gw_1_236
    | j + 11, h => absurd h (by omega))
theorem inG_X1 : ∀ w ∈ wsX10, w ∈ lw_G := fun w h => by
  obtain ⟨k, hk, rfl⟩ := List.mem_map.mp h
  exact (match k, List.mem_range.mp hk with
    | 0, _ => gw_1_73
    | 1, _ => gw_1_75
    | 2, _ => gw_1_77
    | 3, _ => gw_1_79
    | 4, _ => gw_1_81
    | 5, _ => gw_1_83
    | 6, _ => gw_1_85
    | 7, _ => gw_1_87
    | 8, _ => gw_1_89
    | 9, _ => gw_1_91
    | 10, _ => gw_1_93
    | 11, _ => gw_1_95
    | 12, _ => gw_1_97
    | 13, _ => gw_1_99
    | 14, _ => gw_1_101
    | 15, _ => gw_1_103
    | 16, _ => gw_1_105
    | 17, _ => gw_1_107
    | j + 18, h => absurd h (by omega))
theorem inG_X2 : ∀ w ∈ wsX20, w ∈ lw_G := fun w h => by
  obtain ⟨k, hk, rfl⟩ := List.mem_map.mp h
  exact (match k, List.mem_range.mp hk with
    | 0, _ => gw_2_6
    | 1, _ => gw_2_8
    | 2, _ => gw_2_10
    | 3, _ => gw_2_12
    | 4, _ => gw_2_14
    | 5, _ => gw_2_16
    | 6, _ => gw_2_18
    | j + 7, h => absurd h (by omega))
theorem inG_X3 : ∀ w ∈ wsX30, w ∈ lw_G := fun w h => by
  obtain ⟨k, hk, rfl⟩ := List.mem_map.mp h
  exact (match k, List.mem_range.mp hk with
    | 0, _ => gw_1_177
    | 1, _ => gw_1_179
    | 2, _ => gw_1_181
    | 3, _ => gw_1_183
    | 4, _ => gw_1_185
    | 5, _ => gw_1_187
    | 6, _ => gw_1_189
    | j + 7, h => absurd h (by omega))
theorem inG_X4 : ∀ w ∈ wsX40, w ∈ lw_G := fun w h => by
  obtain ⟨k, hk, rfl⟩ := List.mem_map.mp h
  exact (match k, List.mem_range.mp hk with
    | 0, _ => gw_1_141
    | 1, _ => gw_1_143
    | 2, _ => gw_1_145
    | 3, _ => gw_1_147
    | 4, _ => gw_1_149
    | 5, _ => gw_1_151
    | j + 6, h => absurd h (by omega))
theorem inG_X5 : ∀ w ∈ wsX50, w ∈ lw_G := fun w h => by
  obtain ⟨k, hk, rfl⟩ := List.mem_map.mp h
  exact (match k, List.mem_range.mp hk with
    | 0, _ => gw_2_34
    | 1, _ => gw_2_36
    | 2, _ => gw_2_38
    | 3, _ => gw_2_40
    | 4, _ => gw_2_42
    | 5, _ => gw_2_44
    | 6, _ => gw_2_46
    | j + 7, h => absurd h (by omega))
theorem inG_X6 : ∀ w ∈ wsX60, w ∈ lw_G := fun w h => by
  obtain ⟨k, hk, rfl⟩ := List.mem_map.mp h
  exact (match k, List.mem_range.mp hk with
    | 0, _ => gw_2_77
    | 1, _ => gw_2_79
    | 2, _ => gw_2_81
    | 3, _ => gw_2_83
    | 4, _ => gw_2_85
    | 5, _ => gw_2_87
    | 6, _ => gw_2_89
    | 7, _ => gw_2_91
    | 8, _ => gw_2_93
    | 9, _ => gw_2_95
    | 10, _ => gw_2_97
    | 11, _ => gw_2_99
    | 12, _ => gw_2_101
    | 13, _ => gw_2_103
    | 14, _ => gw_2_105
    | j + 15, h => absurd h (by omega))
theorem inG_X7 : ∀ w ∈ wsX70, w ∈ lw_G := fun w h => by
  obtain ⟨k, hk, rfl⟩ := List.mem_map.mp h
  exact (match k, List.mem_range.mp hk with
    | 0, _ => gw_2_131
    | 1, _ => gw_2_133
    | 2, _ => gw_2_135
    | 3, _ => gw_2_137
    | 4, _ => gw_2_139
    | 5, _ => gw_2_141
    | 6, _ => gw_2_143
    | 7, _ => gw_2_145
    | 8, _ => gw_2_147
    | 9, _ => gw_2_149
    | 10, _ => gw_2_151
    | 11, _ => gw_2_153
    | 12, _ => gw_2_155
    | 13, _ => gw_2_157
    | j + 14, h => absurd h (by omega))
theorem inG_X8 : ∀ w ∈ wsX80, w ∈ lw_G := fun w h => by
  obtain ⟨k, hk, rfl⟩ := List.mem_map.mp h
  exact (match k, List.mem_range.mp hk with
    | 0, _ => gw_2_173
    | 1, _ => gw_2_175
    | 2, _ => gw_2_177
    | 3, _ => gw_2_179
    | 4, _ => gw_2_181
    | 5, _ => gw_2_183
    | 6, _ => gw_2_185
    | 7, _ => gw_2_187
    | 8, _ => gw_2_189
    | 9, _ => gw_2_191
    | 10, _ => gw_2_193
    | 11, _ => gw_2_195
    | 12, _ => gw_2_197
    | j + 13, h => absurd h (by omega))
theorem inG_X9 : ∀ w ∈ wsX90, w ∈ lw_G := fun w h => by
  obtain ⟨k, hk, rfl⟩ := List.mem_map.mp h
  exact (match k, List.mem_range.mp hk with
    | 0, _ => gw_5_82
    | 1, _ => gw_5_84
    | 2, _ => gw_5_86
    | 3, _ => gw_5_88
    | 4, _ => gw_5_90
    | 5, _ => gw_5_92
    | 6, _ => gw_5_94
    | 7, _ => gw_5_96
    | 8, _ => gw_5_98
    | 9, _ => gw_5_100
    | 10, _ => gw_5_102
    | 11, _ => gw_5_104
    | 12, _ => gw_5_106
    | 13, _ => gw_5_108
    | 14, _ => gw_5_110
    | 15, _ => gw_5_112
    | 16, _ => gw_5_114
    | 17, _ => gw_5_116
    | 18, _ => gw_5_118
    | 19, _ => gw_5_120
    | 20, _ => gw_5_122
    | 21, _ => gw_5_124
    | 22, _ => gw_5_126
    | 23, _ => gw_5_128
    | 24, _ => gw_5_130
    | 25, _ => gw_5_132
    | 26, _ => gw_5_134
    | 27, _ => gw_5_136
    | 28, _ => gw_5_138
    | 29, _ => gw_5_140
    | 30, _ => gw_5_142
    | 31, _ => gw_5_144
    | 32, _ => gw_5_146
    | 33, _ => gw_5_148
    | 34, _ => gw_5_150
    | 35, _ => gw_5_152
    | 36, _ => gw_5_154
    | 37, _ => gw_5_156
    | 38, _ => gw_5_158
    | 39, _ => gw_5_160
    | 40, _ => gw_5_162
    | 41, _ => gw_5_164
    | 42, _ => gw_5_166
    | 43, _ => gw_5_168
    | 44, _ => gw_5_170
    | 45, _ => gw_5_172
    | 46, _ => gw_5_174
    | 47, _ => gw_5_176
    | 48, _ => gw_5_178
    | 49, _ => gw_5_180
    | 50, _ => gw_5_182
    | 51, _ => gw_5_184
    | 52, _ => gw_5_186
    | 53, _ => gw_5_188
    | 54, _ => gw_5_190
    | 55, _ => gw_5_192
    | 56, _ => gw_5_194
    | 57, _ => gw_5_196
    | 58, _ => gw_5_198
    | 59, _ => gw_5_200
    | 60, _ => gw_5_202
    | 61, _ => gw_5_204
    | 62, _ => gw_5_206
    | 63, _ => gw_5_208
    | 64, _ => gw_5_210
    | 65, _ => gw_5_212
    | 66, _ => gw_5_214
    | 67, _ => gw_5_216
    | 68, _ => gw_5_218
    | 69, _ => gw_5_220
    | 70, _ => gw_5_222
    | 71, _ => gw_5_224
    | 72, _ => gw_5_226
    | 73, _ => gw_5_228
    | 74, _ => gw_5_230
    | 75, _ => gw_5_232
    | 76, _ => gw_5_234
    | 77, _ => gw_5_236
    | 78, _ => gw_5_238
    | 79, _ => gw_6_0
    | j + 80, h => absurd h (by omega))
noncomputable def wyX0_init : List Cond := .code yX0_init cX0_init 3 none :: lw_G
theorem gy_X0_init : GoodIn lw_G wyX0_init := gI_Y gw_1_202
noncomputable def wyX1_clear : List Cond := .code yX1_clear cX1_clear 1 none :: lw_G
theorem gy_X1_clear : GoodIn lw_G wyX1_clear := gI_Y gw_2_223
noncomputable def wyX1_init : List Cond := .code yX1_init cX1_init 1 none :: lw_G
theorem gy_X1_init : GoodIn lw_G wyX1_init := gI_Y gw_1_24
noncomputable def wyX2_goIf : List Cond := .code yX2_goIf cX2_goIf 3 (some .int) :: lw_G
theorem gy_X2_goIf : GoodIn lw_G wyX2_goIf := gI_Y gw_3_153
noncomputable def wyX2_init : List Cond := .code yX2_init cX2_init 3 none :: lw_G
theorem gy_X2_init : GoodIn lw_G wyX2_init := gI_Y gw_1_196
noncomputable def wyX2_read : List Cond := .code yX2_read cX2_read 5 (some .int) :: lw_G
theorem gy_X2_read : GoodIn lw_G wyX2_read := gI_Y gw_2_219
noncomputable def wyX2_step : List Cond := .code yX2_step cX2_step 1 (some .int) :: lw_G
theorem gy_X2_step : GoodIn lw_G wyX2_step := gI_Y gw_3_116
noncomputable def wyX2_symbolStep : List Cond := .code yX2_symbolStep cX2_symbolStep 1 (some .int) :: lw_G
theorem gy_X2_symbolStep : GoodIn lw_G wyX2_symbolStep := gI_Y gw_3_120
noncomputable def wyX3_begin : List Cond := .code yX3_begin cX3_begin 2 none :: lw_G
theorem gy_X3_begin : GoodIn lw_G wyX3_begin := gI_Y gw_2_227
noncomputable def wyX3_init : List Cond := .code yX3_init cX3_init 2 none :: lw_G
theorem gy_X3_init : GoodIn lw_G wyX3_init := gI_Y gw_1_158
noncomputable def wyX3_next : List Cond := .code yX3_next cX3_next 2 none :: lw_G
theorem gy_X3_next : GoodIn lw_G wyX3_next := gI_Y gw_2_234
noncomputable def wyX3_skipBlanks : List Cond := .code yX3_skipBlanks cX3_skipBlanks 3 (some .int) :: lw_G
theorem gy_X3_skipBlanks : GoodIn lw_G wyX3_skipBlanks := gI_Y gw_2_238
noncomputable def wyX4_init : List Cond := .code yX4_init cX4_init 1 none :: lw_G
theorem gy_X4_init : GoodIn lw_G wyX4_init := gI_Y gw_1_118
noncomputable def wyX5_init : List Cond := .code yX5_init cX5_init 4 none :: lw_G
theorem gy_X5_init : GoodIn lw_G wyX5_init := gI_Y gw_2_25
noncomputable def wyX6_init : List Cond := .code yX6_init cX6_init 2 none :: lw_G
theorem gy_X6_init : GoodIn lw_G wyX6_init := gI_Y gw_2_53
noncomputable def wyX7_init : List Cond := .code yX7_init cX7_init 3 none :: lw_G
theorem gy_X7_init : GoodIn lw_G wyX7_init := gI_Y gw_2_112
noncomputable def wyX8_about : List Cond := .code yX8_about cX8_about 2 (some .int) :: lw_G
theorem gy_X8_about : GoodIn lw_G wyX8_about := gI_Y gw_4_235
noncomputable def wyX8_demand : List Cond := .code yX8_demand cX8_demand 3 (some .int) :: lw_G
theorem gy_X8_demand : GoodIn lw_G wyX8_demand := gI_Y gw_4_157
noncomputable def wyX8_end : List Cond := .code yX8_end cX8_end 2 (some .int) :: lw_G
theorem gy_X8_end : GoodIn lw_G wyX8_end := gI_Y gw_2_211
noncomputable def wyX8_fault : List Cond := .code yX8_fault cX8_fault 2 (some .int) :: lw_G
theorem gy_X8_fault : GoodIn lw_G wyX8_fault := gI_Y gw_4_103
noncomputable def wyX8_feed : List Cond := .code yX8_feed cX8_feed 6 (some .int) :: lw_G
theorem gy_X8_feed : GoodIn lw_G wyX8_feed := gI_Y gw_2_203
noncomputable def wyX8_grammar : List Cond := .code yX8_grammar cX8_grammar 3 (some .int) :: lw_G
theorem gy_X8_grammar : GoodIn lw_G wyX8_grammar := gI_Y gw_2_215
noncomputable def wyX8_graph : List Cond := .code yX8_graph cX8_graph 3 (some .int) :: lw_G
theorem gy_X8_graph : GoodIn lw_G wyX8_graph := gI_Y gw_4_119
noncomputable def wyX8_init : List Cond := .code yX8_init cX8_init 1 none :: lw_G
theorem gy_X8_init : GoodIn lw_G wyX8_init := gI_Y gw_1_16
noncomputable def wyX8_isItem : List Cond := .code yX8_isItem cX8_isItem 3 (some .boolean) :: lw_G
theorem gy_X8_isItem : GoodIn lw_G wyX8_isItem := gI_Y gw_4_161
noncomputable def wyX8_isNode : List Cond := .code yX8_isNode cX8_isNode 2 (some .boolean) :: lw_G
theorem gy_X8_isNode : GoodIn lw_G wyX8_isNode := gI_Y gw_4_144
noncomputable def wyX8_keepFault : List Cond := .code yX8_keepFault cX8_keepFault 2 none :: lw_G
theorem gy_X8_keepFault : GoodIn lw_G wyX8_keepFault := gI_Y gw_3_210
noncomputable def wyX8_node : List Cond := .code yX8_node cX8_node 3 (some .int) :: lw_G
theorem gy_X8_node : GoodIn lw_G wyX8_node := gI_Y gw_4_140
noncomputable def wyX8_order : List Cond := .code yX8_order cX8_order 2 (some .int) :: lw_G
theorem gy_X8_order : GoodIn lw_G wyX8_order := gI_Y gw_4_231
noncomputable def wyX8_own : List Cond := .code yX8_own cX8_own 3 (some .boolean) :: lw_G
theorem gy_X8_own : GoodIn lw_G wyX8_own := gI_Y gw_4_152
noncomputable def wyX8_putWord : List Cond := .code yX8_putWord cX8_putWord 3 none :: lw_G
theorem gy_X8_putWord : GoodIn lw_G wyX8_putWord := gI_Y gw_2_207
noncomputable def wyX8_rule : List Cond := .code yX8_rule cX8_rule 3 (some .int) :: lw_G
theorem gy_X8_rule : GoodIn lw_G wyX8_rule := gI_Y gw_4_123
noncomputable def wyX8_symbol : List Cond := .code yX8_symbol cX8_symbol 3 (some .int) :: lw_G
theorem gy_X8_symbol : GoodIn lw_G wyX8_symbol := gI_Y gw_4_107
noncomputable def wyX8_test : List Cond := .code yX8_test cX8_test 2 (some .int) :: lw_G
theorem gy_X8_test : GoodIn lw_G wyX8_test := gI_Y gw_4_128
noncomputable def wyX8_tree : List Cond := .code yX8_tree cX8_tree 3 (some .int) :: lw_G
theorem gy_X8_tree : GoodIn lw_G wyX8_tree := gI_Y gw_4_62
noncomputable def wyX8_value : List Cond := .code yX8_value cX8_value 5 (some .int) :: lw_G
theorem gy_X8_value : GoodIn lw_G wyX8_value := gI_Y gw_4_226
noncomputable def wyX9_about : List Cond := .code yX9_about cX9_about 2 (some .int) :: lw_G
theorem gy_X9_about : GoodIn lw_G wyX9_about := gI_Y gw_7_111
noncomputable def wyX9_blanks : List Cond := .code yX9_blanks cX9_blanks 1 none :: lw_G
theorem gy_X9_blanks : GoodIn lw_G wyX9_blanks := gI_Y gw_6_37
noncomputable def wyX9_demand : List Cond := .code yX9_demand cX9_demand 7 (some .int) :: lw_G
theorem gy_X9_demand : GoodIn lw_G wyX9_demand := gI_Y gw_7_63
noncomputable def wyX9_end : List Cond := .code yX9_end cX9_end 2 (some .int) :: lw_G
theorem gy_X9_end : GoodIn lw_G wyX9_end := gI_Y gw_6_14
noncomputable def wyX9_fails : List Cond := .code yX9_fails cX9_fails 3 none :: lw_G
theorem gy_X9_fails : GoodIn lw_G wyX9_fails := gI_Y gw_6_71
noncomputable def wyX9_fault : List Cond := .code yX9_fault cX9_fault 2 (some .int) :: lw_G
theorem gy_X9_fault : GoodIn lw_G wyX9_fault := gI_Y gw_7_23
noncomputable def wyX9_feed : List Cond := .code yX9_feed cX9_feed 6 (some .int) :: lw_G
theorem gy_X9_feed : GoodIn lw_G wyX9_feed := gI_Y gw_6_6
noncomputable def wyX9_grammar : List Cond := .code yX9_grammar cX9_grammar 2 (some .int) :: lw_G
theorem gy_X9_grammar : GoodIn lw_G wyX9_grammar := gI_Y gw_6_21
noncomputable def wyX9_graph : List Cond := .code yX9_graph cX9_graph 3 (some .int) :: lw_G
theorem gy_X9_graph : GoodIn lw_G wyX9_graph := gI_Y gw_7_43
noncomputable def wyX9_in : List Cond := .code yX9_in cX9_in 3 (some .boolean) :: lw_G
theorem gy_X9_in : GoodIn lw_G wyX9_in := gI_Y gw_6_17
noncomputable def wyX9_init : List Cond := .code yX9_init cX9_init 1 none :: lw_G
theorem gy_X9_init : GoodIn lw_G wyX9_init := gI_Y gw_5_0
noncomputable def wyX9_isAttribute : List Cond := .code yX9_isAttribute cX9_isAttribute 3 (some .boolean) :: lw_G
theorem gy_X9_isAttribute : GoodIn lw_G wyX9_isAttribute := gI_Y gw_7_67
noncomputable def wyX9_isWell : List Cond := .code yX9_isWell cX9_isWell 1 (some .boolean) :: lw_G
theorem gy_X9_isWell : GoodIn lw_G wyX9_isWell := gI_Y gw_6_63
noncomputable def wyX9_isWord : List Cond := .code yX9_isWord cX9_isWord 2 (some .boolean) :: lw_G
theorem gy_X9_isWord : GoodIn lw_G wyX9_isWord := gI_Y gw_6_59
noncomputable def wyX9_next : List Cond := .code yX9_next cX9_next 2 none :: lw_G
theorem gy_X9_next : GoodIn lw_G wyX9_next := gI_Y gw_6_33
noncomputable def wyX9_node : List Cond := .code yX9_node cX9_node 3 (some .int) :: lw_G
theorem gy_X9_node : GoodIn lw_G wyX9_node := gI_Y gw_7_55
noncomputable def wyX9_order_ : List Cond := .code yX9_order_ cX9_order_ 2 (some .int) :: lw_G
theorem gy_X9_order_ : GoodIn lw_G wyX9_order_ := gI_Y gw_7_107
noncomputable def wyX9_own : List Cond := .code yX9_own cX9_own 3 (some .boolean) :: lw_G
theorem gy_X9_own : GoodIn lw_G wyX9_own := gI_Y gw_7_59
noncomputable def wyX9_put : List Cond := .code yX9_put cX9_put 2 none :: lw_G
theorem gy_X9_put : GoodIn lw_G wyX9_put := gI_Y gw_6_10
noncomputable def wyX9_reads : List Cond := .code yX9_reads cX9_reads 3 none :: lw_G
theorem gy_X9_reads : GoodIn lw_G wyX9_reads := gI_Y gw_6_29
noncomputable def wyX9_rule_ : List Cond := .code yX9_rule_ cX9_rule_ 3 (some .int) :: lw_G
theorem gy_X9_rule_ : GoodIn lw_G wyX9_rule_ := gI_Y gw_7_47
noncomputable def wyX9_stray : List Cond := .code yX9_stray cX9_stray 1 none :: lw_G
theorem gy_X9_stray : GoodIn lw_G wyX9_stray := gI_Y gw_6_67
noncomputable def wyX9_symbol_ : List Cond := .code yX9_symbol_ cX9_symbol_ 3 (some .int) :: lw_G
theorem gy_X9_symbol_ : GoodIn lw_G wyX9_symbol_ := gI_Y gw_7_39
noncomputable def wyX9_takesTape : List Cond := .code yX9_takesTape cX9_takesTape 2 none :: lw_G
theorem gy_X9_takesTape : GoodIn lw_G wyX9_takesTape := gI_Y gw_6_25
noncomputable def wyX9_test : List Cond := .code yX9_test cX9_test 4 (some .int) :: lw_G
theorem gy_X9_test : GoodIn lw_G wyX9_test := gI_Y gw_7_51
noncomputable def wyX9_tree : List Cond := .code yX9_tree cX9_tree 5 (some .int) :: lw_G
theorem gy_X9_tree : GoodIn lw_G wyX9_tree := gI_Y gw_7_27
noncomputable def wyX9_value_ : List Cond := .code yX9_value_ cX9_value_ 5 (some .int) :: lw_G
theorem gy_X9_value_ : GoodIn lw_G wyX9_value_ := gI_Y gw_7_103
theorem gc_L_13 : GoodIn lw_G (wsV RL 13 RX8 yX8_feed wyX8_feed) := gI_V gw_2_200 gw_2_201 gw_2_202 gw_1_1 gy_X8_feed
theorem gc_L_17 : GoodIn lw_G (wsV RL 17 RX9 yX9_feed wyX9_feed) := gI_V gw_6_3 gw_6_4 gw_6_5 gw_1_10 gy_X9_feed
theorem gc_L_18 : GoodIn lw_G (wsV RL 18 RX8 yX8_end wyX8_end) := gI_V gw_2_208 gw_2_209 gw_2_210 gw_1_1 gy_X8_end
theorem gc_L_22 : GoodIn lw_G (wsV RL 22 RX9 yX9_end wyX9_end) := gI_V gw_6_11 gw_6_12 gw_6_13 gw_1_10 gy_X9_end
theorem gc_L_23 : GoodIn lw_G (wsV RL 23 RX8 yX8_grammar wyX8_grammar) := gI_V gw_2_212 gw_2_213 gw_2_214 gw_1_1 gy_X8_grammar
theorem gc_L_27 : GoodIn lw_G (wsV RL 27 RX9 yX9_grammar wyX9_grammar) := gI_V gw_6_18 gw_6_19 gw_6_20 gw_1_10 gy_X9_grammar
theorem gc_L_28 : GoodIn lw_G (wsV RL 28 RX8 yX8_tree wyX8_tree) := gI_V gw_4_59 gw_4_60 gw_4_61 gw_1_1 gy_X8_tree
theorem gc_L_31 : GoodIn lw_G (wsV RL 31 RX9 yX9_tree wyX9_tree) := gI_V gw_7_24 gw_7_25 gw_7_26 gw_1_10 gy_X9_tree
theorem gc_L_32 : GoodIn lw_G (wsV RL 32 RX8 yX8_fault wyX8_fault) := gI_V gw_4_100 gw_4_101 gw_4_102 gw_1_1 gy_X8_fault
theorem gc_L_35 : GoodIn lw_G (wsV RL 35 RX9 yX9_fault wyX9_fault) := gI_V gw_7_20 gw_7_21 gw_7_22 gw_1_10 gy_X9_fault
theorem gc_L_36 : GoodIn lw_G (wsV RL 36 RX8 yX8_symbol wyX8_symbol) := gI_V gw_4_104 gw_4_105 gw_4_106 gw_1_1 gy_X8_symbol
theorem gc_L_40 : GoodIn lw_G (wsV RL 40 RX9 yX9_symbol_ wyX9_symbol_) := gI_V gw_7_36 gw_7_37 gw_7_38 gw_1_10 gy_X9_symbol_
theorem gc_L_41 : GoodIn lw_G (wsV RL 41 RX8 yX8_graph wyX8_graph) := gI_V gw_4_116 gw_4_117 gw_4_118 gw_1_1 gy_X8_graph
theorem gc_L_44 : GoodIn lw_G (wsV RL 44 RX9 yX9_graph wyX9_graph) := gI_V gw_7_40 gw_7_41 gw_7_42 gw_1_10 gy_X9_graph
theorem gc_L_45 : GoodIn lw_G (wsV RL 45 RX8 yX8_rule wyX8_rule) := gI_V gw_4_120 gw_4_121 gw_4_122 gw_1_1 gy_X8_rule
theorem gc_L_48 : GoodIn lw_G (wsV RL 48 RX9 yX9_rule_ wyX9_rule_) := gI_V gw_7_44 gw_7_45 gw_7_46 gw_1_10 gy_X9_rule_
theorem gc_L_49 : GoodIn lw_G (wsV RL 49 RX8 yX8_test wyX8_test) := gI_V gw_4_125 gw_4_126 gw_4_127 gw_1_1 gy_X8_test
theorem gc_L_52 : GoodIn lw_G (wsV RL 52 RX9 yX9_test wyX9_test) := gI_V gw_7_48 gw_7_49 gw_7_50 gw_1_10 gy_X9_test
theorem gc_L_53 : GoodIn lw_G (wsV RL 53 RX8 yX8_node wyX8_node) := gI_V gw_4_137 gw_4_138 gw_4_139 gw_1_1 gy_X8_node
theorem gc_L_56 : GoodIn lw_G (wsV RL 56 RX9 yX9_node wyX9_node) := gI_V gw_7_52 gw_7_53 gw_7_54 gw_1_10 gy_X9_node
theorem gc_L_57 : GoodIn lw_G (wsV RL 57 RX8 yX8_own wyX8_own) := gI_V gw_4_149 gw_4_150 gw_4_151 gw_1_1 gy_X8_own
theorem gc_L_61 : GoodIn lw_G (wsV RL 61 RX9 yX9_own wyX9_own) := gI_V gw_7_56 gw_7_57 gw_7_58 gw_1_10 gy_X9_own
theorem gc_L_62 : GoodIn lw_G (wsV RL 62 RX8 yX8_demand wyX8_demand) := gI_V gw_4_154 gw_4_155 gw_4_156 gw_1_1 gy_X8_demand
theorem gc_L_65 : GoodIn lw_G (wsV RL 65 RX9 yX9_demand wyX9_demand) := gI_V gw_7_60 gw_7_61 gw_7_62 gw_1_10 gy_X9_demand
theorem gc_L_66 : GoodIn lw_G (wsV RL 66 RX8 yX8_value wyX8_value) := gI_V gw_4_223 gw_4_224 gw_4_225 gw_1_1 gy_X8_value
theorem gc_L_70 : GoodIn lw_G (wsV RL 70 RX9 yX9_value_ wyX9_value_) := gI_V gw_7_100 gw_7_101 gw_7_102 gw_1_10 gy_X9_value_
theorem gc_L_71 : GoodIn lw_G (wsV RL 71 RX8 yX8_order wyX8_order) := gI_V gw_4_228 gw_4_229 gw_4_230 gw_1_1 gy_X8_order
theorem gc_L_74 : GoodIn lw_G (wsV RL 74 RX9 yX9_order_ wyX9_order_) := gI_V gw_7_104 gw_7_105 gw_7_106 gw_1_10 gy_X9_order_
theorem gc_L_75 : GoodIn lw_G (wsV RL 75 RX8 yX8_about wyX8_about) := gI_V gw_4_232 gw_4_233 gw_4_234 gw_1_1 gy_X8_about
theorem gc_L_78 : GoodIn lw_G (wsV RL 78 RX9 yX9_about wyX9_about) := gI_V gw_7_108 gw_7_109 gw_7_110 gw_1_10 gy_X9_about
theorem gc_X2_42 : GoodIn lw_G (wsV RX2 42 RX1 yX1_clear wyX1_clear) := gI_V gw_2_220 gw_2_221 gw_2_222 gw_1_2 gy_X1_clear
theorem gc_X2_47 : GoodIn lw_G (wsV RX2 47 RX3 yX3_begin wyX3_begin) := gI_V gw_2_224 gw_2_225 gw_2_226 gw_1_4 gy_X3_begin
theorem gc_X2_53 : GoodIn lw_G (wsV RX2 53 RX3 yX3_next wyX3_next) := gI_V gw_2_231 gw_2_232 gw_2_233 gw_1_4 gy_X3_next
theorem gc_X2_60 : GoodIn lw_G (wsV RX2 60 RX2 yX2_step wyX2_step) := gI_V gw_3_113 gw_3_115 gs_X2_step gw_1_5 gy_X2_step
theorem gc_X2_64 : GoodIn lw_G (wsV RX2 64 RX2 yX2_symbolStep wyX2_symbolStep) := gI_V gw_3_117 gw_3_119 gs_X2_symbolStep gw_1_5 gy_X2_symbolStep
theorem gc_X2_89 : GoodIn lw_G (wsV RX2 89 RX2 yX2_goIf wyX2_goIf) := gI_V gw_3_150 gw_3_152 gs_X2_goIf gw_1_5 gy_X2_goIf
theorem gc_X3_41 : GoodIn lw_G (wsV RX3 41 RX3 yX3_skipBlanks wyX3_skipBlanks) := gI_V gw_2_235 gw_2_237 gs_X3_skipBlanks gw_1_4 gy_X3_skipBlanks
theorem gc_X8_167 : GoodIn lw_G (wsV RX8 167 RX8 yX8_isNode wyX8_isNode) := gI_V gw_4_141 gw_4_143 gs_X8_isNode gw_1_1 gy_X8_isNode
theorem gc_X8_190 : GoodIn lw_G (wsV RX8 190 RX8 yX8_isItem wyX8_isItem) := gI_V gw_4_158 gw_4_160 gs_X8_isItem gw_1_1 gy_X8_isItem
theorem gc_X8_88 : GoodIn lw_G (wsV RX8 88 RX8 yX8_putWord wyX8_putWord) := gI_V gw_2_204 gw_2_206 gs_X8_putWord gw_1_1 gy_X8_putWord
theorem gc_X8_92 : GoodIn lw_G (wsV RX8 92 RX2 yX2_read wyX2_read) := gI_V gw_2_216 gw_2_217 gw_2_218 gw_1_5 gy_X2_read
theorem gc_X8_96 : GoodIn lw_G (wsV RX8 96 RX8 yX8_keepFault wyX8_keepFault) := gI_V gw_3_207 gw_3_209 gs_X8_keepFault gw_1_1 gy_X8_keepFault
theorem gc_X9_176 : GoodIn lw_G (wsV RX9 176 RX9 yX9_put wyX9_put) := gI_V gw_6_7 gw_6_9 gs_X9_put gw_1_10 gy_X9_put
theorem gc_X9_180 : GoodIn lw_G (va_wsS RX9 180 yX9_in wyX9_in) := gI_S gw_6_15 gw_6_16 gw_1_10 gy_X9_in
theorem gc_X9_193 : GoodIn lw_G (wsV RX9 193 RX9 yX9_fails wyX9_fails) := gI_V gw_6_68 gw_6_70 gs_X9_fails gw_1_10 gy_X9_fails
theorem gc_X9_203 : GoodIn lw_G (wsV RX9 203 RX9 yX9_blanks wyX9_blanks) := gI_V gw_6_34 gw_6_36 gs_X9_blanks gw_1_10 gy_X9_blanks
theorem gc_X9_234 : GoodIn lw_G (wsV RX9 234 RX9 yX9_isWell wyX9_isWell) := gI_V gw_6_60 gw_6_62 gs_X9_isWell gw_1_10 gy_X9_isWell
theorem gc_X9_242 : GoodIn lw_G (wsV RX9 242 RX9 yX9_next wyX9_next) := gI_V gw_6_30 gw_6_32 gs_X9_next gw_1_10 gy_X9_next
theorem gc_X9_245 : GoodIn lw_G (wsV RX9 245 RX9 yX9_stray wyX9_stray) := gI_V gw_6_64 gw_6_66 gs_X9_stray gw_1_10 gy_X9_stray
theorem gc_X9_258 : GoodIn lw_G (wsV RX9 258 RX9 yX9_isWord wyX9_isWord) := gI_V gw_6_56 gw_6_58 gs_X9_isWord gw_1_10 gy_X9_isWord
theorem gc_X9_383 : GoodIn lw_G (wsV RX9 383 RX9 yX9_takesTape wyX9_takesTape) := gI_V gw_6_22 gw_6_24 gs_X9_takesTape gw_1_10 gy_X9_takesTape
theorem gc_X9_386 : GoodIn lw_G (wsV RX9 386 RX9 yX9_reads wyX9_reads) := gI_V gw_6_26 gw_6_28 gs_X9_reads gw_1_10 gy_X9_reads
theorem gc_X9_473 : GoodIn lw_G (wsV RX9 473 RX9 yX9_isAttribute wyX9_isAttribute) := gI_V gw_7_64 gw_7_66 gs_X9_isAttribute gw_1_10 gy_X9_isAttribute
