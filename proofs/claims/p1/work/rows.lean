section
def RX0 : String := "AttributeDesk$ExpressionReader"
def TX0 : u_T := fun k => match k with
  | 0 => ("AttributeDesk$ExpressionReader", "tokens", "LAttributeDesk$Tokens;", true)
  | 1 => ("AttributeDesk$ExpressionReader", "grammar", "LAttributeDesk$Grammar;", false)
  | 2 => ("AttributeDesk$ExpressionReader", "rule", "I", false)
  | 3 => ("AttributeDesk$ExpressionReader", "target", "I", false)
  | 4 => ("AttributeDesk$ExpressionReader", "state", "I", false)
  | 5 => ("AttributeDesk$ExpressionReader", "tokenCount", "I", false)
  | 6 => ("AttributeDesk$ExpressionReader", "occPlace", "I", false)
  | 7 => ("AttributeDesk$ExpressionReader", "waiting", "[I", true)
  | 8 => ("AttributeDesk$ExpressionReader", "waitingCount", "I", false)
  | 9 => ("AttributeDesk$ExpressionReader", "openCount", "I", false)
  | _ => ("AttributeDesk$ExpressionReader", "isComplete", "Z", false)
def tyX0 : Nat → FieldType := fun k => match k with
  | 0 => .object "AttributeDesk$Tokens"
  | 1 => .object "AttributeDesk$Grammar"
  | 2 => .int
  | 3 => .int
  | 4 => .int
  | 5 => .int
  | 6 => .int
  | 7 => .array .int
  | 8 => .int
  | 9 => .int
  | _ => .boolean
abbrev wsX00 : List Cond := u_ws RX0 TX0 11
theorem nmX0 : ∀ a, a < 11 → ∀ b, b < 11 → a ≠ b → (TX0 a).2.1 ≠ (TX0 b).2.1 := by decide +kernel
theorem tyX0_ok : ∀ k, k < 11 → parseFieldDescriptor (TX0 k).2.2.1 = some (tyX0 k) := by decide +kernel
abbrev cX0_init : ByteArray := prog_2_method_1_code
def yX0_init : MethodName := ⟨RX0, "<init>", "(LAttributeDesk$Tokens;LAttributeDesk$Grammar;)V"⟩
abbrev cX0_begin : ByteArray := prog_2_method_2_code
def yX0_begin : MethodName := ⟨RX0, "begin", "(LAttributeDesk$Grammar;II)V"⟩
abbrev cX0_step : ByteArray := prog_2_method_3_code
def yX0_step : MethodName := ⟨RX0, "step", "()I"⟩
abbrev cX0_isOneTooMany : ByteArray := prog_2_method_4_code
def yX0_isOneTooMany : MethodName := ⟨RX0, "isOneTooMany", "()Z"⟩
abbrev cX0_operand : ByteArray := prog_2_method_5_code
def yX0_operand : MethodName := ⟨RX0, "operand", "()I"⟩
abbrev cX0_occNumber : ByteArray := prog_2_method_6_code
def yX0_occNumber : MethodName := ⟨RX0, "occNumber", "()I"⟩
abbrev cX0_occDot : ByteArray := prog_2_method_7_code
def yX0_occDot : MethodName := ⟨RX0, "occDot", "()I"⟩
abbrev cX0_occName : ByteArray := prog_2_method_8_code
def yX0_occName : MethodName := ⟨RX0, "occName", "()I"⟩
abbrev cX0_emitOperand : ByteArray := prog_2_method_9_code
def yX0_emitOperand : MethodName := ⟨RX0, "emitOperand", "(IJ)I"⟩
abbrev cX0_open : ByteArray := prog_2_method_10_code
def yX0_open : MethodName := ⟨RX0, "open", "(I)I"⟩
abbrev cX0_await : ByteArray := prog_2_method_11_code
def yX0_await : MethodName := ⟨RX0, "await", "(I)I"⟩
abbrev cX0_operator : ByteArray := prog_2_method_12_code
def yX0_operator : MethodName := ⟨RX0, "operator", "()I"⟩
abbrev cX0_binary : ByteArray := prog_2_method_13_code
def yX0_binary : MethodName := ⟨RX0, "binary", "(I)I"⟩
abbrev cX0_compare : ByteArray := prog_2_method_14_code
def yX0_compare : MethodName := ⟨RX0, "compare", "()I"⟩
abbrev cX0_closeParenthesis : ByteArray := prog_2_method_15_code
def yX0_closeParenthesis : MethodName := ⟨RX0, "closeParenthesis", "()I"⟩
abbrev cX0_turn : ByteArray := prog_2_method_16_code
def yX0_turn : MethodName := ⟨RX0, "turn", "(II)I"⟩
abbrev cX0_finish : ByteArray := prog_2_method_17_code
def yX0_finish : MethodName := ⟨RX0, "finish", "()I"⟩
abbrev cX0_settle : ByteArray := prog_2_method_18_code
def yX0_settle : MethodName := ⟨RX0, "settle", "(I)V"⟩
abbrev cX0_top : ByteArray := prog_2_method_19_code
def yX0_top : MethodName := ⟨RX0, "top", "()I"⟩
abbrev cX0_topBinds : ByteArray := prog_2_method_20_code
def yX0_topBinds : MethodName := ⟨RX0, "topBinds", "()I"⟩
abbrev cX0_bindingOf : ByteArray := prog_2_method_21_code
def yX0_bindingOf : MethodName := ⟨RX0, "bindingOf", "(I)I"⟩
def RX1 : String := "AttributeDesk$Grammar"
def TX1 : u_T := fun k => match k with
  | 0 => ("AttributeDesk$Grammar", "symbolCount", "I", false)
  | 1 => ("AttributeDesk$Grammar", "symbolNames", "[J", true)
  | 2 => ("AttributeDesk$Grammar", "attributeCounts", "[I", true)
  | 3 => ("AttributeDesk$Grammar", "inheritedCounts", "[I", true)
  | 4 => ("AttributeDesk$Grammar", "attributeNames", "[J", true)
  | 5 => ("AttributeDesk$Grammar", "inherited", "[Z", true)
  | 6 => ("AttributeDesk$Grammar", "ranks", "[I", true)
  | 7 => ("AttributeDesk$Grammar", "ruleCount", "I", false)
  | 8 => ("AttributeDesk$Grammar", "ruleNames", "[J", true)
  | 9 => ("AttributeDesk$Grammar", "ruleSymbols", "[I", true)
  | 10 => ("AttributeDesk$Grammar", "childCounts", "[I", true)
  | 11 => ("AttributeDesk$Grammar", "equationCounts", "[I", true)
  | 12 => ("AttributeDesk$Grammar", "codeStarts", "[I", true)
  | 13 => ("AttributeDesk$Grammar", "codeEnds", "[I", true)
  | 14 => ("AttributeDesk$Grammar", "hangs", "[I", true)
  | 15 => ("AttributeDesk$Grammar", "operations", "[I", true)
  | 16 => ("AttributeDesk$Grammar", "operands", "[I", true)
  | _ => ("AttributeDesk$Grammar", "codeSize", "I", false)
def tyX1 : Nat → FieldType := fun k => match k with
  | 0 => .int
  | 1 => .array .long
  | 2 => .array .int
  | 3 => .array .int
  | 4 => .array .long
  | 5 => .array .boolean
  | 6 => .array .int
  | 7 => .int
  | 8 => .array .long
  | 9 => .array .int
  | 10 => .array .int
  | 11 => .array .int
  | 12 => .array .int
  | 13 => .array .int
  | 14 => .array .int
  | 15 => .array .int
  | 16 => .array .int
  | _ => .int
abbrev wsX10 : List Cond := u_ws RX1 TX1 18
theorem nmX1 : ∀ a, a < 18 → ∀ b, b < 18 → a ≠ b → (TX1 a).2.1 ≠ (TX1 b).2.1 := by decide +kernel
theorem tyX1_ok : ∀ k, k < 18 → parseFieldDescriptor (TX1 k).2.2.1 = some (tyX1 k) := by decide +kernel
abbrev cX1_init : ByteArray := prog_3_method_1_code
def yX1_init : MethodName := ⟨RX1, "<init>", "()V"⟩
abbrev cX1_clear : ByteArray := prog_3_method_2_code
def yX1_clear : MethodName := ⟨RX1, "clear", "()V"⟩
abbrev cX1_symbolAt : ByteArray := prog_3_method_3_code
def yX1_symbolAt : MethodName := ⟨RX1, "symbolAt", "(II)I"⟩
abbrev cX1_isInherited : ByteArray := prog_3_method_4_code
def yX1_isInherited : MethodName := ⟨RX1, "isInherited", "(II)Z"⟩
abbrev cX1_mayTell : ByteArray := prog_3_method_5_code
def yX1_mayTell : MethodName := ⟨RX1, "mayTell", "(III)Z"⟩
abbrev cX1_graphBit : ByteArray := prog_3_method_6_code
def yX1_graphBit : MethodName := ⟨RX1, "graphBit", "(III)I"⟩
abbrev cX1_findSymbol : ByteArray := prog_3_method_7_code
def yX1_findSymbol : MethodName := ⟨RX1, "findSymbol", "(J)I"⟩
abbrev cX1_findRule : ByteArray := prog_3_method_8_code
def yX1_findRule : MethodName := ⟨RX1, "findRule", "(J)I"⟩
abbrev cX1_findAttribute : ByteArray := prog_3_method_9_code
def yX1_findAttribute : MethodName := ⟨RX1, "findAttribute", "(IJ)I"⟩
abbrev cX1_addSymbol : ByteArray := prog_3_method_10_code
def yX1_addSymbol : MethodName := ⟨RX1, "addSymbol", "(J)V"⟩
abbrev cX1_addAttribute : ByteArray := prog_3_method_11_code
def yX1_addAttribute : MethodName := ⟨RX1, "addAttribute", "(IJZ)V"⟩
abbrev cX1_addRule : ByteArray := prog_3_method_12_code
def yX1_addRule : MethodName := ⟨RX1, "addRule", "(J)V"⟩
abbrev cX1_addCode : ByteArray := prog_3_method_13_code
def yX1_addCode : MethodName := ⟨RX1, "addCode", "(II)V"⟩
def RX2 : String := "AttributeDesk$GrammarReader"
def TX2 : u_T := fun k => match k with
  | 0 => ("AttributeDesk$GrammarReader", "tokens", "LAttributeDesk$Tokens;", true)
  | 1 => ("AttributeDesk$GrammarReader", "expression", "LAttributeDesk$ExpressionReader;", true)
  | 2 => ("AttributeDesk$GrammarReader", "grammar", "LAttributeDesk$Grammar;", false)
  | 3 => ("AttributeDesk$GrammarReader", "state", "I", false)
  | 4 => ("AttributeDesk$GrammarReader", "readsInherited", "Z", false)
  | 5 => ("AttributeDesk$GrammarReader", "targetPlace", "I", false)
  | _ => ("AttributeDesk$GrammarReader", "targetSpot", "I", false)
def tyX2 : Nat → FieldType := fun k => match k with
  | 0 => .object "AttributeDesk$Tokens"
  | 1 => .object "AttributeDesk$ExpressionReader"
  | 2 => .object "AttributeDesk$Grammar"
  | 3 => .int
  | 4 => .boolean
  | 5 => .int
  | _ => .int
abbrev wsX20 : List Cond := u_ws RX2 TX2 7
theorem nmX2 : ∀ a, a < 7 → ∀ b, b < 7 → a ≠ b → (TX2 a).2.1 ≠ (TX2 b).2.1 := by decide +kernel
theorem tyX2_ok : ∀ k, k < 7 → parseFieldDescriptor (TX2 k).2.2.1 = some (tyX2 k) := by decide +kernel
abbrev cX2_init : ByteArray := prog_4_method_1_code
def yX2_init : MethodName := ⟨RX2, "<init>", "(LAttributeDesk$Tokens;LAttributeDesk$Grammar;)V"⟩
abbrev cX2_read : ByteArray := prog_4_method_2_code
def yX2_read : MethodName := ⟨RX2, "read", "(LAttributeDesk$Grammar;I)I"⟩
abbrev cX2_step : ByteArray := prog_4_method_3_code
def yX2_step : MethodName := ⟨RX2, "step", "()I"⟩
abbrev cX2_go : ByteArray := prog_4_method_4_code
def yX2_go : MethodName := ⟨RX2, "go", "(I)I"⟩
abbrev cX2_goIf : ByteArray := prog_4_method_5_code
def yX2_goIf : MethodName := ⟨RX2, "goIf", "(II)I"⟩
abbrev cX2_symbolStep : ByteArray := prog_4_method_6_code
def yX2_symbolStep : MethodName := ⟨RX2, "symbolStep", "()I"⟩
abbrev cX2_symbolName : ByteArray := prog_4_method_7_code
def yX2_symbolName : MethodName := ⟨RX2, "symbolName", "()I"⟩
abbrev cX2_symbolBody : ByteArray := prog_4_method_8_code
def yX2_symbolBody : MethodName := ⟨RX2, "symbolBody", "()I"⟩
abbrev cX2_attributeName : ByteArray := prog_4_method_9_code
def yX2_attributeName : MethodName := ⟨RX2, "attributeName", "()I"⟩
abbrev cX2_ruleStep : ByteArray := prog_4_method_10_code
def yX2_ruleStep : MethodName := ⟨RX2, "ruleStep", "()I"⟩
abbrev cX2_ruleName : ByteArray := prog_4_method_11_code
def yX2_ruleName : MethodName := ⟨RX2, "ruleName", "()I"⟩
abbrev cX2_ruleHead : ByteArray := prog_4_method_12_code
def yX2_ruleHead : MethodName := ⟨RX2, "ruleHead", "(I)I"⟩
abbrev cX2_ruleChild : ByteArray := prog_4_method_13_code
def yX2_ruleChild : MethodName := ⟨RX2, "ruleChild", "(I)I"⟩
abbrev cX2_ruleBody : ByteArray := prog_4_method_14_code
def yX2_ruleBody : MethodName := ⟨RX2, "ruleBody", "(I)I"⟩
abbrev cX2_behindRule : ByteArray := prog_4_method_15_code
def yX2_behindRule : MethodName := ⟨RX2, "behindRule", "()I"⟩
abbrev cX2_lacksEquation : ByteArray := prog_4_method_16_code
def yX2_lacksEquation : MethodName := ⟨RX2, "lacksEquation", "(I)Z"⟩
abbrev cX2_targetStep : ByteArray := prog_4_method_17_code
def yX2_targetStep : MethodName := ⟨RX2, "targetStep", "()I"⟩
abbrev cX2_targetName : ByteArray := prog_4_method_18_code
def yX2_targetName : MethodName := ⟨RX2, "targetName", "(I)I"⟩
def RX3 : String := "AttributeDesk$Tokens"
def TX3 : u_T := fun k => match k with
  | 0 => ("AttributeDesk$Tokens", "text", "[B", true)
  | 1 => ("AttributeDesk$Tokens", "size", "I", false)
  | 2 => ("AttributeDesk$Tokens", "behind", "I", false)
  | 3 => ("AttributeDesk$Tokens", "kind", "I", false)
  | 4 => ("AttributeDesk$Tokens", "at", "I", false)
  | 5 => ("AttributeDesk$Tokens", "name", "J", false)
  | _ => ("AttributeDesk$Tokens", "number", "J", false)
def tyX3 : Nat → FieldType := fun k => match k with
  | 0 => .array .byte
  | 1 => .int
  | 2 => .int
  | 3 => .int
  | 4 => .int
  | 5 => .long
  | _ => .long
abbrev wsX30 : List Cond := u_ws RX3 TX3 7
theorem nmX3 : ∀ a, a < 7 → ∀ b, b < 7 → a ≠ b → (TX3 a).2.1 ≠ (TX3 b).2.1 := by decide +kernel
theorem tyX3_ok : ∀ k, k < 7 → parseFieldDescriptor (TX3 k).2.2.1 = some (tyX3 k) := by decide +kernel
abbrev cX3_init : ByteArray := prog_5_method_1_code
def yX3_init : MethodName := ⟨RX3, "<init>", "([B)V"⟩
abbrev cX3_begin : ByteArray := prog_5_method_2_code
def yX3_begin : MethodName := ⟨RX3, "begin", "(I)V"⟩
abbrev cX3_next : ByteArray := prog_5_method_3_code
def yX3_next : MethodName := ⟨RX3, "next", "()V"⟩
abbrev cX3_hasDotBehind : ByteArray := prog_5_method_4_code
def yX3_hasDotBehind : MethodName := ⟨RX3, "hasDotBehind", "()Z"⟩
abbrev cX3_skipBlanks : ByteArray := prog_5_method_5_code
def yX3_skipBlanks : MethodName := ⟨RX3, "skipBlanks", "(I)I"⟩
abbrev cX3_takeLetters : ByteArray := prog_5_method_6_code
def yX3_takeLetters : MethodName := ⟨RX3, "takeLetters", "()V"⟩
abbrev cX3_takeDigits : ByteArray := prog_5_method_7_code
def yX3_takeDigits : MethodName := ⟨RX3, "takeDigits", "()V"⟩
abbrev cX3_keywordOrName : ByteArray := prog_5_method_8_code
def yX3_keywordOrName : MethodName := ⟨RX3, "keywordOrName", "(I)I"⟩
abbrev cX3_isLetter : ByteArray := prog_5_method_9_code
def yX3_isLetter : MethodName := ⟨RX3, "isLetter", "(I)Z"⟩
abbrev cX3_isDigit : ByteArray := prog_5_method_10_code
def yX3_isDigit : MethodName := ⟨RX3, "isDigit", "(I)Z"⟩
abbrev cX3_isSign : ByteArray := prog_5_method_11_code
def yX3_isSign : MethodName := ⟨RX3, "isSign", "(I)Z"⟩
def RX4 : String := "AttributeDesk$Tree"
def TX4 : u_T := fun k => match k with
  | 0 => ("AttributeDesk$Tree", "size", "I", false)
  | 1 => ("AttributeDesk$Tree", "rules", "[I", true)
  | 2 => ("AttributeDesk$Tree", "above", "[I", true)
  | 3 => ("AttributeDesk$Tree", "places", "[I", true)
  | 4 => ("AttributeDesk$Tree", "owns", "[I", true)
  | _ => ("AttributeDesk$Tree", "children", "[I", true)
def tyX4 : Nat → FieldType := fun k => match k with
  | 0 => .int
  | 1 => .array .int
  | 2 => .array .int
  | 3 => .array .int
  | 4 => .array .int
  | _ => .array .int
abbrev wsX40 : List Cond := u_ws RX4 TX4 6
theorem nmX4 : ∀ a, a < 6 → ∀ b, b < 6 → a ≠ b → (TX4 a).2.1 ≠ (TX4 b).2.1 := by decide +kernel
theorem tyX4_ok : ∀ k, k < 6 → parseFieldDescriptor (TX4 k).2.2.1 = some (tyX4 k) := by decide +kernel
abbrev cX4_init : ByteArray := prog_6_method_1_code
def yX4_init : MethodName := ⟨RX4, "<init>", "()V"⟩
abbrev cX4_nodeAt : ByteArray := prog_6_method_2_code
def yX4_nodeAt : MethodName := ⟨RX4, "nodeAt", "(II)I"⟩
def RX5 : String := "AttributeDesk$TreeReader"
def TX5 : u_T := fun k => match k with
  | 0 => ("AttributeDesk$TreeReader", "tokens", "LAttributeDesk$Tokens;", true)
  | 1 => ("AttributeDesk$TreeReader", "grammar", "LAttributeDesk$Grammar;", false)
  | 2 => ("AttributeDesk$TreeReader", "tree", "LAttributeDesk$Tree;", false)
  | 3 => ("AttributeDesk$TreeReader", "state", "I", false)
  | 4 => ("AttributeDesk$TreeReader", "here", "I", false)
  | 5 => ("AttributeDesk$TreeReader", "depth", "I", false)
  | _ => ("AttributeDesk$TreeReader", "filled", "[I", true)
def tyX5 : Nat → FieldType := fun k => match k with
  | 0 => .object "AttributeDesk$Tokens"
  | 1 => .object "AttributeDesk$Grammar"
  | 2 => .object "AttributeDesk$Tree"
  | 3 => .int
  | 4 => .int
  | 5 => .int
  | _ => .array .int
abbrev wsX50 : List Cond := u_ws RX5 TX5 7
theorem nmX5 : ∀ a, a < 7 → ∀ b, b < 7 → a ≠ b → (TX5 a).2.1 ≠ (TX5 b).2.1 := by decide +kernel
theorem tyX5_ok : ∀ k, k < 7 → parseFieldDescriptor (TX5 k).2.2.1 = some (tyX5 k) := by decide +kernel
abbrev cX5_init : ByteArray := prog_7_method_1_code
def yX5_init : MethodName := ⟨RX5, "<init>", "(LAttributeDesk$Tokens;LAttributeDesk$Grammar;LAttributeDesk$Tree;)V"⟩
abbrev cX5_read : ByteArray := prog_7_method_2_code
def yX5_read : MethodName := ⟨RX5, "read", "(LAttributeDesk$Grammar;LAttributeDesk$Tree;I)I"⟩
abbrev cX5_step : ByteArray := prog_7_method_3_code
def yX5_step : MethodName := ⟨RX5, "step", "()I"⟩
abbrev cX5_go : ByteArray := prog_7_method_4_code
def yX5_go : MethodName := ⟨RX5, "go", "(ZI)I"⟩
abbrev cX5_openNode : ByteArray := prog_7_method_5_code
def yX5_openNode : MethodName := ⟨RX5, "openNode", "()I"⟩
abbrev cX5_ruleName : ByteArray := prog_7_method_6_code
def yX5_ruleName : MethodName := ⟨RX5, "ruleName", "()I"⟩
abbrev cX5_dueSymbol : ByteArray := prog_7_method_7_code
def yX5_dueSymbol : MethodName := ⟨RX5, "dueSymbol", "()I"⟩
abbrev cX5_ownNumber : ByteArray := prog_7_method_8_code
def yX5_ownNumber : MethodName := ⟨RX5, "ownNumber", "()I"⟩
abbrev cX5_childOrEnd : ByteArray := prog_7_method_9_code
def yX5_childOrEnd : MethodName := ⟨RX5, "childOrEnd", "()I"⟩
def RX6 : String := "AttributeDesk$Ways"
def TX6 : u_T := fun k => match k with
  | 0 => ("AttributeDesk$Ways", "plain", "[I", true)
  | 1 => ("AttributeDesk$Ways", "plainRound", "[Z", true)
  | 2 => ("AttributeDesk$Ways", "tooLarge", "Z", false)
  | 3 => ("AttributeDesk$Ways", "graphs", "[I", true)
  | 4 => ("AttributeDesk$Ways", "graphCounts", "[I", true)
  | 5 => ("AttributeDesk$Ways", "exactRound", "[Z", true)
  | 6 => ("AttributeDesk$Ways", "comes", "[Z", true)
  | 7 => ("AttributeDesk$Ways", "grammar", "LAttributeDesk$Grammar;", false)
  | 8 => ("AttributeDesk$Ways", "hasGraph", "[Z", true)
  | 9 => ("AttributeDesk$Ways", "hasTree", "[Z", true)
  | 10 => ("AttributeDesk$Ways", "isReached", "[Z", true)
  | 11 => ("AttributeDesk$Ways", "rows", "[I", true)
  | 12 => ("AttributeDesk$Ways", "taken", "[I", true)
  | 13 => ("AttributeDesk$Ways", "firsts", "[I", true)
  | _ => ("AttributeDesk$Ways", "spans", "[I", true)
def tyX6 : Nat → FieldType := fun k => match k with
  | 0 => .array .int
  | 1 => .array .boolean
  | 2 => .boolean
  | 3 => .array .int
  | 4 => .array .int
  | 5 => .array .boolean
  | 6 => .array .boolean
  | 7 => .object "AttributeDesk$Grammar"
  | 8 => .array .boolean
  | 9 => .array .boolean
  | 10 => .array .boolean
  | 11 => .array .int
  | 12 => .array .int
  | 13 => .array .int
  | _ => .array .int
abbrev wsX60 : List Cond := u_ws RX6 TX6 15
theorem nmX6 : ∀ a, a < 15 → ∀ b, b < 15 → a ≠ b → (TX6 a).2.1 ≠ (TX6 b).2.1 := by decide +kernel
theorem tyX6_ok : ∀ k, k < 15 → parseFieldDescriptor (TX6 k).2.2.1 = some (tyX6 k) := by decide +kernel
abbrev cX6_init : ByteArray := prog_8_method_1_code
def yX6_init : MethodName := ⟨RX6, "<init>", "(LAttributeDesk$Grammar;)V"⟩
abbrev cX6_study : ByteArray := prog_8_method_2_code
def yX6_study : MethodName := ⟨RX6, "study", "(LAttributeDesk$Grammar;)V"⟩
abbrev cX6_plainGoesRound : ByteArray := prog_8_method_3_code
def yX6_plainGoesRound : MethodName := ⟨RX6, "plainGoesRound", "()Z"⟩
abbrev cX6_someTreeGoesRound : ByteArray := prog_8_method_4_code
def yX6_someTreeGoesRound : MethodName := ⟨RX6, "someTreeGoesRound", "()Z"⟩
abbrev cX6_findPlain : ByteArray := prog_8_method_5_code
def yX6_findPlain : MethodName := ⟨RX6, "findPlain", "()V"⟩
abbrev cX6_takePlain : ByteArray := prog_8_method_6_code
def yX6_takePlain : MethodName := ⟨RX6, "takePlain", "(I)Z"⟩
abbrev cX6_findTrees : ByteArray := prog_8_method_7_code
def yX6_findTrees : MethodName := ⟨RX6, "findTrees", "()V"⟩
abbrev cX6_childrenHaveTrees : ByteArray := prog_8_method_8_code
def yX6_childrenHaveTrees : MethodName := ⟨RX6, "childrenHaveTrees", "(I)Z"⟩
abbrev cX6_findComing : ByteArray := prog_8_method_9_code
def yX6_findComing : MethodName := ⟨RX6, "findComing", "()V"⟩
abbrev cX6_findExact : ByteArray := prog_8_method_10_code
def yX6_findExact : MethodName := ⟨RX6, "findExact", "()V"⟩
abbrev cX6_clearExact : ByteArray := prog_8_method_11_code
def yX6_clearExact : MethodName := ⟨RX6, "clearExact", "()V"⟩
abbrev cX6_takeNewChoices : ByteArray := prog_8_method_12_code
def yX6_takeNewChoices : MethodName := ⟨RX6, "takeNewChoices", "(I)Z"⟩
abbrev cX6_countChoices : ByteArray := prog_8_method_13_code
def yX6_countChoices : MethodName := ⟨RX6, "countChoices", "(I)I"⟩
abbrev cX6_takeChoice : ByteArray := prog_8_method_14_code
def yX6_takeChoice : MethodName := ⟨RX6, "takeChoice", "(II)Z"⟩
abbrev cX6_addGraph : ByteArray := prog_8_method_15_code
def yX6_addGraph : MethodName := ⟨RX6, "addGraph", "(II)Z"⟩
abbrev cX6_sortGraphs : ByteArray := prog_8_method_16_code
def yX6_sortGraphs : MethodName := ⟨RX6, "sortGraphs", "()V"⟩
abbrev cX6_loadEquations : ByteArray := prog_8_method_17_code
def yX6_loadEquations : MethodName := ⟨RX6, "loadEquations", "(I)V"⟩
abbrev cX6_loadGraph : ByteArray := prog_8_method_18_code
def yX6_loadGraph : MethodName := ⟨RX6, "loadGraph", "(III)V"⟩
abbrev cX6_headGraph : ByteArray := prog_8_method_19_code
def yX6_headGraph : MethodName := ⟨RX6, "headGraph", "(I)I"⟩
abbrev cX6_closeRows : ByteArray := prog_8_method_20_code
def yX6_closeRows : MethodName := ⟨RX6, "closeRows", "()V"⟩
abbrev cX6_goesRound : ByteArray := prog_8_method_21_code
def yX6_goesRound : MethodName := ⟨RX6, "goesRound", "()Z"⟩
def RX7 : String := "AttributeDesk$Worker"
def TX7 : u_T := fun k => match k with
  | 0 => ("AttributeDesk$Worker", "numbers", "[I", true)
  | 1 => ("AttributeDesk$Worker", "order", "[I", true)
  | 2 => ("AttributeDesk$Worker", "orderSize", "I", false)
  | 3 => ("AttributeDesk$Worker", "grammar", "LAttributeDesk$Grammar;", false)
  | 4 => ("AttributeDesk$Worker", "tree", "LAttributeDesk$Tree;", false)
  | 5 => ("AttributeDesk$Worker", "states", "[I", true)
  | 6 => ("AttributeDesk$Worker", "way", "[I", true)
  | 7 => ("AttributeDesk$Worker", "bases", "[I", true)
  | 8 => ("AttributeDesk$Worker", "equations", "[I", true)
  | 9 => ("AttributeDesk$Worker", "codeAt", "[I", true)
  | 10 => ("AttributeDesk$Worker", "wayLength", "I", false)
  | 11 => ("AttributeDesk$Worker", "values", "[I", true)
  | 12 => ("AttributeDesk$Worker", "bads", "[Z", true)
  | _ => ("AttributeDesk$Worker", "valueCount", "I", false)
def tyX7 : Nat → FieldType := fun k => match k with
  | 0 => .array .int
  | 1 => .array .int
  | 2 => .int
  | 3 => .object "AttributeDesk$Grammar"
  | 4 => .object "AttributeDesk$Tree"
  | 5 => .array .int
  | 6 => .array .int
  | 7 => .array .int
  | 8 => .array .int
  | 9 => .array .int
  | 10 => .int
  | 11 => .array .int
  | 12 => .array .boolean
  | _ => .int
abbrev wsX70 : List Cond := u_ws RX7 TX7 14
theorem nmX7 : ∀ a, a < 14 → ∀ b, b < 14 → a ≠ b → (TX7 a).2.1 ≠ (TX7 b).2.1 := by decide +kernel
theorem tyX7_ok : ∀ k, k < 14 → parseFieldDescriptor (TX7 k).2.2.1 = some (tyX7 k) := by decide +kernel
abbrev cX7_init : ByteArray := prog_9_method_1_code
def yX7_init : MethodName := ⟨RX7, "<init>", "(LAttributeDesk$Grammar;LAttributeDesk$Tree;)V"⟩
abbrev cX7_begin : ByteArray := prog_9_method_2_code
def yX7_begin : MethodName := ⟨RX7, "begin", "(LAttributeDesk$Grammar;LAttributeDesk$Tree;)V"⟩
abbrev cX7_forget : ByteArray := prog_9_method_3_code
def yX7_forget : MethodName := ⟨RX7, "forget", "()V"⟩
abbrev cX7_outcome : ByteArray := prog_9_method_4_code
def yX7_outcome : MethodName := ⟨RX7, "outcome", "(I)I"⟩
abbrev cX7_workOut : ByteArray := prog_9_method_5_code
def yX7_workOut : MethodName := ⟨RX7, "workOut", "(I)I"⟩
abbrev cX7_isOpen : ByteArray := prog_9_method_6_code
def yX7_isOpen : MethodName := ⟨RX7, "isOpen", "(I)Z"⟩
abbrev cX7_enter : ByteArray := prog_9_method_7_code
def yX7_enter : MethodName := ⟨RX7, "enter", "(I)V"⟩
abbrev cX7_leave : ByteArray := prog_9_method_8_code
def yX7_leave : MethodName := ⟨RX7, "leave", "()V"⟩
abbrev cX7_giveUp : ByteArray := prog_9_method_9_code
def yX7_giveUp : MethodName := ⟨RX7, "giveUp", "()V"⟩
abbrev cX7_nextOpen : ByteArray := prog_9_method_10_code
def yX7_nextOpen : MethodName := ⟨RX7, "nextOpen", "()I"⟩
abbrev cX7_itemAt : ByteArray := prog_9_method_11_code
def yX7_itemAt : MethodName := ⟨RX7, "itemAt", "(II)I"⟩
abbrev cX7_evaluate : ByteArray := prog_9_method_12_code
def yX7_evaluate : MethodName := ⟨RX7, "evaluate", "(II)V"⟩
abbrev cX7_put : ByteArray := prog_9_method_13_code
def yX7_put : MethodName := ⟨RX7, "put", "(IZ)V"⟩
abbrev cX7_operate : ByteArray := prog_9_method_14_code
def yX7_operate : MethodName := ⟨RX7, "operate", "(I)V"⟩
abbrev cX7_choose : ByteArray := prog_9_method_15_code
def yX7_choose : MethodName := ⟨RX7, "choose", "(I)V"⟩
abbrev cX7_combine : ByteArray := prog_9_method_16_code
def yX7_combine : MethodName := ⟨RX7, "combine", "(II)V"⟩
abbrev cX7_result : ByteArray := prog_9_method_17_code
def yX7_result : MethodName := ⟨RX7, "result", "(III)I"⟩
def RX8 : String := "AttributeDesk"
def TX8 : u_T := fun k => match k with
  | 0 => ("AttributeDesk", "tape", "[B", true)
  | 1 => ("AttributeDesk", "tapeSize", "I", false)
  | 2 => ("AttributeDesk", "known", "LAttributeDesk$Grammar;", false)
  | 3 => ("AttributeDesk", "spareGrammar", "LAttributeDesk$Grammar;", false)
  | 4 => ("AttributeDesk", "grown", "LAttributeDesk$Tree;", false)
  | 5 => ("AttributeDesk", "spareTree", "LAttributeDesk$Tree;", false)
  | 6 => ("AttributeDesk", "tokens", "LAttributeDesk$Tokens;", true)
  | 7 => ("AttributeDesk", "grammarReader", "LAttributeDesk$GrammarReader;", true)
  | 8 => ("AttributeDesk", "treeReader", "LAttributeDesk$TreeReader;", true)
  | 9 => ("AttributeDesk", "ways", "LAttributeDesk$Ways;", true)
  | 10 => ("AttributeDesk", "worker", "LAttributeDesk$Worker;", true)
  | 11 => ("AttributeDesk", "latestFault", "I", false)
  | _ => ("AttributeDesk", "latestPlace", "I", false)
def tyX8 : Nat → FieldType := fun k => match k with
  | 0 => .array .byte
  | 1 => .int
  | 2 => .object "AttributeDesk$Grammar"
  | 3 => .object "AttributeDesk$Grammar"
  | 4 => .object "AttributeDesk$Tree"
  | 5 => .object "AttributeDesk$Tree"
  | 6 => .object "AttributeDesk$Tokens"
  | 7 => .object "AttributeDesk$GrammarReader"
  | 8 => .object "AttributeDesk$TreeReader"
  | 9 => .object "AttributeDesk$Ways"
  | 10 => .object "AttributeDesk$Worker"
  | 11 => .int
  | _ => .int
abbrev wsX80 : List Cond := u_ws RX8 TX8 13
theorem nmX8 : ∀ a, a < 13 → ∀ b, b < 13 → a ≠ b → (TX8 a).2.1 ≠ (TX8 b).2.1 := by decide +kernel
theorem tyX8_ok : ∀ k, k < 13 → parseFieldDescriptor (TX8 k).2.2.1 = some (tyX8 k) := by decide +kernel
abbrev cX8_init : ByteArray := prog_1_method_1_code
def yX8_init : MethodName := ⟨RX8, "<init>", "()V"⟩
abbrev cX8_feed : ByteArray := prog_1_method_2_code
def yX8_feed : MethodName := ⟨RX8, "feed", "(IIIII)I"⟩
abbrev cX8_end : ByteArray := prog_1_method_3_code
def yX8_end : MethodName := ⟨RX8, "end", "(I)I"⟩
abbrev cX8_grammar : ByteArray := prog_1_method_4_code
def yX8_grammar : MethodName := ⟨RX8, "grammar", "()I"⟩
abbrev cX8_tree : ByteArray := prog_1_method_5_code
def yX8_tree : MethodName := ⟨RX8, "tree", "()I"⟩
abbrev cX8_fault : ByteArray := prog_1_method_6_code
def yX8_fault : MethodName := ⟨RX8, "fault", "(I)I"⟩
abbrev cX8_symbol : ByteArray := prog_1_method_7_code
def yX8_symbol : MethodName := ⟨RX8, "symbol", "(II)I"⟩
abbrev cX8_graph : ByteArray := prog_1_method_8_code
def yX8_graph : MethodName := ⟨RX8, "graph", "(II)I"⟩
abbrev cX8_rule : ByteArray := prog_1_method_9_code
def yX8_rule : MethodName := ⟨RX8, "rule", "(II)I"⟩
abbrev cX8_test : ByteArray := prog_1_method_10_code
def yX8_test : MethodName := ⟨RX8, "test", "(I)I"⟩
abbrev cX8_node : ByteArray := prog_1_method_11_code
def yX8_node : MethodName := ⟨RX8, "node", "(II)I"⟩
abbrev cX8_own : ByteArray := prog_1_method_12_code
def yX8_own : MethodName := ⟨RX8, "own", "(II)Z"⟩
abbrev cX8_demand : ByteArray := prog_1_method_13_code
def yX8_demand : MethodName := ⟨RX8, "demand", "(II)I"⟩
abbrev cX8_value : ByteArray := prog_1_method_14_code
def yX8_value : MethodName := ⟨RX8, "value", "(III)I"⟩
abbrev cX8_order : ByteArray := prog_1_method_15_code
def yX8_order : MethodName := ⟨RX8, "order", "(I)I"⟩
abbrev cX8_about : ByteArray := prog_1_method_16_code
def yX8_about : MethodName := ⟨RX8, "about", "(I)I"⟩
abbrev cX8_putWord : ByteArray := prog_1_method_17_code
def yX8_putWord : MethodName := ⟨RX8, "putWord", "(I)V"⟩
abbrev cX8_keepFault : ByteArray := prog_1_method_18_code
def yX8_keepFault : MethodName := ⟨RX8, "keepFault", "(I)V"⟩
abbrev cX8_inheritance : ByteArray := prog_1_method_19_code
def yX8_inheritance : MethodName := ⟨RX8, "inheritance", "(II)I"⟩
abbrev cX8_isNode : ByteArray := prog_1_method_20_code
def yX8_isNode : MethodName := ⟨RX8, "isNode", "(I)Z"⟩
abbrev cX8_isItem : ByteArray := prog_1_method_21_code
def yX8_isItem : MethodName := ⟨RX8, "isItem", "(II)Z"⟩
abbrev cX8_symbolOf : ByteArray := prog_1_method_22_code
def yX8_symbolOf : MethodName := ⟨RX8, "symbolOf", "(I)I"⟩
def RX9 : String := "AttributeDeskModel"
def TX9 : u_T := fun k => match k with
  | 0 => ("AttributeDeskModel", "tape", "[B", true)
  | 1 => ("AttributeDeskModel", "taped", "I", false)
  | 2 => ("AttributeDeskModel", "text", "[B", true)
  | 3 => ("AttributeDeskModel", "length", "I", false)
  | 4 => ("AttributeDeskModel", "former", "[B", true)
  | 5 => ("AttributeDeskModel", "formerLength", "I", false)
  | 6 => ("AttributeDeskModel", "hasGrammar", "Z", false)
  | 7 => ("AttributeDeskModel", "at", "I", false)
  | 8 => ("AttributeDeskModel", "token", "I", false)
  | 9 => ("AttributeDeskModel", "sort", "I", false)
  | 10 => ("AttributeDeskModel", "told", "J", false)
  | 11 => ("AttributeDeskModel", "wrong", "I", false)
  | 12 => ("AttributeDeskModel", "wrongAt", "I", false)
  | 13 => ("AttributeDeskModel", "fault", "I", false)
  | 14 => ("AttributeDeskModel", "faultAt", "I", false)
  | 15 => ("AttributeDeskModel", "nest", "I", false)
  | 16 => ("AttributeDeskModel", "symbols", "I", false)
  | 17 => ("AttributeDeskModel", "symbolName", "[J", true)
  | 18 => ("AttributeDeskModel", "attributes", "[I", true)
  | 19 => ("AttributeDeskModel", "attributeName", "[J", true)
  | 20 => ("AttributeDeskModel", "isInherited", "[Z", true)
  | 21 => ("AttributeDeskModel", "rules", "I", false)
  | 22 => ("AttributeDeskModel", "ruleName", "[J", true)
  | 23 => ("AttributeDeskModel", "children", "[I", true)
  | 24 => ("AttributeDeskModel", "ruleSymbol", "[I", true)
  | 25 => ("AttributeDeskModel", "equations", "[I", true)
  | 26 => ("AttributeDeskModel", "eqFrom", "[I", true)
  | 27 => ("AttributeDeskModel", "eqOccs", "[I", true)
  | 28 => ("AttributeDeskModel", "eqMany", "[I", true)
  | 29 => ("AttributeDeskModel", "orders", "I", false)
  | 30 => ("AttributeDeskModel", "order", "[I", true)
  | 31 => ("AttributeDeskModel", "orderOf", "[I", true)
  | 32 => ("AttributeDeskModel", "occs", "I", false)
  | 33 => ("AttributeDeskModel", "occPlace", "[I", true)
  | 34 => ("AttributeDeskModel", "occAttribute", "[I", true)
  | 35 => ("AttributeDeskModel", "occurK", "I", false)
  | 36 => ("AttributeDeskModel", "occurA", "I", false)
  | 37 => ("AttributeDeskModel", "frames", "I", false)
  | 38 => ("AttributeDeskModel", "frame", "[I", true)
  | 39 => ("AttributeDeskModel", "frameOf", "[I", true)
  | 40 => ("AttributeDeskModel", "tokens", "I", false)
  | 41 => ("AttributeDeskModel", "mode", "I", false)
  | 42 => ("AttributeDeskModel", "nodes", "I", false)
  | 43 => ("AttributeDeskModel", "nodeRule", "[I", true)
  | 44 => ("AttributeDeskModel", "nodeAbove", "[I", true)
  | 45 => ("AttributeDeskModel", "nodePlace", "[I", true)
  | 46 => ("AttributeDeskModel", "nodeOwn", "[I", true)
  | 47 => ("AttributeDeskModel", "nodeChild", "[I", true)
  | 48 => ("AttributeDeskModel", "newNodes", "I", false)
  | 49 => ("AttributeDeskModel", "newRule", "[I", true)
  | 50 => ("AttributeDeskModel", "newAbove", "[I", true)
  | 51 => ("AttributeDeskModel", "newPlace", "[I", true)
  | 52 => ("AttributeDeskModel", "newOwn", "[I", true)
  | 53 => ("AttributeDeskModel", "newMany", "[I", true)
  | 54 => ("AttributeDeskModel", "newChild", "[I", true)
  | 55 => ("AttributeDeskModel", "canBe", "[Z", true)
  | 56 => ("AttributeDeskModel", "canCome", "[Z", true)
  | 57 => ("AttributeDeskModel", "isAbove", "[Z", true)
  | 58 => ("AttributeDeskModel", "isLarge", "Z", false)
  | 59 => ("AttributeDeskModel", "hasGraph", "[Z", true)
  | 60 => ("AttributeDeskModel", "graphs", "[I", true)
  | 61 => ("AttributeDeskModel", "plain", "[I", true)
  | 62 => ("AttributeDeskModel", "isRoundPlain", "[Z", true)
  | 63 => ("AttributeDeskModel", "isRound", "[Z", true)
  | 64 => ("AttributeDeskModel", "reach", "[I", true)
  | 65 => ("AttributeDeskModel", "chosen", "[I", true)
  | 66 => ("AttributeDeskModel", "fresh0", "I", false)
  | 67 => ("AttributeDeskModel", "fresh", "[I", true)
  | 68 => ("AttributeDeskModel", "worked", "I", false)
  | 69 => ("AttributeDeskModel", "workedAt", "[I", true)
  | 70 => ("AttributeDeskModel", "isWorked", "[Z", true)
  | 71 => ("AttributeDeskModel", "isBad", "[Z", true)
  | 72 => ("AttributeDeskModel", "number", "[I", true)
  | 73 => ("AttributeDeskModel", "isWaiting", "[Z", true)
  | 74 => ("AttributeDeskModel", "waits", "I", false)
  | 75 => ("AttributeDeskModel", "waitsFor", "[I", true)
  | 76 => ("AttributeDeskModel", "waitsAt", "[I", true)
  | 77 => ("AttributeDeskModel", "top", "I", false)
  | 78 => ("AttributeDeskModel", "stack", "[I", true)
  | _ => ("AttributeDeskModel", "stackBad", "[Z", true)
def tyX9 : Nat → FieldType := fun k => match k with
  | 0 => .array .byte
  | 1 => .int
  | 2 => .array .byte
  | 3 => .int
  | 4 => .array .byte
  | 5 => .int
  | 6 => .boolean
  | 7 => .int
  | 8 => .int
  | 9 => .int
  | 10 => .long
  | 11 => .int
  | 12 => .int
  | 13 => .int
  | 14 => .int
  | 15 => .int
  | 16 => .int
  | 17 => .array .long
  | 18 => .array .int
  | 19 => .array .long
  | 20 => .array .boolean
  | 21 => .int
  | 22 => .array .long
  | 23 => .array .int
  | 24 => .array .int
  | 25 => .array .int
  | 26 => .array .int
  | 27 => .array .int
  | 28 => .array .int
  | 29 => .int
  | 30 => .array .int
  | 31 => .array .int
  | 32 => .int
  | 33 => .array .int
  | 34 => .array .int
  | 35 => .int
  | 36 => .int
  | 37 => .int
  | 38 => .array .int
  | 39 => .array .int
  | 40 => .int
  | 41 => .int
  | 42 => .int
  | 43 => .array .int
  | 44 => .array .int
  | 45 => .array .int
  | 46 => .array .int
  | 47 => .array .int
  | 48 => .int
  | 49 => .array .int
  | 50 => .array .int
  | 51 => .array .int
  | 52 => .array .int
  | 53 => .array .int
  | 54 => .array .int
  | 55 => .array .boolean
  | 56 => .array .boolean
  | 57 => .array .boolean
  | 58 => .boolean
  | 59 => .array .boolean
  | 60 => .array .int
  | 61 => .array .int
  | 62 => .array .boolean
  | 63 => .array .boolean
  | 64 => .array .int
  | 65 => .array .int
  | 66 => .int
  | 67 => .array .int
  | 68 => .int
  | 69 => .array .int
  | 70 => .array .boolean
  | 71 => .array .boolean
  | 72 => .array .int
  | 73 => .array .boolean
  | 74 => .int
  | 75 => .array .int
  | 76 => .array .int
  | 77 => .int
  | 78 => .array .int
  | _ => .array .boolean
abbrev wsX90 : List Cond := u_ws RX9 TX9 80
theorem nmX9 : ∀ a, a < 80 → ∀ b, b < 80 → a ≠ b → (TX9 a).2.1 ≠ (TX9 b).2.1 := by decide +kernel
theorem tyX9_ok : ∀ k, k < 80 → parseFieldDescriptor (TX9 k).2.2.1 = some (tyX9 k) := by decide +kernel
abbrev cX9_in : ByteArray := prog_11_method_1_code
def yX9_in : MethodName := ⟨RX9, "in", "(III)Z"⟩
abbrev cX9_init : ByteArray := prog_11_method_2_code
def yX9_init : MethodName := ⟨RX9, "<init>", "()V"⟩
abbrev cX9_put : ByteArray := prog_11_method_3_code
def yX9_put : MethodName := ⟨RX9, "put", "(I)V"⟩
abbrev cX9_feed : ByteArray := prog_11_method_4_code
def yX9_feed : MethodName := ⟨RX9, "feed", "(IIIII)I"⟩
abbrev cX9_end : ByteArray := prog_11_method_5_code
def yX9_end : MethodName := ⟨RX9, "end", "(I)I"⟩
abbrev cX9_isWell : ByteArray := prog_11_method_6_code
def yX9_isWell : MethodName := ⟨RX9, "isWell", "()Z"⟩
abbrev cX9_fails : ByteArray := prog_11_method_7_code
def yX9_fails : MethodName := ⟨RX9, "fails", "(II)V"⟩
abbrev cX9_stray : ByteArray := prog_11_method_8_code
def yX9_stray : MethodName := ⟨RX9, "stray", "()V"⟩
abbrev cX9_letterOf : ByteArray := prog_11_method_9_code
def yX9_letterOf : MethodName := ⟨RX9, "letterOf", "(I)I"⟩
abbrev cX9_blanks : ByteArray := prog_11_method_10_code
def yX9_blanks : MethodName := ⟨RX9, "blanks", "()V"⟩
abbrev cX9_next : ByteArray := prog_11_method_11_code
def yX9_next : MethodName := ⟨RX9, "next", "()V"⟩
abbrev cX9_name : ByteArray := prog_11_method_12_code
def yX9_name : MethodName := ⟨RX9, "name", "()V"⟩
abbrev cX9_wordOf : ByteArray := prog_11_method_13_code
def yX9_wordOf : MethodName := ⟨RX9, "wordOf", "(I)I"⟩
abbrev cX9_sign : ByteArray := prog_11_method_14_code
def yX9_sign : MethodName := ⟨RX9, "sign", "(I)V"⟩
abbrev cX9_isSign : ByteArray := prog_11_method_15_code
def yX9_isSign : MethodName := ⟨RX9, "isSign", "(I)Z"⟩
abbrev cX9_isWord : ByteArray := prog_11_method_16_code
def yX9_isWord : MethodName := ⟨RX9, "isWord", "(I)Z"⟩
abbrev cX9_takes : ByteArray := prog_11_method_17_code
def yX9_takes : MethodName := ⟨RX9, "takes", "(I)V"⟩
abbrev cX9_isAhead : ByteArray := prog_11_method_18_code
def yX9_isAhead : MethodName := ⟨RX9, "isAhead", "(I)Z"⟩
abbrev cX9_symbolOf : ByteArray := prog_11_method_19_code
def yX9_symbolOf : MethodName := ⟨RX9, "symbolOf", "(J)I"⟩
abbrev cX9_attributeOf : ByteArray := prog_11_method_20_code
def yX9_attributeOf : MethodName := ⟨RX9, "attributeOf", "(IJ)I"⟩
abbrev cX9_ruleOf : ByteArray := prog_11_method_21_code
def yX9_ruleOf : MethodName := ⟨RX9, "ruleOf", "(JI)I"⟩
abbrev cX9_isName : ByteArray := prog_11_method_22_code
def yX9_isName : MethodName := ⟨RX9, "isName", "()Z"⟩
abbrev cX9_symbol : ByteArray := prog_11_method_23_code
def yX9_symbol : MethodName := ⟨RX9, "symbol", "()V"⟩
abbrev cX9_attribute : ByteArray := prog_11_method_24_code
def yX9_attribute : MethodName := ⟨RX9, "attribute", "(IZ)V"⟩
abbrev cX9_rule : ByteArray := prog_11_method_25_code
def yX9_rule : MethodName := ⟨RX9, "rule", "()V"⟩
abbrev cX9_place : ByteArray := prog_11_method_26_code
def yX9_place : MethodName := ⟨RX9, "place", "(II)V"⟩
abbrev cX9_isTold : ByteArray := prog_11_method_27_code
def yX9_isTold : MethodName := ⟨RX9, "isTold", "(III)Z"⟩
abbrev cX9_lacks : ByteArray := prog_11_method_28_code
def yX9_lacks : MethodName := ⟨RX9, "lacks", "(I)V"⟩
abbrev cX9_occurs : ByteArray := prog_11_method_29_code
def yX9_occurs : MethodName := ⟨RX9, "occurs", "(I)V"⟩
abbrev cX9_equation : ByteArray := prog_11_method_30_code
def yX9_equation : MethodName := ⟨RX9, "equation", "(I)V"⟩
abbrev cX9_order : ByteArray := prog_11_method_31_code
def yX9_order : MethodName := ⟨RX9, "order", "(II)V"⟩
abbrev cX9_enter : ByteArray := prog_11_method_32_code
def yX9_enter : MethodName := ⟨RX9, "enter", "(II)V"⟩
abbrev cX9_counts : ByteArray := prog_11_method_33_code
def yX9_counts : MethodName := ⟨RX9, "counts", "()V"⟩
abbrev cX9_passes : ByteArray := prog_11_method_34_code
def yX9_passes : MethodName := ⟨RX9, "passes", "()V"⟩
abbrev cX9_nests : ByteArray := prog_11_method_35_code
def yX9_nests : MethodName := ⟨RX9, "nests", "()V"⟩
abbrev cX9_expression : ByteArray := prog_11_method_36_code
def yX9_expression : MethodName := ⟨RX9, "expression", "(I)V"⟩
abbrev cX9_part : ByteArray := prog_11_method_37_code
def yX9_part : MethodName := ⟨RX9, "part", "(I)V"⟩
abbrev cX9_number : ByteArray := prog_11_method_38_code
def yX9_number : MethodName := ⟨RX9, "number", "()V"⟩
abbrev cX9_occ : ByteArray := prog_11_method_39_code
def yX9_occ : MethodName := ⟨RX9, "occ", "(I)V"⟩
abbrev cX9_levelOf : ByteArray := prog_11_method_40_code
def yX9_levelOf : MethodName := ⟨RX9, "levelOf", "(J)I"⟩
abbrev cX9_second : ByteArray := prog_11_method_41_code
def yX9_second : MethodName := ⟨RX9, "second", "(I)V"⟩
abbrev cX9_signs : ByteArray := prog_11_method_42_code
def yX9_signs : MethodName := ⟨RX9, "signs", "()V"⟩
abbrev cX9_word : ByteArray := prog_11_method_43_code
def yX9_word : MethodName := ⟨RX9, "word", "(I)V"⟩
abbrev cX9_ends : ByteArray := prog_11_method_44_code
def yX9_ends : MethodName := ⟨RX9, "ends", "()V"⟩
abbrev cX9_reads : ByteArray := prog_11_method_45_code
def yX9_reads : MethodName := ⟨RX9, "reads", "()V"⟩
abbrev cX9_takesTape : ByteArray := prog_11_method_46_code
def yX9_takesTape : MethodName := ⟨RX9, "takesTape", "()V"⟩
abbrev cX9_grammar : ByteArray := prog_11_method_47_code
def yX9_grammar : MethodName := ⟨RX9, "grammar", "()I"⟩
abbrev cX9_fault : ByteArray := prog_11_method_48_code
def yX9_fault : MethodName := ⟨RX9, "fault", "(I)I"⟩
abbrev cX9_begins : ByteArray := prog_11_method_49_code
def yX9_begins : MethodName := ⟨RX9, "begins", "(III)I"⟩
abbrev cX9_tree : ByteArray := prog_11_method_50_code
def yX9_tree : MethodName := ⟨RX9, "tree", "()I"⟩
abbrev cX9_inheritedOf : ByteArray := prog_11_method_51_code
def yX9_inheritedOf : MethodName := ⟨RX9, "inheritedOf", "(I)I"⟩
abbrev cX9_rankOf : ByteArray := prog_11_method_52_code
def yX9_rankOf : MethodName := ⟨RX9, "rankOf", "(II)I"⟩
abbrev cX9_bitOf : ByteArray := prog_11_method_53_code
def yX9_bitOf : MethodName := ⟨RX9, "bitOf", "(III)I"⟩
abbrev cX9_ways : ByteArray := prog_11_method_54_code
def yX9_ways : MethodName := ⟨RX9, "ways", "(I)V"⟩
abbrev cX9_goesRound : ByteArray := prog_11_method_55_code
def yX9_goesRound : MethodName := ⟨RX9, "goesRound", "()Z"⟩
abbrev cX9_headGraph : ByteArray := prog_11_method_56_code
def yX9_headGraph : MethodName := ⟨RX9, "headGraph", "(I)I"⟩
abbrev cX9_tests : ByteArray := prog_11_method_57_code
def yX9_tests : MethodName := ⟨RX9, "tests", "()V"⟩
abbrev cX9_allCan : ByteArray := prog_11_method_58_code
def yX9_allCan : MethodName := ⟨RX9, "allCan", "(I)Z"⟩
abbrev cX9_comes : ByteArray := prog_11_method_59_code
def yX9_comes : MethodName := ⟨RX9, "comes", "()V"⟩
abbrev cX9_plains : ByteArray := prog_11_method_60_code
def yX9_plains : MethodName := ⟨RX9, "plains", "()V"⟩
abbrev cX9_waysOf : ByteArray := prog_11_method_61_code
def yX9_waysOf : MethodName := ⟨RX9, "waysOf", "(I)J"⟩
abbrev cX9_graphAt : ByteArray := prog_11_method_62_code
def yX9_graphAt : MethodName := ⟨RX9, "graphAt", "(II)I"⟩
abbrev cX9_exact : ByteArray := prog_11_method_63_code
def yX9_exact : MethodName := ⟨RX9, "exact", "()V"⟩
abbrev cX9_chooses : ByteArray := prog_11_method_64_code
def yX9_chooses : MethodName := ⟨RX9, "chooses", "(I)Z"⟩
abbrev cX9_marks : ByteArray := prog_11_method_65_code
def yX9_marks : MethodName := ⟨RX9, "marks", "(I)V"⟩
abbrev cX9_settles : ByteArray := prog_11_method_66_code
def yX9_settles : MethodName := ⟨RX9, "settles", "()V"⟩
abbrev cX9_symbol_ : ByteArray := prog_11_method_67_code
def yX9_symbol_ : MethodName := ⟨RX9, "symbol", "(II)I"⟩
abbrev cX9_graph : ByteArray := prog_11_method_68_code
def yX9_graph : MethodName := ⟨RX9, "graph", "(II)I"⟩
abbrev cX9_rule_ : ByteArray := prog_11_method_69_code
def yX9_rule_ : MethodName := ⟨RX9, "rule", "(II)I"⟩
abbrev cX9_test : ByteArray := prog_11_method_70_code
def yX9_test : MethodName := ⟨RX9, "test", "(I)I"⟩
abbrev cX9_node : ByteArray := prog_11_method_71_code
def yX9_node : MethodName := ⟨RX9, "node", "(II)I"⟩
abbrev cX9_own : ByteArray := prog_11_method_72_code
def yX9_own : MethodName := ⟨RX9, "own", "(II)Z"⟩
abbrev cX9_forgets : ByteArray := prog_11_method_73_code
def yX9_forgets : MethodName := ⟨RX9, "forgets", "()V"⟩
abbrev cX9_isAttribute : ByteArray := prog_11_method_74_code
def yX9_isAttribute : MethodName := ⟨RX9, "isAttribute", "(II)Z"⟩
abbrev cX9_tellerOf : ByteArray := prog_11_method_75_code
def yX9_tellerOf : MethodName := ⟨RX9, "tellerOf", "(I)I"⟩
abbrev cX9_equationOf : ByteArray := prog_11_method_76_code
def yX9_equationOf : MethodName := ⟨RX9, "equationOf", "(I)I"⟩
abbrev cX9_namedBy : ByteArray := prog_11_method_77_code
def yX9_namedBy : MethodName := ⟨RX9, "namedBy", "(II)I"⟩
abbrev cX9_demand : ByteArray := prog_11_method_78_code
def yX9_demand : MethodName := ⟨RX9, "demand", "(II)I"⟩
abbrev cX9_waitsOn : ByteArray := prog_11_method_79_code
def yX9_waitsOn : MethodName := ⟨RX9, "waitsOn", "(I)V"⟩
abbrev cX9_value : ByteArray := prog_11_method_80_code
def yX9_value : MethodName := ⟨RX9, "value", "(IZ)V"⟩
abbrev cX9_works : ByteArray := prog_11_method_81_code
def yX9_works : MethodName := ⟨RX9, "works", "(II)V"⟩
abbrev cX9_does : ByteArray := prog_11_method_82_code
def yX9_does : MethodName := ⟨RX9, "does", "(II)I"⟩
abbrev cX9_signed : ByteArray := prog_11_method_83_code
def yX9_signed : MethodName := ⟨RX9, "signed", "(I)V"⟩
abbrev cX9_value_ : ByteArray := prog_11_method_84_code
def yX9_value_ : MethodName := ⟨RX9, "value", "(III)I"⟩
abbrev cX9_order_ : ByteArray := prog_11_method_85_code
def yX9_order_ : MethodName := ⟨RX9, "order", "(I)I"⟩
abbrev cX9_about : ByteArray := prog_11_method_86_code
def yX9_about : MethodName := ⟨RX9, "about", "(I)I"⟩
def RJ9 : String := "java/lang/Math"
def TJ9 : u_T := fun k => match k with
  | _ => ("", "", "", false)
def tyJ9 : Nat → FieldType := fun k => match k with
  | _ => .int
def RL : String := "AttributeDeskLaw"
abbrev cL_law : ByteArray := code
def yL_law : MethodName := ⟨RL, "law", "([I)Z"⟩
abbrev vwCl : List vw_C := [(RX0, TX0, 11), (RX1, TX1, 18), (RX2, TX2, 7), (RX3, TX3, 7), (RX4, TX4, 6), (RX5, TX5, 7), (RX6, TX6, 15), (RX7, TX7, 14), (RX8, TX8, 13), (RX9, TX9, 80)]
end
section
/-- a private method of a class that the tables say can be made, by its rows of tables_1 -/
def lw_okq (q : MethodName × Nat) : Prop := (q.1.cls ≠ "java/lang/invoke/MethodHandle" ∧ q.1.cls ≠ "java/lang/invoke/VarHandle") ∧ Cond.instantiable q.1.cls q.2 ∈ tables_1 ∧ Cond.privateMethod q.1 ∈ tables_1 ∧ Cond.instanceMethod q.1 ∈ tables_1
theorem ta_1 : ∀ w ∈ tables_1_1, w ∈ tables_1 := fun _ h => List.mem_append_left _ h
theorem ta_2 : ∀ w ∈ tables_1_2, w ∈ tables_1 := fun _ h => List.mem_append_right _ (List.mem_append_left _ h)
theorem ta_3 : ∀ w ∈ tables_1_3, w ∈ tables_1 := fun _ h => List.mem_append_right _ (List.mem_append_right _ (List.mem_append_left _ h))
theorem ta_4 : ∀ w ∈ tables_1_4, w ∈ tables_1 := fun _ h => List.mem_append_right _ (List.mem_append_right _ (List.mem_append_right _ (List.mem_append_left _ h)))
theorem ta_5 : ∀ w ∈ tables_1_5, w ∈ tables_1 := fun _ h => List.mem_append_right _ (List.mem_append_right _ (List.mem_append_right _ (List.mem_append_right _ (List.mem_append_left _ h))))
theorem ta_6 : ∀ w ∈ tables_1_6, w ∈ tables_1 := fun _ h => List.mem_append_right _ (List.mem_append_right _ (List.mem_append_right _ (List.mem_append_right _ (List.mem_append_right _ (List.mem_append_left _ h)))))
theorem ta_7 : ∀ w ∈ tables_1_7, w ∈ tables_1 := fun _ h => List.mem_append_right _ (List.mem_append_right _ (List.mem_append_right _ (List.mem_append_right _ (List.mem_append_right _ (List.mem_append_right _ h)))))
theorem lw_p0 : lw_okq (yX8_isItem, 13) := ⟨⟨by decide +kernel, by decide +kernel⟩, ta_1 _ (List.mem_of_getElem? (i := 13) rfl), ta_4 _ (List.mem_of_getElem? (i := 159) rfl), ta_4 _ (List.mem_of_getElem? (i := 160) rfl)⟩
theorem lw_p1 : lw_okq (yX8_isNode, 13) := ⟨⟨by decide +kernel, by decide +kernel⟩, ta_1 _ (List.mem_of_getElem? (i := 13) rfl), ta_4 _ (List.mem_of_getElem? (i := 142) rfl), ta_4 _ (List.mem_of_getElem? (i := 143) rfl)⟩
theorem lw_p2 : lw_okq (yX8_keepFault, 13) := ⟨⟨by decide +kernel, by decide +kernel⟩, ta_1 _ (List.mem_of_getElem? (i := 13) rfl), ta_3 _ (List.mem_of_getElem? (i := 208) rfl), ta_3 _ (List.mem_of_getElem? (i := 209) rfl)⟩
theorem lw_p3 : lw_okq (yX8_putWord, 13) := ⟨⟨by decide +kernel, by decide +kernel⟩, ta_1 _ (List.mem_of_getElem? (i := 13) rfl), ta_2 _ (List.mem_of_getElem? (i := 205) rfl), ta_2 _ (List.mem_of_getElem? (i := 206) rfl)⟩
theorem lw_p4 : lw_okq (yX2_goIf, 7) := ⟨⟨by decide +kernel, by decide +kernel⟩, ta_1 _ (List.mem_of_getElem? (i := 193) rfl), ta_3 _ (List.mem_of_getElem? (i := 151) rfl), ta_3 _ (List.mem_of_getElem? (i := 152) rfl)⟩
theorem lw_p5 : lw_okq (yX2_step, 7) := ⟨⟨by decide +kernel, by decide +kernel⟩, ta_1 _ (List.mem_of_getElem? (i := 193) rfl), ta_3 _ (List.mem_of_getElem? (i := 114) rfl), ta_3 _ (List.mem_of_getElem? (i := 115) rfl)⟩
theorem lw_p6 : lw_okq (yX2_symbolStep, 7) := ⟨⟨by decide +kernel, by decide +kernel⟩, ta_1 _ (List.mem_of_getElem? (i := 193) rfl), ta_3 _ (List.mem_of_getElem? (i := 118) rfl), ta_3 _ (List.mem_of_getElem? (i := 119) rfl)⟩
theorem lw_p7 : lw_okq (yX3_skipBlanks, 7) := ⟨⟨by decide +kernel, by decide +kernel⟩, ta_1 _ (List.mem_of_getElem? (i := 155) rfl), ta_2 _ (List.mem_of_getElem? (i := 236) rfl), ta_2 _ (List.mem_of_getElem? (i := 237) rfl)⟩
theorem lw_p8 : lw_okq (yX9_blanks, 80) := ⟨⟨by decide +kernel, by decide +kernel⟩, ta_4 _ (List.mem_of_getElem? (i := 237) rfl), ta_6 _ (List.mem_of_getElem? (i := 35) rfl), ta_6 _ (List.mem_of_getElem? (i := 36) rfl)⟩
theorem lw_p9 : lw_okq (yX9_fails, 80) := ⟨⟨by decide +kernel, by decide +kernel⟩, ta_4 _ (List.mem_of_getElem? (i := 237) rfl), ta_6 _ (List.mem_of_getElem? (i := 69) rfl), ta_6 _ (List.mem_of_getElem? (i := 70) rfl)⟩
theorem lw_p10 : lw_okq (yX9_isAttribute, 80) := ⟨⟨by decide +kernel, by decide +kernel⟩, ta_4 _ (List.mem_of_getElem? (i := 237) rfl), ta_7 _ (List.mem_of_getElem? (i := 65) rfl), ta_7 _ (List.mem_of_getElem? (i := 66) rfl)⟩
theorem lw_p11 : lw_okq (yX9_isWell, 80) := ⟨⟨by decide +kernel, by decide +kernel⟩, ta_4 _ (List.mem_of_getElem? (i := 237) rfl), ta_6 _ (List.mem_of_getElem? (i := 61) rfl), ta_6 _ (List.mem_of_getElem? (i := 62) rfl)⟩
theorem lw_p12 : lw_okq (yX9_isWord, 80) := ⟨⟨by decide +kernel, by decide +kernel⟩, ta_4 _ (List.mem_of_getElem? (i := 237) rfl), ta_6 _ (List.mem_of_getElem? (i := 57) rfl), ta_6 _ (List.mem_of_getElem? (i := 58) rfl)⟩
theorem lw_p13 : lw_okq (yX9_next, 80) := ⟨⟨by decide +kernel, by decide +kernel⟩, ta_4 _ (List.mem_of_getElem? (i := 237) rfl), ta_6 _ (List.mem_of_getElem? (i := 31) rfl), ta_6 _ (List.mem_of_getElem? (i := 32) rfl)⟩
theorem lw_p14 : lw_okq (yX9_put, 80) := ⟨⟨by decide +kernel, by decide +kernel⟩, ta_4 _ (List.mem_of_getElem? (i := 237) rfl), ta_6 _ (List.mem_of_getElem? (i := 8) rfl), ta_6 _ (List.mem_of_getElem? (i := 9) rfl)⟩
theorem lw_p15 : lw_okq (yX9_reads, 80) := ⟨⟨by decide +kernel, by decide +kernel⟩, ta_4 _ (List.mem_of_getElem? (i := 237) rfl), ta_6 _ (List.mem_of_getElem? (i := 27) rfl), ta_6 _ (List.mem_of_getElem? (i := 28) rfl)⟩
theorem lw_p16 : lw_okq (yX9_stray, 80) := ⟨⟨by decide +kernel, by decide +kernel⟩, ta_4 _ (List.mem_of_getElem? (i := 237) rfl), ta_6 _ (List.mem_of_getElem? (i := 65) rfl), ta_6 _ (List.mem_of_getElem? (i := 66) rfl)⟩
theorem lw_p17 : lw_okq (yX9_takesTape, 80) := ⟨⟨by decide +kernel, by decide +kernel⟩, ta_4 _ (List.mem_of_getElem? (i := 237) rfl), ta_6 _ (List.mem_of_getElem? (i := 23) rfl), ta_6 _ (List.mem_of_getElem? (i := 24) rfl)⟩
def lw_privs : List (MethodName × Nat) := [(yX8_isItem, 13), (yX8_isNode, 13), (yX8_keepFault, 13), (yX8_putWord, 13), (yX2_goIf, 7), (yX2_step, 7), (yX2_symbolStep, 7), (yX3_skipBlanks, 7), (yX9_blanks, 80), (yX9_fails, 80), (yX9_isAttribute, 80), (yX9_isWell, 80), (yX9_isWord, 80), (yX9_next, 80), (yX9_put, 80), (yX9_reads, 80), (yX9_stray, 80), (yX9_takesTape, 80)]
def lw_tbl : List Cond := k2_sels lw_privs ++ tables_1
set_option maxRecDepth 20000 in
theorem lw_privs_ok : ∀ q ∈ lw_privs, lw_okq q := List.forall_mem_cons.mpr ⟨lw_p0, List.forall_mem_cons.mpr ⟨lw_p1, List.forall_mem_cons.mpr ⟨lw_p2, List.forall_mem_cons.mpr ⟨lw_p3, List.forall_mem_cons.mpr ⟨lw_p4, List.forall_mem_cons.mpr ⟨lw_p5, List.forall_mem_cons.mpr ⟨lw_p6, List.forall_mem_cons.mpr ⟨lw_p7, List.forall_mem_cons.mpr ⟨lw_p8, List.forall_mem_cons.mpr ⟨lw_p9, List.forall_mem_cons.mpr ⟨lw_p10, List.forall_mem_cons.mpr ⟨lw_p11, List.forall_mem_cons.mpr ⟨lw_p12, List.forall_mem_cons.mpr ⟨lw_p13, List.forall_mem_cons.mpr ⟨lw_p14, List.forall_mem_cons.mpr ⟨lw_p15, List.forall_mem_cons.mpr ⟨lw_p16, List.forall_mem_cons.mpr ⟨lw_p17, fun _ h => absurd h List.not_mem_nil⟩⟩⟩⟩⟩⟩⟩⟩⟩⟩⟩⟩⟩⟩⟩⟩⟩⟩
/-- the words that any caller can hand to any method: those of the tables that stay what they are -/
theorem lwG_ex : ∃ G : List Cond, ∀ w : Cond, w ∈ G ↔ (w ∈ lw_tbl ∧ goodWord w = true) := ⟨lw_tbl.filter goodWord, fun _ => List.mem_filter⟩
noncomputable def lw_G : List Cond := Classical.choose lwG_ex
theorem lwG_iff (w : Cond) : w ∈ lw_G ↔ (w ∈ lw_tbl ∧ goodWord w = true) := Classical.choose_spec lwG_ex w
theorem lwG {w : Cond} {l : List Cond} (h : ∀ w ∈ l, w ∈ lw_tbl) (m : w ∈ l) (g : goodWord w = true) : w ∈ lw_G := (lwG_iff w).mpr ⟨h _ m, g⟩
theorem lwG_good {w : Cond} (h : w ∈ lw_G) : (w.onTables && w.keeps) = true ∨ ∃ ty, w = .arrayClass ty := good_of_word ((lwG_iff w).mp h).2
theorem tb_1 : ∀ w ∈ tables_1_1, w ∈ lw_tbl := fun w h => List.mem_append_right _ (ta_1 w h)
theorem tb_2 : ∀ w ∈ tables_1_2, w ∈ lw_tbl := fun w h => List.mem_append_right _ (ta_2 w h)
theorem tb_3 : ∀ w ∈ tables_1_3, w ∈ lw_tbl := fun w h => List.mem_append_right _ (ta_3 w h)
theorem tb_4 : ∀ w ∈ tables_1_4, w ∈ lw_tbl := fun w h => List.mem_append_right _ (ta_4 w h)
theorem tb_5 : ∀ w ∈ tables_1_5, w ∈ lw_tbl := fun w h => List.mem_append_right _ (ta_5 w h)
theorem tb_6 : ∀ w ∈ tables_1_6, w ∈ lw_tbl := fun w h => List.mem_append_right _ (ta_6 w h)
theorem tb_7 : ∀ w ∈ tables_1_7, w ∈ lw_tbl := fun w h => List.mem_append_right _ (ta_7 w h)
theorem gw_1_1 : Cond.initialized RX8 ∈ lw_G := lwG tb_1 (List.mem_of_getElem? (i := 1) rfl) rfl
theorem gw_1_2 : Cond.initialized RX1 ∈ lw_G := lwG tb_1 (List.mem_of_getElem? (i := 2) rfl) rfl
theorem gw_1_3 : Cond.initialized RX4 ∈ lw_G := lwG tb_1 (List.mem_of_getElem? (i := 3) rfl) rfl
theorem gw_1_4 : Cond.initialized RX3 ∈ lw_G := lwG tb_1 (List.mem_of_getElem? (i := 4) rfl) rfl
theorem gw_1_5 : Cond.initialized RX2 ∈ lw_G := lwG tb_1 (List.mem_of_getElem? (i := 5) rfl) rfl
theorem gw_1_6 : Cond.initialized RX0 ∈ lw_G := lwG tb_1 (List.mem_of_getElem? (i := 6) rfl) rfl
theorem gw_1_7 : Cond.initialized RX5 ∈ lw_G := lwG tb_1 (List.mem_of_getElem? (i := 7) rfl) rfl
theorem gw_1_8 : Cond.initialized RX6 ∈ lw_G := lwG tb_1 (List.mem_of_getElem? (i := 8) rfl) rfl
theorem gw_1_9 : Cond.initialized RX7 ∈ lw_G := lwG tb_1 (List.mem_of_getElem? (i := 9) rfl) rfl
theorem gw_1_10 : Cond.initialized RX9 ∈ lw_G := lwG tb_1 (List.mem_of_getElem? (i := 10) rfl) rfl
theorem gw_1_11 : Cond.initialized "java/lang/Math" ∈ lw_G := lwG tb_1 (List.mem_of_getElem? (i := 11) rfl) rfl
theorem gw_1_12 : Cond.classLink RL 7 RX8 ∈ lw_G := lwG tb_1 (List.mem_of_getElem? (i := 12) rfl) rfl
theorem gw_1_13 : Cond.instantiable RX8 13 ∈ lw_G := lwG tb_1 (List.mem_of_getElem? (i := 13) rfl) rfl
theorem gw_1_14 : Cond.methodLink RL 9 yX8_init ∈ lw_G := lwG tb_1 (List.mem_of_getElem? (i := 14) rfl) rfl
theorem gw_1_15 : Cond.instanceMethod yX8_init ∈ lw_G := lwG tb_1 (List.mem_of_getElem? (i := 15) rfl) rfl
theorem gw_1_16 : Cond.code yX8_init cX8_init 1 none ∈ lw_G := lwG tb_1 (List.mem_of_getElem? (i := 16) rfl) rfl
theorem gw_1_17 : Cond.methodLink RX8 3 objectInit ∈ lw_G := lwG tb_1 (List.mem_of_getElem? (i := 17) rfl) rfl
theorem gw_1_18 : Cond.instanceMethod objectInit ∈ lw_G := lwG tb_1 (List.mem_of_getElem? (i := 18) rfl) rfl
theorem gw_1_19 : Cond.code objectInit ⟨#[0xb1]⟩ 1 none ∈ lw_G := lwG tb_1 (List.mem_of_getElem? (i := 19) rfl) rfl
theorem gw_1_20 : Cond.classLink RX8 17 RX1 ∈ lw_G := lwG tb_1 (List.mem_of_getElem? (i := 20) rfl) rfl
theorem gw_1_21 : Cond.instantiable RX1 18 ∈ lw_G := lwG tb_1 (List.mem_of_getElem? (i := 21) rfl) rfl
theorem gw_1_23 : Cond.instanceMethod yX1_init ∈ lw_G := lwG tb_1 (List.mem_of_getElem? (i := 23) rfl) rfl
theorem gw_1_24 : Cond.code yX1_init cX1_init 1 none ∈ lw_G := lwG tb_1 (List.mem_of_getElem? (i := 24) rfl) rfl
theorem gw_1_25 : Cond.methodLink RX1 3 objectInit ∈ lw_G := lwG tb_1 (List.mem_of_getElem? (i := 25) rfl) rfl
theorem gw_1_26 : Cond.fieldLink RX1 9 "AttributeDesk$Grammar" "symbolCount" "I" ∈ lw_G := lwG tb_1 (List.mem_of_getElem? (i := 26) rfl) rfl
theorem gw_1_28 : Cond.fieldLink RX8 114 "AttributeDesk$Grammar" "symbolCount" "I" ∈ lw_G := lwG tb_1 (List.mem_of_getElem? (i := 28) rfl) rfl
theorem gw_1_30 : Cond.fieldLink RX1 15 "AttributeDesk$Grammar" "symbolNames" "[J" ∈ lw_G := lwG tb_1 (List.mem_of_getElem? (i := 30) rfl) rfl
theorem gw_1_31 : Cond.fieldLink RX1 19 "AttributeDesk$Grammar" "attributeCounts" "[I" ∈ lw_G := lwG tb_1 (List.mem_of_getElem? (i := 31) rfl) rfl
theorem gw_1_35 : Cond.fieldLink RX1 23 "AttributeDesk$Grammar" "inheritedCounts" "[I" ∈ lw_G := lwG tb_1 (List.mem_of_getElem? (i := 35) rfl) rfl
theorem gw_1_38 : Cond.fieldLink RX1 26 "AttributeDesk$Grammar" "attributeNames" "[J" ∈ lw_G := lwG tb_1 (List.mem_of_getElem? (i := 38) rfl) rfl
theorem gw_1_39 : Cond.fieldLink RX1 29 "AttributeDesk$Grammar" "inherited" "[Z" ∈ lw_G := lwG tb_1 (List.mem_of_getElem? (i := 39) rfl) rfl
theorem gw_1_40 : Cond.fieldLink RX1 33 "AttributeDesk$Grammar" "ranks" "[I" ∈ lw_G := lwG tb_1 (List.mem_of_getElem? (i := 40) rfl) rfl
theorem gw_1_41 : Cond.fieldLink RX1 36 "AttributeDesk$Grammar" "ruleCount" "I" ∈ lw_G := lwG tb_1 (List.mem_of_getElem? (i := 41) rfl) rfl
theorem gw_1_43 : Cond.fieldLink RX8 108 "AttributeDesk$Grammar" "ruleCount" "I" ∈ lw_G := lwG tb_1 (List.mem_of_getElem? (i := 43) rfl) rfl
theorem gw_1_45 : Cond.fieldLink RX1 39 "AttributeDesk$Grammar" "ruleNames" "[J" ∈ lw_G := lwG tb_1 (List.mem_of_getElem? (i := 45) rfl) rfl
theorem gw_1_46 : Cond.fieldLink RX1 42 "AttributeDesk$Grammar" "ruleSymbols" "[I" ∈ lw_G := lwG tb_1 (List.mem_of_getElem? (i := 46) rfl) rfl
theorem gw_1_48 : Cond.fieldLink RX1 45 "AttributeDesk$Grammar" "childCounts" "[I" ∈ lw_G := lwG tb_1 (List.mem_of_getElem? (i := 48) rfl) rfl
theorem gw_1_54 : Cond.fieldLink RX1 48 "AttributeDesk$Grammar" "equationCounts" "[I" ∈ lw_G := lwG tb_1 (List.mem_of_getElem? (i := 54) rfl) rfl
theorem gw_1_57 : Cond.fieldLink RX1 51 "AttributeDesk$Grammar" "codeStarts" "[I" ∈ lw_G := lwG tb_1 (List.mem_of_getElem? (i := 57) rfl) rfl
theorem gw_1_61 : Cond.fieldLink RX1 54 "AttributeDesk$Grammar" "codeEnds" "[I" ∈ lw_G := lwG tb_1 (List.mem_of_getElem? (i := 61) rfl) rfl
theorem gw_1_64 : Cond.fieldLink RX1 57 "AttributeDesk$Grammar" "hangs" "[I" ∈ lw_G := lwG tb_1 (List.mem_of_getElem? (i := 64) rfl) rfl
theorem gw_1_67 : Cond.fieldLink RX1 60 "AttributeDesk$Grammar" "operations" "[I" ∈ lw_G := lwG tb_1 (List.mem_of_getElem? (i := 67) rfl) rfl
theorem gw_1_69 : Cond.fieldLink RX1 63 "AttributeDesk$Grammar" "operands" "[I" ∈ lw_G := lwG tb_1 (List.mem_of_getElem? (i := 69) rfl) rfl
theorem gw_1_71 : Cond.fieldLink RX1 66 "AttributeDesk$Grammar" "codeSize" "I" ∈ lw_G := lwG tb_1 (List.mem_of_getElem? (i := 71) rfl) rfl
theorem gw_1_73 : Cond.lays RX1 "AttributeDesk$Grammar" "symbolCount" "I" ∈ lw_G := lwG tb_1 (List.mem_of_getElem? (i := 73) rfl) rfl
theorem gw_1_75 : Cond.laysFinal RX1 "AttributeDesk$Grammar" "symbolNames" "[J" ∈ lw_G := lwG tb_1 (List.mem_of_getElem? (i := 75) rfl) rfl
theorem gw_1_77 : Cond.laysFinal RX1 "AttributeDesk$Grammar" "attributeCounts" "[I" ∈ lw_G := lwG tb_1 (List.mem_of_getElem? (i := 77) rfl) rfl
theorem gw_1_79 : Cond.laysFinal RX1 "AttributeDesk$Grammar" "inheritedCounts" "[I" ∈ lw_G := lwG tb_1 (List.mem_of_getElem? (i := 79) rfl) rfl
theorem gw_1_81 : Cond.laysFinal RX1 "AttributeDesk$Grammar" "attributeNames" "[J" ∈ lw_G := lwG tb_1 (List.mem_of_getElem? (i := 81) rfl) rfl
theorem gw_1_83 : Cond.laysFinal RX1 "AttributeDesk$Grammar" "inherited" "[Z" ∈ lw_G := lwG tb_1 (List.mem_of_getElem? (i := 83) rfl) rfl
theorem gw_1_85 : Cond.laysFinal RX1 "AttributeDesk$Grammar" "ranks" "[I" ∈ lw_G := lwG tb_1 (List.mem_of_getElem? (i := 85) rfl) rfl
theorem gw_1_87 : Cond.lays RX1 "AttributeDesk$Grammar" "ruleCount" "I" ∈ lw_G := lwG tb_1 (List.mem_of_getElem? (i := 87) rfl) rfl
theorem gw_1_89 : Cond.laysFinal RX1 "AttributeDesk$Grammar" "ruleNames" "[J" ∈ lw_G := lwG tb_1 (List.mem_of_getElem? (i := 89) rfl) rfl
theorem gw_1_91 : Cond.laysFinal RX1 "AttributeDesk$Grammar" "ruleSymbols" "[I" ∈ lw_G := lwG tb_1 (List.mem_of_getElem? (i := 91) rfl) rfl
theorem gw_1_93 : Cond.laysFinal RX1 "AttributeDesk$Grammar" "childCounts" "[I" ∈ lw_G := lwG tb_1 (List.mem_of_getElem? (i := 93) rfl) rfl
theorem gw_1_95 : Cond.laysFinal RX1 "AttributeDesk$Grammar" "equationCounts" "[I" ∈ lw_G := lwG tb_1 (List.mem_of_getElem? (i := 95) rfl) rfl
theorem gw_1_97 : Cond.laysFinal RX1 "AttributeDesk$Grammar" "codeStarts" "[I" ∈ lw_G := lwG tb_1 (List.mem_of_getElem? (i := 97) rfl) rfl
theorem gw_1_99 : Cond.laysFinal RX1 "AttributeDesk$Grammar" "codeEnds" "[I" ∈ lw_G := lwG tb_1 (List.mem_of_getElem? (i := 99) rfl) rfl
theorem gw_1_101 : Cond.laysFinal RX1 "AttributeDesk$Grammar" "hangs" "[I" ∈ lw_G := lwG tb_1 (List.mem_of_getElem? (i := 101) rfl) rfl
theorem gw_1_103 : Cond.laysFinal RX1 "AttributeDesk$Grammar" "operations" "[I" ∈ lw_G := lwG tb_1 (List.mem_of_getElem? (i := 103) rfl) rfl
theorem gw_1_105 : Cond.laysFinal RX1 "AttributeDesk$Grammar" "operands" "[I" ∈ lw_G := lwG tb_1 (List.mem_of_getElem? (i := 105) rfl) rfl
theorem gw_1_107 : Cond.lays RX1 "AttributeDesk$Grammar" "codeSize" "I" ∈ lw_G := lwG tb_1 (List.mem_of_getElem? (i := 107) rfl) rfl
theorem gw_1_110 : Cond.arrayClass .byte ∈ lw_G := lwG tb_1 (List.mem_of_getElem? (i := 110) rfl) rfl
theorem gw_1_111 : Cond.arrayClass .long ∈ lw_G := lwG tb_1 (List.mem_of_getElem? (i := 111) rfl) rfl
theorem gw_1_112 : Cond.arrayClass .int ∈ lw_G := lwG tb_1 (List.mem_of_getElem? (i := 112) rfl) rfl
theorem gw_1_113 : Cond.arrayClass .boolean ∈ lw_G := lwG tb_1 (List.mem_of_getElem? (i := 113) rfl) rfl
theorem gw_1_114 : Cond.classLink RX8 27 RX4 ∈ lw_G := lwG tb_1 (List.mem_of_getElem? (i := 114) rfl) rfl
theorem gw_1_115 : Cond.instantiable RX4 6 ∈ lw_G := lwG tb_1 (List.mem_of_getElem? (i := 115) rfl) rfl
theorem gw_1_117 : Cond.instanceMethod yX4_init ∈ lw_G := lwG tb_1 (List.mem_of_getElem? (i := 117) rfl) rfl
theorem gw_1_118 : Cond.code yX4_init cX4_init 1 none ∈ lw_G := lwG tb_1 (List.mem_of_getElem? (i := 118) rfl) rfl
theorem gw_1_119 : Cond.methodLink RX4 3 objectInit ∈ lw_G := lwG tb_1 (List.mem_of_getElem? (i := 119) rfl) rfl
theorem gw_1_120 : Cond.fieldLink RX4 9 "AttributeDesk$Tree" "size" "I" ∈ lw_G := lwG tb_1 (List.mem_of_getElem? (i := 120) rfl) rfl
theorem gw_1_122 : Cond.fieldLink RX8 99 "AttributeDesk$Tree" "size" "I" ∈ lw_G := lwG tb_1 (List.mem_of_getElem? (i := 122) rfl) rfl
theorem gw_1_123 : Cond.fieldLink RX4 15 "AttributeDesk$Tree" "rules" "[I" ∈ lw_G := lwG tb_1 (List.mem_of_getElem? (i := 123) rfl) rfl
theorem gw_1_127 : Cond.fieldLink RX4 19 "AttributeDesk$Tree" "above" "[I" ∈ lw_G := lwG tb_1 (List.mem_of_getElem? (i := 127) rfl) rfl
theorem gw_1_131 : Cond.fieldLink RX4 22 "AttributeDesk$Tree" "places" "[I" ∈ lw_G := lwG tb_1 (List.mem_of_getElem? (i := 131) rfl) rfl
theorem gw_1_135 : Cond.fieldLink RX4 25 "AttributeDesk$Tree" "owns" "[I" ∈ lw_G := lwG tb_1 (List.mem_of_getElem? (i := 135) rfl) rfl
theorem gw_1_139 : Cond.fieldLink RX4 28 "AttributeDesk$Tree" "children" "[I" ∈ lw_G := lwG tb_1 (List.mem_of_getElem? (i := 139) rfl) rfl
theorem gw_1_141 : Cond.lays RX4 "AttributeDesk$Tree" "size" "I" ∈ lw_G := lwG tb_1 (List.mem_of_getElem? (i := 141) rfl) rfl
theorem gw_1_143 : Cond.laysFinal RX4 "AttributeDesk$Tree" "rules" "[I" ∈ lw_G := lwG tb_1 (List.mem_of_getElem? (i := 143) rfl) rfl
theorem gw_1_145 : Cond.laysFinal RX4 "AttributeDesk$Tree" "above" "[I" ∈ lw_G := lwG tb_1 (List.mem_of_getElem? (i := 145) rfl) rfl
theorem gw_1_147 : Cond.laysFinal RX4 "AttributeDesk$Tree" "places" "[I" ∈ lw_G := lwG tb_1 (List.mem_of_getElem? (i := 147) rfl) rfl
theorem gw_1_149 : Cond.laysFinal RX4 "AttributeDesk$Tree" "owns" "[I" ∈ lw_G := lwG tb_1 (List.mem_of_getElem? (i := 149) rfl) rfl
theorem gw_1_151 : Cond.laysFinal RX4 "AttributeDesk$Tree" "children" "[I" ∈ lw_G := lwG tb_1 (List.mem_of_getElem? (i := 151) rfl) rfl
theorem gw_1_154 : Cond.classLink RX8 37 RX3 ∈ lw_G := lwG tb_1 (List.mem_of_getElem? (i := 154) rfl) rfl
theorem gw_1_155 : Cond.instantiable RX3 7 ∈ lw_G := lwG tb_1 (List.mem_of_getElem? (i := 155) rfl) rfl
theorem gw_1_156 : Cond.methodLink RX8 39 yX3_init ∈ lw_G := lwG tb_1 (List.mem_of_getElem? (i := 156) rfl) rfl
theorem gw_1_157 : Cond.instanceMethod yX3_init ∈ lw_G := lwG tb_1 (List.mem_of_getElem? (i := 157) rfl) rfl
theorem gw_1_158 : Cond.code yX3_init cX3_init 2 none ∈ lw_G := lwG tb_1 (List.mem_of_getElem? (i := 158) rfl) rfl
theorem gw_1_159 : Cond.methodLink RX3 3 objectInit ∈ lw_G := lwG tb_1 (List.mem_of_getElem? (i := 159) rfl) rfl
theorem gw_1_160 : Cond.fieldLink RX3 31 "AttributeDesk$Tokens" "text" "[B" ∈ lw_G := lwG tb_1 (List.mem_of_getElem? (i := 160) rfl) rfl
theorem gw_1_161 : Cond.fieldLink RX3 9 "AttributeDesk$Tokens" "size" "I" ∈ lw_G := lwG tb_1 (List.mem_of_getElem? (i := 161) rfl) rfl
theorem gw_1_162 : Cond.fieldLink RX3 15 "AttributeDesk$Tokens" "behind" "I" ∈ lw_G := lwG tb_1 (List.mem_of_getElem? (i := 162) rfl) rfl
theorem gw_1_163 : Cond.fieldLink RX3 18 "AttributeDesk$Tokens" "kind" "I" ∈ lw_G := lwG tb_1 (List.mem_of_getElem? (i := 163) rfl) rfl
theorem gw_1_166 : Cond.fieldLink RX2 73 "AttributeDesk$Tokens" "kind" "I" ∈ lw_G := lwG tb_1 (List.mem_of_getElem? (i := 166) rfl) rfl
theorem gw_1_167 : Cond.fieldLink RX3 21 "AttributeDesk$Tokens" "at" "I" ∈ lw_G := lwG tb_1 (List.mem_of_getElem? (i := 167) rfl) rfl
theorem gw_1_168 : Cond.fieldLink RX8 209 "AttributeDesk$Tokens" "at" "I" ∈ lw_G := lwG tb_1 (List.mem_of_getElem? (i := 168) rfl) rfl
theorem gw_1_169 : Cond.fieldLink RX3 24 "AttributeDesk$Tokens" "name" "J" ∈ lw_G := lwG tb_1 (List.mem_of_getElem? (i := 169) rfl) rfl
theorem gw_1_173 : Cond.fieldLink RX3 28 "AttributeDesk$Tokens" "number" "J" ∈ lw_G := lwG tb_1 (List.mem_of_getElem? (i := 173) rfl) rfl
theorem gw_1_177 : Cond.laysFinal RX3 "AttributeDesk$Tokens" "text" "[B" ∈ lw_G := lwG tb_1 (List.mem_of_getElem? (i := 177) rfl) rfl
theorem gw_1_179 : Cond.lays RX3 "AttributeDesk$Tokens" "size" "I" ∈ lw_G := lwG tb_1 (List.mem_of_getElem? (i := 179) rfl) rfl
theorem gw_1_181 : Cond.lays RX3 "AttributeDesk$Tokens" "behind" "I" ∈ lw_G := lwG tb_1 (List.mem_of_getElem? (i := 181) rfl) rfl
theorem gw_1_183 : Cond.lays RX3 "AttributeDesk$Tokens" "kind" "I" ∈ lw_G := lwG tb_1 (List.mem_of_getElem? (i := 183) rfl) rfl
theorem gw_1_185 : Cond.lays RX3 "AttributeDesk$Tokens" "at" "I" ∈ lw_G := lwG tb_1 (List.mem_of_getElem? (i := 185) rfl) rfl
theorem gw_1_187 : Cond.lays RX3 "AttributeDesk$Tokens" "name" "J" ∈ lw_G := lwG tb_1 (List.mem_of_getElem? (i := 187) rfl) rfl
theorem gw_1_189 : Cond.lays RX3 "AttributeDesk$Tokens" "number" "J" ∈ lw_G := lwG tb_1 (List.mem_of_getElem? (i := 189) rfl) rfl
theorem gw_1_192 : Cond.classLink RX8 46 RX2 ∈ lw_G := lwG tb_1 (List.mem_of_getElem? (i := 192) rfl) rfl
theorem gw_1_193 : Cond.instantiable RX2 7 ∈ lw_G := lwG tb_1 (List.mem_of_getElem? (i := 193) rfl) rfl
theorem gw_1_194 : Cond.methodLink RX8 48 yX2_init ∈ lw_G := lwG tb_1 (List.mem_of_getElem? (i := 194) rfl) rfl
theorem gw_1_195 : Cond.instanceMethod yX2_init ∈ lw_G := lwG tb_1 (List.mem_of_getElem? (i := 195) rfl) rfl
theorem gw_1_196 : Cond.code yX2_init cX2_init 3 none ∈ lw_G := lwG tb_1 (List.mem_of_getElem? (i := 196) rfl) rfl
theorem gw_1_197 : Cond.methodLink RX2 3 objectInit ∈ lw_G := lwG tb_1 (List.mem_of_getElem? (i := 197) rfl) rfl
theorem gw_1_198 : Cond.classLink RX2 33 RX0 ∈ lw_G := lwG tb_1 (List.mem_of_getElem? (i := 198) rfl) rfl
theorem gw_1_199 : Cond.instantiable RX0 11 ∈ lw_G := lwG tb_1 (List.mem_of_getElem? (i := 199) rfl) rfl
theorem gw_1_200 : Cond.methodLink RX2 35 yX0_init ∈ lw_G := lwG tb_1 (List.mem_of_getElem? (i := 200) rfl) rfl
theorem gw_1_201 : Cond.instanceMethod yX0_init ∈ lw_G := lwG tb_1 (List.mem_of_getElem? (i := 201) rfl) rfl
theorem gw_1_202 : Cond.code yX0_init cX0_init 3 none ∈ lw_G := lwG tb_1 (List.mem_of_getElem? (i := 202) rfl) rfl
theorem gw_1_203 : Cond.methodLink RX0 3 objectInit ∈ lw_G := lwG tb_1 (List.mem_of_getElem? (i := 203) rfl) rfl
theorem gw_1_204 : Cond.fieldLink RX0 41 "AttributeDesk$ExpressionReader" "tokens" "LAttributeDesk$Tokens;" ∈ lw_G := lwG tb_1 (List.mem_of_getElem? (i := 204) rfl) rfl
theorem gw_1_205 : Cond.fieldLink RX0 45 "AttributeDesk$ExpressionReader" "grammar" "LAttributeDesk$Grammar;" ∈ lw_G := lwG tb_1 (List.mem_of_getElem? (i := 205) rfl) rfl
theorem gw_1_206 : Cond.fieldLink RX0 9 "AttributeDesk$ExpressionReader" "rule" "I" ∈ lw_G := lwG tb_1 (List.mem_of_getElem? (i := 206) rfl) rfl
theorem gw_1_207 : Cond.fieldLink RX0 15 "AttributeDesk$ExpressionReader" "target" "I" ∈ lw_G := lwG tb_1 (List.mem_of_getElem? (i := 207) rfl) rfl
theorem gw_1_208 : Cond.fieldLink RX0 18 "AttributeDesk$ExpressionReader" "state" "I" ∈ lw_G := lwG tb_1 (List.mem_of_getElem? (i := 208) rfl) rfl
theorem gw_1_209 : Cond.fieldLink RX0 21 "AttributeDesk$ExpressionReader" "tokenCount" "I" ∈ lw_G := lwG tb_1 (List.mem_of_getElem? (i := 209) rfl) rfl
theorem gw_1_210 : Cond.fieldLink RX0 24 "AttributeDesk$ExpressionReader" "occPlace" "I" ∈ lw_G := lwG tb_1 (List.mem_of_getElem? (i := 210) rfl) rfl
theorem gw_1_211 : Cond.fieldLink RX0 27 "AttributeDesk$ExpressionReader" "waiting" "[I" ∈ lw_G := lwG tb_1 (List.mem_of_getElem? (i := 211) rfl) rfl
theorem gw_1_212 : Cond.fieldLink RX0 31 "AttributeDesk$ExpressionReader" "waitingCount" "I" ∈ lw_G := lwG tb_1 (List.mem_of_getElem? (i := 212) rfl) rfl
theorem gw_1_213 : Cond.fieldLink RX0 34 "AttributeDesk$ExpressionReader" "openCount" "I" ∈ lw_G := lwG tb_1 (List.mem_of_getElem? (i := 213) rfl) rfl
theorem gw_1_214 : Cond.fieldLink RX0 37 "AttributeDesk$ExpressionReader" "isComplete" "Z" ∈ lw_G := lwG tb_1 (List.mem_of_getElem? (i := 214) rfl) rfl
theorem gw_1_216 : Cond.laysFinal RX0 "AttributeDesk$ExpressionReader" "tokens" "LAttributeDesk$Tokens;" ∈ lw_G := lwG tb_1 (List.mem_of_getElem? (i := 216) rfl) rfl
theorem gw_1_218 : Cond.lays RX0 "AttributeDesk$ExpressionReader" "grammar" "LAttributeDesk$Grammar;" ∈ lw_G := lwG tb_1 (List.mem_of_getElem? (i := 218) rfl) rfl
theorem gw_1_220 : Cond.lays RX0 "AttributeDesk$ExpressionReader" "rule" "I" ∈ lw_G := lwG tb_1 (List.mem_of_getElem? (i := 220) rfl) rfl
theorem gw_1_222 : Cond.lays RX0 "AttributeDesk$ExpressionReader" "target" "I" ∈ lw_G := lwG tb_1 (List.mem_of_getElem? (i := 222) rfl) rfl
theorem gw_1_224 : Cond.lays RX0 "AttributeDesk$ExpressionReader" "state" "I" ∈ lw_G := lwG tb_1 (List.mem_of_getElem? (i := 224) rfl) rfl
theorem gw_1_226 : Cond.lays RX0 "AttributeDesk$ExpressionReader" "tokenCount" "I" ∈ lw_G := lwG tb_1 (List.mem_of_getElem? (i := 226) rfl) rfl
theorem gw_1_228 : Cond.lays RX0 "AttributeDesk$ExpressionReader" "occPlace" "I" ∈ lw_G := lwG tb_1 (List.mem_of_getElem? (i := 228) rfl) rfl
theorem gw_1_230 : Cond.laysFinal RX0 "AttributeDesk$ExpressionReader" "waiting" "[I" ∈ lw_G := lwG tb_1 (List.mem_of_getElem? (i := 230) rfl) rfl
theorem gw_1_232 : Cond.lays RX0 "AttributeDesk$ExpressionReader" "waitingCount" "I" ∈ lw_G := lwG tb_1 (List.mem_of_getElem? (i := 232) rfl) rfl
theorem gw_1_234 : Cond.lays RX0 "AttributeDesk$ExpressionReader" "openCount" "I" ∈ lw_G := lwG tb_1 (List.mem_of_getElem? (i := 234) rfl) rfl
theorem gw_1_236 : Cond.lays RX0 "AttributeDesk$ExpressionReader" "isComplete" "Z" ∈ lw_G := lwG tb_1 (List.mem_of_getElem? (i := 236) rfl) rfl
theorem gw_1_239 : Cond.fieldLink RX2 25 "AttributeDesk$GrammarReader" "tokens" "LAttributeDesk$Tokens;" ∈ lw_G := lwG tb_1 (List.mem_of_getElem? (i := 239) rfl) rfl
theorem gw_2_0 : Cond.fieldLink RX2 38 "AttributeDesk$GrammarReader" "expression" "LAttributeDesk$ExpressionReader;" ∈ lw_G := lwG tb_2 (List.mem_of_getElem? (i := 0) rfl) rfl
theorem gw_2_1 : Cond.fieldLink RX2 29 "AttributeDesk$GrammarReader" "grammar" "LAttributeDesk$Grammar;" ∈ lw_G := lwG tb_2 (List.mem_of_getElem? (i := 1) rfl) rfl
theorem gw_2_2 : Cond.fieldLink RX2 11 "AttributeDesk$GrammarReader" "state" "I" ∈ lw_G := lwG tb_2 (List.mem_of_getElem? (i := 2) rfl) rfl
theorem gw_2_3 : Cond.fieldLink RX2 15 "AttributeDesk$GrammarReader" "readsInherited" "Z" ∈ lw_G := lwG tb_2 (List.mem_of_getElem? (i := 3) rfl) rfl
theorem gw_2_4 : Cond.fieldLink RX2 19 "AttributeDesk$GrammarReader" "targetPlace" "I" ∈ lw_G := lwG tb_2 (List.mem_of_getElem? (i := 4) rfl) rfl
theorem gw_2_5 : Cond.fieldLink RX2 22 "AttributeDesk$GrammarReader" "targetSpot" "I" ∈ lw_G := lwG tb_2 (List.mem_of_getElem? (i := 5) rfl) rfl
theorem gw_2_6 : Cond.laysFinal RX2 "AttributeDesk$GrammarReader" "tokens" "LAttributeDesk$Tokens;" ∈ lw_G := lwG tb_2 (List.mem_of_getElem? (i := 6) rfl) rfl
theorem gw_2_8 : Cond.laysFinal RX2 "AttributeDesk$GrammarReader" "expression" "LAttributeDesk$ExpressionReader;" ∈ lw_G := lwG tb_2 (List.mem_of_getElem? (i := 8) rfl) rfl
theorem gw_2_10 : Cond.lays RX2 "AttributeDesk$GrammarReader" "grammar" "LAttributeDesk$Grammar;" ∈ lw_G := lwG tb_2 (List.mem_of_getElem? (i := 10) rfl) rfl
theorem gw_2_12 : Cond.lays RX2 "AttributeDesk$GrammarReader" "state" "I" ∈ lw_G := lwG tb_2 (List.mem_of_getElem? (i := 12) rfl) rfl
theorem gw_2_14 : Cond.lays RX2 "AttributeDesk$GrammarReader" "readsInherited" "Z" ∈ lw_G := lwG tb_2 (List.mem_of_getElem? (i := 14) rfl) rfl
theorem gw_2_16 : Cond.lays RX2 "AttributeDesk$GrammarReader" "targetPlace" "I" ∈ lw_G := lwG tb_2 (List.mem_of_getElem? (i := 16) rfl) rfl
theorem gw_2_18 : Cond.lays RX2 "AttributeDesk$GrammarReader" "targetSpot" "I" ∈ lw_G := lwG tb_2 (List.mem_of_getElem? (i := 18) rfl) rfl
theorem gw_2_21 : Cond.classLink RX8 55 RX5 ∈ lw_G := lwG tb_2 (List.mem_of_getElem? (i := 21) rfl) rfl
theorem gw_2_22 : Cond.instantiable RX5 7 ∈ lw_G := lwG tb_2 (List.mem_of_getElem? (i := 22) rfl) rfl
theorem gw_2_23 : Cond.methodLink RX8 57 yX5_init ∈ lw_G := lwG tb_2 (List.mem_of_getElem? (i := 23) rfl) rfl
theorem gw_2_24 : Cond.instanceMethod yX5_init ∈ lw_G := lwG tb_2 (List.mem_of_getElem? (i := 24) rfl) rfl
theorem gw_2_25 : Cond.code yX5_init cX5_init 4 none ∈ lw_G := lwG tb_2 (List.mem_of_getElem? (i := 25) rfl) rfl
theorem gw_2_26 : Cond.methodLink RX5 3 objectInit ∈ lw_G := lwG tb_2 (List.mem_of_getElem? (i := 26) rfl) rfl
theorem gw_2_27 : Cond.fieldLink RX5 25 "AttributeDesk$TreeReader" "tokens" "LAttributeDesk$Tokens;" ∈ lw_G := lwG tb_2 (List.mem_of_getElem? (i := 27) rfl) rfl
theorem gw_2_28 : Cond.fieldLink RX5 29 "AttributeDesk$TreeReader" "grammar" "LAttributeDesk$Grammar;" ∈ lw_G := lwG tb_2 (List.mem_of_getElem? (i := 28) rfl) rfl
theorem gw_2_29 : Cond.fieldLink RX5 33 "AttributeDesk$TreeReader" "tree" "LAttributeDesk$Tree;" ∈ lw_G := lwG tb_2 (List.mem_of_getElem? (i := 29) rfl) rfl
theorem gw_2_30 : Cond.fieldLink RX5 11 "AttributeDesk$TreeReader" "state" "I" ∈ lw_G := lwG tb_2 (List.mem_of_getElem? (i := 30) rfl) rfl
theorem gw_2_31 : Cond.fieldLink RX5 15 "AttributeDesk$TreeReader" "here" "I" ∈ lw_G := lwG tb_2 (List.mem_of_getElem? (i := 31) rfl) rfl
theorem gw_2_32 : Cond.fieldLink RX5 18 "AttributeDesk$TreeReader" "depth" "I" ∈ lw_G := lwG tb_2 (List.mem_of_getElem? (i := 32) rfl) rfl
theorem gw_2_33 : Cond.fieldLink RX5 21 "AttributeDesk$TreeReader" "filled" "[I" ∈ lw_G := lwG tb_2 (List.mem_of_getElem? (i := 33) rfl) rfl
theorem gw_2_34 : Cond.laysFinal RX5 "AttributeDesk$TreeReader" "tokens" "LAttributeDesk$Tokens;" ∈ lw_G := lwG tb_2 (List.mem_of_getElem? (i := 34) rfl) rfl
theorem gw_2_36 : Cond.lays RX5 "AttributeDesk$TreeReader" "grammar" "LAttributeDesk$Grammar;" ∈ lw_G := lwG tb_2 (List.mem_of_getElem? (i := 36) rfl) rfl
theorem gw_2_38 : Cond.lays RX5 "AttributeDesk$TreeReader" "tree" "LAttributeDesk$Tree;" ∈ lw_G := lwG tb_2 (List.mem_of_getElem? (i := 38) rfl) rfl
theorem gw_2_40 : Cond.lays RX5 "AttributeDesk$TreeReader" "state" "I" ∈ lw_G := lwG tb_2 (List.mem_of_getElem? (i := 40) rfl) rfl
theorem gw_2_42 : Cond.lays RX5 "AttributeDesk$TreeReader" "here" "I" ∈ lw_G := lwG tb_2 (List.mem_of_getElem? (i := 42) rfl) rfl
theorem gw_2_44 : Cond.lays RX5 "AttributeDesk$TreeReader" "depth" "I" ∈ lw_G := lwG tb_2 (List.mem_of_getElem? (i := 44) rfl) rfl
theorem gw_2_46 : Cond.laysFinal RX5 "AttributeDesk$TreeReader" "filled" "[I" ∈ lw_G := lwG tb_2 (List.mem_of_getElem? (i := 46) rfl) rfl
theorem gw_2_49 : Cond.classLink RX8 64 RX6 ∈ lw_G := lwG tb_2 (List.mem_of_getElem? (i := 49) rfl) rfl
theorem gw_2_50 : Cond.instantiable RX6 15 ∈ lw_G := lwG tb_2 (List.mem_of_getElem? (i := 50) rfl) rfl
theorem gw_2_51 : Cond.methodLink RX8 66 yX6_init ∈ lw_G := lwG tb_2 (List.mem_of_getElem? (i := 51) rfl) rfl
theorem gw_2_52 : Cond.instanceMethod yX6_init ∈ lw_G := lwG tb_2 (List.mem_of_getElem? (i := 52) rfl) rfl
theorem gw_2_53 : Cond.code yX6_init cX6_init 2 none ∈ lw_G := lwG tb_2 (List.mem_of_getElem? (i := 53) rfl) rfl
theorem gw_2_54 : Cond.methodLink RX6 3 objectInit ∈ lw_G := lwG tb_2 (List.mem_of_getElem? (i := 54) rfl) rfl
theorem gw_2_55 : Cond.fieldLink RX6 9 "AttributeDesk$Ways" "plain" "[I" ∈ lw_G := lwG tb_2 (List.mem_of_getElem? (i := 55) rfl) rfl
theorem gw_2_57 : Cond.fieldLink RX6 15 "AttributeDesk$Ways" "plainRound" "[Z" ∈ lw_G := lwG tb_2 (List.mem_of_getElem? (i := 57) rfl) rfl
theorem gw_2_59 : Cond.fieldLink RX6 19 "AttributeDesk$Ways" "tooLarge" "Z" ∈ lw_G := lwG tb_2 (List.mem_of_getElem? (i := 59) rfl) rfl
theorem gw_2_61 : Cond.fieldLink RX6 23 "AttributeDesk$Ways" "graphs" "[I" ∈ lw_G := lwG tb_2 (List.mem_of_getElem? (i := 61) rfl) rfl
theorem gw_2_63 : Cond.fieldLink RX6 26 "AttributeDesk$Ways" "graphCounts" "[I" ∈ lw_G := lwG tb_2 (List.mem_of_getElem? (i := 63) rfl) rfl
theorem gw_2_65 : Cond.fieldLink RX6 29 "AttributeDesk$Ways" "exactRound" "[Z" ∈ lw_G := lwG tb_2 (List.mem_of_getElem? (i := 65) rfl) rfl
theorem gw_2_67 : Cond.fieldLink RX6 32 "AttributeDesk$Ways" "comes" "[Z" ∈ lw_G := lwG tb_2 (List.mem_of_getElem? (i := 67) rfl) rfl
theorem gw_2_69 : Cond.fieldLink RX6 56 "AttributeDesk$Ways" "grammar" "LAttributeDesk$Grammar;" ∈ lw_G := lwG tb_2 (List.mem_of_getElem? (i := 69) rfl) rfl
theorem gw_2_70 : Cond.fieldLink RX6 35 "AttributeDesk$Ways" "hasGraph" "[Z" ∈ lw_G := lwG tb_2 (List.mem_of_getElem? (i := 70) rfl) rfl
theorem gw_2_71 : Cond.fieldLink RX6 38 "AttributeDesk$Ways" "hasTree" "[Z" ∈ lw_G := lwG tb_2 (List.mem_of_getElem? (i := 71) rfl) rfl
theorem gw_2_72 : Cond.fieldLink RX6 41 "AttributeDesk$Ways" "isReached" "[Z" ∈ lw_G := lwG tb_2 (List.mem_of_getElem? (i := 72) rfl) rfl
theorem gw_2_73 : Cond.fieldLink RX6 44 "AttributeDesk$Ways" "rows" "[I" ∈ lw_G := lwG tb_2 (List.mem_of_getElem? (i := 73) rfl) rfl
theorem gw_2_74 : Cond.fieldLink RX6 47 "AttributeDesk$Ways" "taken" "[I" ∈ lw_G := lwG tb_2 (List.mem_of_getElem? (i := 74) rfl) rfl
theorem gw_2_75 : Cond.fieldLink RX6 50 "AttributeDesk$Ways" "firsts" "[I" ∈ lw_G := lwG tb_2 (List.mem_of_getElem? (i := 75) rfl) rfl
theorem gw_2_76 : Cond.fieldLink RX6 53 "AttributeDesk$Ways" "spans" "[I" ∈ lw_G := lwG tb_2 (List.mem_of_getElem? (i := 76) rfl) rfl
theorem gw_2_77 : Cond.laysFinal RX6 "AttributeDesk$Ways" "plain" "[I" ∈ lw_G := lwG tb_2 (List.mem_of_getElem? (i := 77) rfl) rfl
theorem gw_2_79 : Cond.laysFinal RX6 "AttributeDesk$Ways" "plainRound" "[Z" ∈ lw_G := lwG tb_2 (List.mem_of_getElem? (i := 79) rfl) rfl
theorem gw_2_81 : Cond.lays RX6 "AttributeDesk$Ways" "tooLarge" "Z" ∈ lw_G := lwG tb_2 (List.mem_of_getElem? (i := 81) rfl) rfl
theorem gw_2_83 : Cond.laysFinal RX6 "AttributeDesk$Ways" "graphs" "[I" ∈ lw_G := lwG tb_2 (List.mem_of_getElem? (i := 83) rfl) rfl
theorem gw_2_85 : Cond.laysFinal RX6 "AttributeDesk$Ways" "graphCounts" "[I" ∈ lw_G := lwG tb_2 (List.mem_of_getElem? (i := 85) rfl) rfl
theorem gw_2_87 : Cond.laysFinal RX6 "AttributeDesk$Ways" "exactRound" "[Z" ∈ lw_G := lwG tb_2 (List.mem_of_getElem? (i := 87) rfl) rfl
theorem gw_2_89 : Cond.laysFinal RX6 "AttributeDesk$Ways" "comes" "[Z" ∈ lw_G := lwG tb_2 (List.mem_of_getElem? (i := 89) rfl) rfl
theorem gw_2_91 : Cond.lays RX6 "AttributeDesk$Ways" "grammar" "LAttributeDesk$Grammar;" ∈ lw_G := lwG tb_2 (List.mem_of_getElem? (i := 91) rfl) rfl
theorem gw_2_93 : Cond.laysFinal RX6 "AttributeDesk$Ways" "hasGraph" "[Z" ∈ lw_G := lwG tb_2 (List.mem_of_getElem? (i := 93) rfl) rfl
theorem gw_2_95 : Cond.laysFinal RX6 "AttributeDesk$Ways" "hasTree" "[Z" ∈ lw_G := lwG tb_2 (List.mem_of_getElem? (i := 95) rfl) rfl
theorem gw_2_97 : Cond.laysFinal RX6 "AttributeDesk$Ways" "isReached" "[Z" ∈ lw_G := lwG tb_2 (List.mem_of_getElem? (i := 97) rfl) rfl
theorem gw_2_99 : Cond.laysFinal RX6 "AttributeDesk$Ways" "rows" "[I" ∈ lw_G := lwG tb_2 (List.mem_of_getElem? (i := 99) rfl) rfl
theorem gw_2_101 : Cond.laysFinal RX6 "AttributeDesk$Ways" "taken" "[I" ∈ lw_G := lwG tb_2 (List.mem_of_getElem? (i := 101) rfl) rfl
theorem gw_2_103 : Cond.laysFinal RX6 "AttributeDesk$Ways" "firsts" "[I" ∈ lw_G := lwG tb_2 (List.mem_of_getElem? (i := 103) rfl) rfl
theorem gw_2_105 : Cond.laysFinal RX6 "AttributeDesk$Ways" "spans" "[I" ∈ lw_G := lwG tb_2 (List.mem_of_getElem? (i := 105) rfl) rfl
theorem gw_2_108 : Cond.classLink RX8 73 RX7 ∈ lw_G := lwG tb_2 (List.mem_of_getElem? (i := 108) rfl) rfl
theorem gw_2_109 : Cond.instantiable RX7 14 ∈ lw_G := lwG tb_2 (List.mem_of_getElem? (i := 109) rfl) rfl
theorem gw_2_110 : Cond.methodLink RX8 75 yX7_init ∈ lw_G := lwG tb_2 (List.mem_of_getElem? (i := 110) rfl) rfl
theorem gw_2_111 : Cond.instanceMethod yX7_init ∈ lw_G := lwG tb_2 (List.mem_of_getElem? (i := 111) rfl) rfl
theorem gw_2_112 : Cond.code yX7_init cX7_init 3 none ∈ lw_G := lwG tb_2 (List.mem_of_getElem? (i := 112) rfl) rfl
theorem gw_2_113 : Cond.methodLink RX7 3 objectInit ∈ lw_G := lwG tb_2 (List.mem_of_getElem? (i := 113) rfl) rfl
theorem gw_2_114 : Cond.fieldLink RX7 9 "AttributeDesk$Worker" "numbers" "[I" ∈ lw_G := lwG tb_2 (List.mem_of_getElem? (i := 114) rfl) rfl
theorem gw_2_116 : Cond.fieldLink RX7 15 "AttributeDesk$Worker" "order" "[I" ∈ lw_G := lwG tb_2 (List.mem_of_getElem? (i := 116) rfl) rfl
theorem gw_2_118 : Cond.fieldLink RX7 18 "AttributeDesk$Worker" "orderSize" "I" ∈ lw_G := lwG tb_2 (List.mem_of_getElem? (i := 118) rfl) rfl
theorem gw_2_119 : Cond.fieldLink RX8 203 "AttributeDesk$Worker" "orderSize" "I" ∈ lw_G := lwG tb_2 (List.mem_of_getElem? (i := 119) rfl) rfl
theorem gw_2_120 : Cond.fieldLink RX7 50 "AttributeDesk$Worker" "grammar" "LAttributeDesk$Grammar;" ∈ lw_G := lwG tb_2 (List.mem_of_getElem? (i := 120) rfl) rfl
theorem gw_2_121 : Cond.fieldLink RX7 54 "AttributeDesk$Worker" "tree" "LAttributeDesk$Tree;" ∈ lw_G := lwG tb_2 (List.mem_of_getElem? (i := 121) rfl) rfl
theorem gw_2_122 : Cond.fieldLink RX7 22 "AttributeDesk$Worker" "states" "[I" ∈ lw_G := lwG tb_2 (List.mem_of_getElem? (i := 122) rfl) rfl
theorem gw_2_123 : Cond.fieldLink RX7 25 "AttributeDesk$Worker" "way" "[I" ∈ lw_G := lwG tb_2 (List.mem_of_getElem? (i := 123) rfl) rfl
theorem gw_2_124 : Cond.fieldLink RX7 28 "AttributeDesk$Worker" "bases" "[I" ∈ lw_G := lwG tb_2 (List.mem_of_getElem? (i := 124) rfl) rfl
theorem gw_2_125 : Cond.fieldLink RX7 31 "AttributeDesk$Worker" "equations" "[I" ∈ lw_G := lwG tb_2 (List.mem_of_getElem? (i := 125) rfl) rfl
theorem gw_2_126 : Cond.fieldLink RX7 34 "AttributeDesk$Worker" "codeAt" "[I" ∈ lw_G := lwG tb_2 (List.mem_of_getElem? (i := 126) rfl) rfl
theorem gw_2_127 : Cond.fieldLink RX7 37 "AttributeDesk$Worker" "wayLength" "I" ∈ lw_G := lwG tb_2 (List.mem_of_getElem? (i := 127) rfl) rfl
theorem gw_2_128 : Cond.fieldLink RX7 40 "AttributeDesk$Worker" "values" "[I" ∈ lw_G := lwG tb_2 (List.mem_of_getElem? (i := 128) rfl) rfl
theorem gw_2_129 : Cond.fieldLink RX7 43 "AttributeDesk$Worker" "bads" "[Z" ∈ lw_G := lwG tb_2 (List.mem_of_getElem? (i := 129) rfl) rfl
theorem gw_2_130 : Cond.fieldLink RX7 47 "AttributeDesk$Worker" "valueCount" "I" ∈ lw_G := lwG tb_2 (List.mem_of_getElem? (i := 130) rfl) rfl
theorem gw_2_131 : Cond.laysFinal RX7 "AttributeDesk$Worker" "numbers" "[I" ∈ lw_G := lwG tb_2 (List.mem_of_getElem? (i := 131) rfl) rfl
theorem gw_2_133 : Cond.laysFinal RX7 "AttributeDesk$Worker" "order" "[I" ∈ lw_G := lwG tb_2 (List.mem_of_getElem? (i := 133) rfl) rfl
theorem gw_2_135 : Cond.lays RX7 "AttributeDesk$Worker" "orderSize" "I" ∈ lw_G := lwG tb_2 (List.mem_of_getElem? (i := 135) rfl) rfl
theorem gw_2_137 : Cond.lays RX7 "AttributeDesk$Worker" "grammar" "LAttributeDesk$Grammar;" ∈ lw_G := lwG tb_2 (List.mem_of_getElem? (i := 137) rfl) rfl
theorem gw_2_139 : Cond.lays RX7 "AttributeDesk$Worker" "tree" "LAttributeDesk$Tree;" ∈ lw_G := lwG tb_2 (List.mem_of_getElem? (i := 139) rfl) rfl
theorem gw_2_141 : Cond.laysFinal RX7 "AttributeDesk$Worker" "states" "[I" ∈ lw_G := lwG tb_2 (List.mem_of_getElem? (i := 141) rfl) rfl
theorem gw_2_143 : Cond.laysFinal RX7 "AttributeDesk$Worker" "way" "[I" ∈ lw_G := lwG tb_2 (List.mem_of_getElem? (i := 143) rfl) rfl
theorem gw_2_145 : Cond.laysFinal RX7 "AttributeDesk$Worker" "bases" "[I" ∈ lw_G := lwG tb_2 (List.mem_of_getElem? (i := 145) rfl) rfl
theorem gw_2_147 : Cond.laysFinal RX7 "AttributeDesk$Worker" "equations" "[I" ∈ lw_G := lwG tb_2 (List.mem_of_getElem? (i := 147) rfl) rfl
theorem gw_2_149 : Cond.laysFinal RX7 "AttributeDesk$Worker" "codeAt" "[I" ∈ lw_G := lwG tb_2 (List.mem_of_getElem? (i := 149) rfl) rfl
theorem gw_2_151 : Cond.lays RX7 "AttributeDesk$Worker" "wayLength" "I" ∈ lw_G := lwG tb_2 (List.mem_of_getElem? (i := 151) rfl) rfl
theorem gw_2_153 : Cond.laysFinal RX7 "AttributeDesk$Worker" "values" "[I" ∈ lw_G := lwG tb_2 (List.mem_of_getElem? (i := 153) rfl) rfl
theorem gw_2_155 : Cond.laysFinal RX7 "AttributeDesk$Worker" "bads" "[Z" ∈ lw_G := lwG tb_2 (List.mem_of_getElem? (i := 155) rfl) rfl
theorem gw_2_157 : Cond.lays RX7 "AttributeDesk$Worker" "valueCount" "I" ∈ lw_G := lwG tb_2 (List.mem_of_getElem? (i := 157) rfl) rfl
theorem gw_2_160 : Cond.fieldLink RX8 9 "AttributeDesk" "tape" "[B" ∈ lw_G := lwG tb_2 (List.mem_of_getElem? (i := 160) rfl) rfl
theorem gw_2_161 : Cond.fieldLink RX8 13 "AttributeDesk" "tapeSize" "I" ∈ lw_G := lwG tb_2 (List.mem_of_getElem? (i := 161) rfl) rfl
theorem gw_2_162 : Cond.fieldLink RX8 20 "AttributeDesk" "known" "LAttributeDesk$Grammar;" ∈ lw_G := lwG tb_2 (List.mem_of_getElem? (i := 162) rfl) rfl
theorem gw_2_163 : Cond.fieldLink RX8 24 "AttributeDesk" "spareGrammar" "LAttributeDesk$Grammar;" ∈ lw_G := lwG tb_2 (List.mem_of_getElem? (i := 163) rfl) rfl
theorem gw_2_164 : Cond.fieldLink RX8 30 "AttributeDesk" "grown" "LAttributeDesk$Tree;" ∈ lw_G := lwG tb_2 (List.mem_of_getElem? (i := 164) rfl) rfl
theorem gw_2_165 : Cond.fieldLink RX8 34 "AttributeDesk" "spareTree" "LAttributeDesk$Tree;" ∈ lw_G := lwG tb_2 (List.mem_of_getElem? (i := 165) rfl) rfl
theorem gw_2_166 : Cond.fieldLink RX8 42 "AttributeDesk" "tokens" "LAttributeDesk$Tokens;" ∈ lw_G := lwG tb_2 (List.mem_of_getElem? (i := 166) rfl) rfl
theorem gw_2_167 : Cond.fieldLink RX8 51 "AttributeDesk" "grammarReader" "LAttributeDesk$GrammarReader;" ∈ lw_G := lwG tb_2 (List.mem_of_getElem? (i := 167) rfl) rfl
theorem gw_2_168 : Cond.fieldLink RX8 60 "AttributeDesk" "treeReader" "LAttributeDesk$TreeReader;" ∈ lw_G := lwG tb_2 (List.mem_of_getElem? (i := 168) rfl) rfl
theorem gw_2_169 : Cond.fieldLink RX8 69 "AttributeDesk" "ways" "LAttributeDesk$Ways;" ∈ lw_G := lwG tb_2 (List.mem_of_getElem? (i := 169) rfl) rfl
theorem gw_2_170 : Cond.fieldLink RX8 78 "AttributeDesk" "worker" "LAttributeDesk$Worker;" ∈ lw_G := lwG tb_2 (List.mem_of_getElem? (i := 170) rfl) rfl
theorem gw_2_171 : Cond.fieldLink RX8 82 "AttributeDesk" "latestFault" "I" ∈ lw_G := lwG tb_2 (List.mem_of_getElem? (i := 171) rfl) rfl
theorem gw_2_172 : Cond.fieldLink RX8 85 "AttributeDesk" "latestPlace" "I" ∈ lw_G := lwG tb_2 (List.mem_of_getElem? (i := 172) rfl) rfl
theorem gw_2_173 : Cond.laysFinal RX8 "AttributeDesk" "tape" "[B" ∈ lw_G := lwG tb_2 (List.mem_of_getElem? (i := 173) rfl) rfl
theorem gw_2_175 : Cond.lays RX8 "AttributeDesk" "tapeSize" "I" ∈ lw_G := lwG tb_2 (List.mem_of_getElem? (i := 175) rfl) rfl
theorem gw_2_177 : Cond.lays RX8 "AttributeDesk" "known" "LAttributeDesk$Grammar;" ∈ lw_G := lwG tb_2 (List.mem_of_getElem? (i := 177) rfl) rfl
theorem gw_2_179 : Cond.lays RX8 "AttributeDesk" "spareGrammar" "LAttributeDesk$Grammar;" ∈ lw_G := lwG tb_2 (List.mem_of_getElem? (i := 179) rfl) rfl
theorem gw_2_181 : Cond.lays RX8 "AttributeDesk" "grown" "LAttributeDesk$Tree;" ∈ lw_G := lwG tb_2 (List.mem_of_getElem? (i := 181) rfl) rfl
theorem gw_2_183 : Cond.lays RX8 "AttributeDesk" "spareTree" "LAttributeDesk$Tree;" ∈ lw_G := lwG tb_2 (List.mem_of_getElem? (i := 183) rfl) rfl
theorem gw_2_185 : Cond.laysFinal RX8 "AttributeDesk" "tokens" "LAttributeDesk$Tokens;" ∈ lw_G := lwG tb_2 (List.mem_of_getElem? (i := 185) rfl) rfl
theorem gw_2_187 : Cond.laysFinal RX8 "AttributeDesk" "grammarReader" "LAttributeDesk$GrammarReader;" ∈ lw_G := lwG tb_2 (List.mem_of_getElem? (i := 187) rfl) rfl
theorem gw_2_189 : Cond.laysFinal RX8 "AttributeDesk" "treeReader" "LAttributeDesk$TreeReader;" ∈ lw_G := lwG tb_2 (List.mem_of_getElem? (i := 189) rfl) rfl
theorem gw_2_191 : Cond.laysFinal RX8 "AttributeDesk" "ways" "LAttributeDesk$Ways;" ∈ lw_G := lwG tb_2 (List.mem_of_getElem? (i := 191) rfl) rfl
theorem gw_2_193 : Cond.laysFinal RX8 "AttributeDesk" "worker" "LAttributeDesk$Worker;" ∈ lw_G := lwG tb_2 (List.mem_of_getElem? (i := 193) rfl) rfl
theorem gw_2_195 : Cond.lays RX8 "AttributeDesk" "latestFault" "I" ∈ lw_G := lwG tb_2 (List.mem_of_getElem? (i := 195) rfl) rfl
theorem gw_2_197 : Cond.lays RX8 "AttributeDesk" "latestPlace" "I" ∈ lw_G := lwG tb_2 (List.mem_of_getElem? (i := 197) rfl) rfl
theorem gw_2_200 : Cond.methodLink RL 13 yX8_feed ∈ lw_G := lwG tb_2 (List.mem_of_getElem? (i := 200) rfl) rfl
theorem gw_2_201 : Cond.instanceMethod yX8_feed ∈ lw_G := lwG tb_2 (List.mem_of_getElem? (i := 201) rfl) rfl
theorem gw_2_202 : Cond.selects RX8 yX8_feed yX8_feed ∈ lw_G := lwG tb_2 (List.mem_of_getElem? (i := 202) rfl) rfl
theorem gw_2_203 : Cond.code yX8_feed cX8_feed 6 (some .int) ∈ lw_G := lwG tb_2 (List.mem_of_getElem? (i := 203) rfl) rfl
theorem gw_2_204 : Cond.methodLink RX8 88 yX8_putWord ∈ lw_G := lwG tb_2 (List.mem_of_getElem? (i := 204) rfl) rfl
theorem gw_2_206 : Cond.instanceMethod yX8_putWord ∈ lw_G := lwG tb_2 (List.mem_of_getElem? (i := 206) rfl) rfl
theorem gw_2_207 : Cond.code yX8_putWord cX8_putWord 3 none ∈ lw_G := lwG tb_2 (List.mem_of_getElem? (i := 207) rfl) rfl
theorem gw_2_208 : Cond.methodLink RL 18 yX8_end ∈ lw_G := lwG tb_2 (List.mem_of_getElem? (i := 208) rfl) rfl
theorem gw_2_209 : Cond.instanceMethod yX8_end ∈ lw_G := lwG tb_2 (List.mem_of_getElem? (i := 209) rfl) rfl
theorem gw_2_210 : Cond.selects RX8 yX8_end yX8_end ∈ lw_G := lwG tb_2 (List.mem_of_getElem? (i := 210) rfl) rfl
theorem gw_2_211 : Cond.code yX8_end cX8_end 2 (some .int) ∈ lw_G := lwG tb_2 (List.mem_of_getElem? (i := 211) rfl) rfl
theorem gw_2_212 : Cond.methodLink RL 23 yX8_grammar ∈ lw_G := lwG tb_2 (List.mem_of_getElem? (i := 212) rfl) rfl
theorem gw_2_213 : Cond.instanceMethod yX8_grammar ∈ lw_G := lwG tb_2 (List.mem_of_getElem? (i := 213) rfl) rfl
theorem gw_2_214 : Cond.selects RX8 yX8_grammar yX8_grammar ∈ lw_G := lwG tb_2 (List.mem_of_getElem? (i := 214) rfl) rfl
theorem gw_2_215 : Cond.code yX8_grammar cX8_grammar 3 (some .int) ∈ lw_G := lwG tb_2 (List.mem_of_getElem? (i := 215) rfl) rfl
theorem gw_2_216 : Cond.methodLink RX8 92 yX2_read ∈ lw_G := lwG tb_2 (List.mem_of_getElem? (i := 216) rfl) rfl
theorem gw_2_217 : Cond.instanceMethod yX2_read ∈ lw_G := lwG tb_2 (List.mem_of_getElem? (i := 217) rfl) rfl
theorem gw_2_218 : Cond.selects RX2 yX2_read yX2_read ∈ lw_G := lwG tb_2 (List.mem_of_getElem? (i := 218) rfl) rfl
theorem gw_2_219 : Cond.code yX2_read cX2_read 5 (some .int) ∈ lw_G := lwG tb_2 (List.mem_of_getElem? (i := 219) rfl) rfl
theorem gw_2_220 : Cond.methodLink RX2 42 yX1_clear ∈ lw_G := lwG tb_2 (List.mem_of_getElem? (i := 220) rfl) rfl
theorem gw_2_221 : Cond.instanceMethod yX1_clear ∈ lw_G := lwG tb_2 (List.mem_of_getElem? (i := 221) rfl) rfl
theorem gw_2_222 : Cond.selects RX1 yX1_clear yX1_clear ∈ lw_G := lwG tb_2 (List.mem_of_getElem? (i := 222) rfl) rfl
theorem gw_2_223 : Cond.code yX1_clear cX1_clear 1 none ∈ lw_G := lwG tb_2 (List.mem_of_getElem? (i := 223) rfl) rfl
theorem gw_2_224 : Cond.methodLink RX2 47 yX3_begin ∈ lw_G := lwG tb_2 (List.mem_of_getElem? (i := 224) rfl) rfl
theorem gw_2_225 : Cond.instanceMethod yX3_begin ∈ lw_G := lwG tb_2 (List.mem_of_getElem? (i := 225) rfl) rfl
theorem gw_2_226 : Cond.selects RX3 yX3_begin yX3_begin ∈ lw_G := lwG tb_2 (List.mem_of_getElem? (i := 226) rfl) rfl
theorem gw_2_227 : Cond.code yX3_begin cX3_begin 2 none ∈ lw_G := lwG tb_2 (List.mem_of_getElem? (i := 227) rfl) rfl
theorem gw_2_228 : Cond.methodLink RX3 35 Lib.Math.min.name ∈ lw_G := lwG tb_2 (List.mem_of_getElem? (i := 228) rfl) rfl
theorem gw_2_229 : Cond.static Lib.Math.min.name ∈ lw_G := lwG tb_2 (List.mem_of_getElem? (i := 229) rfl) rfl
theorem gw_2_230 : Cond.code Lib.Math.min.name Lib.Math.min.code 2 (some .int) ∈ lw_G := lwG tb_2 (List.mem_of_getElem? (i := 230) rfl) rfl
theorem gw_2_231 : Cond.methodLink RX2 53 yX3_next ∈ lw_G := lwG tb_2 (List.mem_of_getElem? (i := 231) rfl) rfl
theorem gw_2_232 : Cond.instanceMethod yX3_next ∈ lw_G := lwG tb_2 (List.mem_of_getElem? (i := 232) rfl) rfl
theorem gw_2_233 : Cond.selects RX3 yX3_next yX3_next ∈ lw_G := lwG tb_2 (List.mem_of_getElem? (i := 233) rfl) rfl
theorem gw_2_234 : Cond.code yX3_next cX3_next 2 none ∈ lw_G := lwG tb_2 (List.mem_of_getElem? (i := 234) rfl) rfl
theorem gw_2_235 : Cond.methodLink RX3 41 yX3_skipBlanks ∈ lw_G := lwG tb_2 (List.mem_of_getElem? (i := 235) rfl) rfl
theorem gw_2_237 : Cond.instanceMethod yX3_skipBlanks ∈ lw_G := lwG tb_2 (List.mem_of_getElem? (i := 237) rfl) rfl
theorem gw_2_238 : Cond.code yX3_skipBlanks cX3_skipBlanks 3 (some .int) ∈ lw_G := lwG tb_2 (List.mem_of_getElem? (i := 238) rfl) rfl
theorem gw_3_113 : Cond.methodLink RX2 60 yX2_step ∈ lw_G := lwG tb_3 (List.mem_of_getElem? (i := 113) rfl) rfl
theorem gw_3_115 : Cond.instanceMethod yX2_step ∈ lw_G := lwG tb_3 (List.mem_of_getElem? (i := 115) rfl) rfl
theorem gw_3_116 : Cond.code yX2_step cX2_step 1 (some .int) ∈ lw_G := lwG tb_3 (List.mem_of_getElem? (i := 116) rfl) rfl
theorem gw_3_117 : Cond.methodLink RX2 64 yX2_symbolStep ∈ lw_G := lwG tb_3 (List.mem_of_getElem? (i := 117) rfl) rfl
theorem gw_3_119 : Cond.instanceMethod yX2_symbolStep ∈ lw_G := lwG tb_3 (List.mem_of_getElem? (i := 119) rfl) rfl
theorem gw_3_120 : Cond.code yX2_symbolStep cX2_symbolStep 1 (some .int) ∈ lw_G := lwG tb_3 (List.mem_of_getElem? (i := 120) rfl) rfl
theorem gw_3_150 : Cond.methodLink RX2 89 yX2_goIf ∈ lw_G := lwG tb_3 (List.mem_of_getElem? (i := 150) rfl) rfl
theorem gw_3_152 : Cond.instanceMethod yX2_goIf ∈ lw_G := lwG tb_3 (List.mem_of_getElem? (i := 152) rfl) rfl
theorem gw_3_153 : Cond.code yX2_goIf cX2_goIf 3 (some .int) ∈ lw_G := lwG tb_3 (List.mem_of_getElem? (i := 153) rfl) rfl
theorem gw_3_207 : Cond.methodLink RX8 96 yX8_keepFault ∈ lw_G := lwG tb_3 (List.mem_of_getElem? (i := 207) rfl) rfl
theorem gw_3_209 : Cond.instanceMethod yX8_keepFault ∈ lw_G := lwG tb_3 (List.mem_of_getElem? (i := 209) rfl) rfl
theorem gw_3_210 : Cond.code yX8_keepFault cX8_keepFault 2 none ∈ lw_G := lwG tb_3 (List.mem_of_getElem? (i := 210) rfl) rfl
theorem gw_4_59 : Cond.methodLink RL 28 yX8_tree ∈ lw_G := lwG tb_4 (List.mem_of_getElem? (i := 59) rfl) rfl
theorem gw_4_60 : Cond.instanceMethod yX8_tree ∈ lw_G := lwG tb_4 (List.mem_of_getElem? (i := 60) rfl) rfl
theorem gw_4_61 : Cond.selects RX8 yX8_tree yX8_tree ∈ lw_G := lwG tb_4 (List.mem_of_getElem? (i := 61) rfl) rfl
theorem gw_4_62 : Cond.code yX8_tree cX8_tree 3 (some .int) ∈ lw_G := lwG tb_4 (List.mem_of_getElem? (i := 62) rfl) rfl
theorem gw_4_100 : Cond.methodLink RL 32 yX8_fault ∈ lw_G := lwG tb_4 (List.mem_of_getElem? (i := 100) rfl) rfl
theorem gw_4_101 : Cond.instanceMethod yX8_fault ∈ lw_G := lwG tb_4 (List.mem_of_getElem? (i := 101) rfl) rfl
theorem gw_4_102 : Cond.selects RX8 yX8_fault yX8_fault ∈ lw_G := lwG tb_4 (List.mem_of_getElem? (i := 102) rfl) rfl
theorem gw_4_103 : Cond.code yX8_fault cX8_fault 2 (some .int) ∈ lw_G := lwG tb_4 (List.mem_of_getElem? (i := 103) rfl) rfl
theorem gw_4_104 : Cond.methodLink RL 36 yX8_symbol ∈ lw_G := lwG tb_4 (List.mem_of_getElem? (i := 104) rfl) rfl
theorem gw_4_105 : Cond.instanceMethod yX8_symbol ∈ lw_G := lwG tb_4 (List.mem_of_getElem? (i := 105) rfl) rfl
theorem gw_4_106 : Cond.selects RX8 yX8_symbol yX8_symbol ∈ lw_G := lwG tb_4 (List.mem_of_getElem? (i := 106) rfl) rfl
theorem gw_4_107 : Cond.code yX8_symbol cX8_symbol 3 (some .int) ∈ lw_G := lwG tb_4 (List.mem_of_getElem? (i := 107) rfl) rfl
theorem gw_4_116 : Cond.methodLink RL 41 yX8_graph ∈ lw_G := lwG tb_4 (List.mem_of_getElem? (i := 116) rfl) rfl
theorem gw_4_117 : Cond.instanceMethod yX8_graph ∈ lw_G := lwG tb_4 (List.mem_of_getElem? (i := 117) rfl) rfl
theorem gw_4_118 : Cond.selects RX8 yX8_graph yX8_graph ∈ lw_G := lwG tb_4 (List.mem_of_getElem? (i := 118) rfl) rfl
theorem gw_4_119 : Cond.code yX8_graph cX8_graph 3 (some .int) ∈ lw_G := lwG tb_4 (List.mem_of_getElem? (i := 119) rfl) rfl
theorem gw_4_120 : Cond.methodLink RL 45 yX8_rule ∈ lw_G := lwG tb_4 (List.mem_of_getElem? (i := 120) rfl) rfl
theorem gw_4_121 : Cond.instanceMethod yX8_rule ∈ lw_G := lwG tb_4 (List.mem_of_getElem? (i := 121) rfl) rfl
theorem gw_4_122 : Cond.selects RX8 yX8_rule yX8_rule ∈ lw_G := lwG tb_4 (List.mem_of_getElem? (i := 122) rfl) rfl
theorem gw_4_123 : Cond.code yX8_rule cX8_rule 3 (some .int) ∈ lw_G := lwG tb_4 (List.mem_of_getElem? (i := 123) rfl) rfl
theorem gw_4_125 : Cond.methodLink RL 49 yX8_test ∈ lw_G := lwG tb_4 (List.mem_of_getElem? (i := 125) rfl) rfl
theorem gw_4_126 : Cond.instanceMethod yX8_test ∈ lw_G := lwG tb_4 (List.mem_of_getElem? (i := 126) rfl) rfl
theorem gw_4_127 : Cond.selects RX8 yX8_test yX8_test ∈ lw_G := lwG tb_4 (List.mem_of_getElem? (i := 127) rfl) rfl
theorem gw_4_128 : Cond.code yX8_test cX8_test 2 (some .int) ∈ lw_G := lwG tb_4 (List.mem_of_getElem? (i := 128) rfl) rfl
theorem gw_4_137 : Cond.methodLink RL 53 yX8_node ∈ lw_G := lwG tb_4 (List.mem_of_getElem? (i := 137) rfl) rfl
theorem gw_4_138 : Cond.instanceMethod yX8_node ∈ lw_G := lwG tb_4 (List.mem_of_getElem? (i := 138) rfl) rfl
theorem gw_4_139 : Cond.selects RX8 yX8_node yX8_node ∈ lw_G := lwG tb_4 (List.mem_of_getElem? (i := 139) rfl) rfl
theorem gw_4_140 : Cond.code yX8_node cX8_node 3 (some .int) ∈ lw_G := lwG tb_4 (List.mem_of_getElem? (i := 140) rfl) rfl
theorem gw_4_141 : Cond.methodLink RX8 167 yX8_isNode ∈ lw_G := lwG tb_4 (List.mem_of_getElem? (i := 141) rfl) rfl
theorem gw_4_143 : Cond.instanceMethod yX8_isNode ∈ lw_G := lwG tb_4 (List.mem_of_getElem? (i := 143) rfl) rfl
theorem gw_4_144 : Cond.code yX8_isNode cX8_isNode 2 (some .boolean) ∈ lw_G := lwG tb_4 (List.mem_of_getElem? (i := 144) rfl) rfl
theorem gw_4_149 : Cond.methodLink RL 57 yX8_own ∈ lw_G := lwG tb_4 (List.mem_of_getElem? (i := 149) rfl) rfl
theorem gw_4_150 : Cond.instanceMethod yX8_own ∈ lw_G := lwG tb_4 (List.mem_of_getElem? (i := 150) rfl) rfl
theorem gw_4_151 : Cond.selects RX8 yX8_own yX8_own ∈ lw_G := lwG tb_4 (List.mem_of_getElem? (i := 151) rfl) rfl
theorem gw_4_152 : Cond.code yX8_own cX8_own 3 (some .boolean) ∈ lw_G := lwG tb_4 (List.mem_of_getElem? (i := 152) rfl) rfl
theorem gw_4_154 : Cond.methodLink RL 62 yX8_demand ∈ lw_G := lwG tb_4 (List.mem_of_getElem? (i := 154) rfl) rfl
theorem gw_4_155 : Cond.instanceMethod yX8_demand ∈ lw_G := lwG tb_4 (List.mem_of_getElem? (i := 155) rfl) rfl
theorem gw_4_156 : Cond.selects RX8 yX8_demand yX8_demand ∈ lw_G := lwG tb_4 (List.mem_of_getElem? (i := 156) rfl) rfl
theorem gw_4_157 : Cond.code yX8_demand cX8_demand 3 (some .int) ∈ lw_G := lwG tb_4 (List.mem_of_getElem? (i := 157) rfl) rfl
theorem gw_4_158 : Cond.methodLink RX8 190 yX8_isItem ∈ lw_G := lwG tb_4 (List.mem_of_getElem? (i := 158) rfl) rfl
theorem gw_4_160 : Cond.instanceMethod yX8_isItem ∈ lw_G := lwG tb_4 (List.mem_of_getElem? (i := 160) rfl) rfl
theorem gw_4_161 : Cond.code yX8_isItem cX8_isItem 3 (some .boolean) ∈ lw_G := lwG tb_4 (List.mem_of_getElem? (i := 161) rfl) rfl
theorem gw_4_223 : Cond.methodLink RL 66 yX8_value ∈ lw_G := lwG tb_4 (List.mem_of_getElem? (i := 223) rfl) rfl
theorem gw_4_224 : Cond.instanceMethod yX8_value ∈ lw_G := lwG tb_4 (List.mem_of_getElem? (i := 224) rfl) rfl
theorem gw_4_225 : Cond.selects RX8 yX8_value yX8_value ∈ lw_G := lwG tb_4 (List.mem_of_getElem? (i := 225) rfl) rfl
theorem gw_4_226 : Cond.code yX8_value cX8_value 5 (some .int) ∈ lw_G := lwG tb_4 (List.mem_of_getElem? (i := 226) rfl) rfl
theorem gw_4_228 : Cond.methodLink RL 71 yX8_order ∈ lw_G := lwG tb_4 (List.mem_of_getElem? (i := 228) rfl) rfl
theorem gw_4_229 : Cond.instanceMethod yX8_order ∈ lw_G := lwG tb_4 (List.mem_of_getElem? (i := 229) rfl) rfl
theorem gw_4_230 : Cond.selects RX8 yX8_order yX8_order ∈ lw_G := lwG tb_4 (List.mem_of_getElem? (i := 230) rfl) rfl
theorem gw_4_231 : Cond.code yX8_order cX8_order 2 (some .int) ∈ lw_G := lwG tb_4 (List.mem_of_getElem? (i := 231) rfl) rfl
theorem gw_4_232 : Cond.methodLink RL 75 yX8_about ∈ lw_G := lwG tb_4 (List.mem_of_getElem? (i := 232) rfl) rfl
theorem gw_4_233 : Cond.instanceMethod yX8_about ∈ lw_G := lwG tb_4 (List.mem_of_getElem? (i := 233) rfl) rfl
theorem gw_4_234 : Cond.selects RX8 yX8_about yX8_about ∈ lw_G := lwG tb_4 (List.mem_of_getElem? (i := 234) rfl) rfl
theorem gw_4_235 : Cond.code yX8_about cX8_about 2 (some .int) ∈ lw_G := lwG tb_4 (List.mem_of_getElem? (i := 235) rfl) rfl
theorem gw_4_236 : Cond.classLink RL 10 RX9 ∈ lw_G := lwG tb_4 (List.mem_of_getElem? (i := 236) rfl) rfl
theorem gw_4_237 : Cond.instantiable RX9 80 ∈ lw_G := lwG tb_4 (List.mem_of_getElem? (i := 237) rfl) rfl
theorem gw_4_238 : Cond.methodLink RL 12 yX9_init ∈ lw_G := lwG tb_4 (List.mem_of_getElem? (i := 238) rfl) rfl
theorem gw_4_239 : Cond.instanceMethod yX9_init ∈ lw_G := lwG tb_4 (List.mem_of_getElem? (i := 239) rfl) rfl
theorem gw_5_0 : Cond.code yX9_init cX9_init 1 none ∈ lw_G := lwG tb_5 (List.mem_of_getElem? (i := 0) rfl) rfl
theorem gw_5_1 : Cond.methodLink RX9 1 objectInit ∈ lw_G := lwG tb_5 (List.mem_of_getElem? (i := 1) rfl) rfl
theorem gw_5_2 : Cond.fieldLink RX9 7 "AttributeDeskModel" "tape" "[B" ∈ lw_G := lwG tb_5 (List.mem_of_getElem? (i := 2) rfl) rfl
theorem gw_5_3 : Cond.fieldLink RX9 173 "AttributeDeskModel" "taped" "I" ∈ lw_G := lwG tb_5 (List.mem_of_getElem? (i := 3) rfl) rfl
theorem gw_5_4 : Cond.fieldLink RX9 13 "AttributeDeskModel" "text" "[B" ∈ lw_G := lwG tb_5 (List.mem_of_getElem? (i := 4) rfl) rfl
theorem gw_5_5 : Cond.fieldLink RX9 200 "AttributeDeskModel" "length" "I" ∈ lw_G := lwG tb_5 (List.mem_of_getElem? (i := 5) rfl) rfl
theorem gw_5_6 : Cond.fieldLink RX9 16 "AttributeDeskModel" "former" "[B" ∈ lw_G := lwG tb_5 (List.mem_of_getElem? (i := 6) rfl) rfl
theorem gw_5_8 : Cond.fieldLink RX9 389 "AttributeDeskModel" "hasGrammar" "Z" ∈ lw_G := lwG tb_5 (List.mem_of_getElem? (i := 8) rfl) rfl
theorem gw_5_9 : Cond.fieldLink RX9 197 "AttributeDeskModel" "at" "I" ∈ lw_G := lwG tb_5 (List.mem_of_getElem? (i := 9) rfl) rfl
theorem gw_5_10 : Cond.fieldLink RX9 190 "AttributeDeskModel" "token" "I" ∈ lw_G := lwG tb_5 (List.mem_of_getElem? (i := 10) rfl) rfl
theorem gw_5_11 : Cond.fieldLink RX9 210 "AttributeDeskModel" "sort" "I" ∈ lw_G := lwG tb_5 (List.mem_of_getElem? (i := 11) rfl) rfl
theorem gw_5_12 : Cond.fieldLink RX9 206 "AttributeDeskModel" "told" "J" ∈ lw_G := lwG tb_5 (List.mem_of_getElem? (i := 12) rfl) rfl
theorem gw_5_13 : Cond.fieldLink RX9 184 "AttributeDeskModel" "wrong" "I" ∈ lw_G := lwG tb_5 (List.mem_of_getElem? (i := 13) rfl) rfl
theorem gw_5_14 : Cond.fieldLink RX9 187 "AttributeDeskModel" "wrongAt" "I" ∈ lw_G := lwG tb_5 (List.mem_of_getElem? (i := 14) rfl) rfl
theorem gw_5_15 : Cond.fieldLink RX9 19 "AttributeDeskModel" "fault" "I" ∈ lw_G := lwG tb_5 (List.mem_of_getElem? (i := 15) rfl) rfl
theorem gw_5_16 : Cond.fieldLink RX9 23 "AttributeDeskModel" "faultAt" "I" ∈ lw_G := lwG tb_5 (List.mem_of_getElem? (i := 16) rfl) rfl
theorem gw_5_18 : Cond.fieldLink RX9 248 "AttributeDeskModel" "symbols" "I" ∈ lw_G := lwG tb_5 (List.mem_of_getElem? (i := 18) rfl) rfl
theorem gw_5_19 : Cond.fieldLink RX9 26 "AttributeDeskModel" "symbolName" "[J" ∈ lw_G := lwG tb_5 (List.mem_of_getElem? (i := 19) rfl) rfl
theorem gw_5_20 : Cond.fieldLink RX9 30 "AttributeDeskModel" "attributes" "[I" ∈ lw_G := lwG tb_5 (List.mem_of_getElem? (i := 20) rfl) rfl
theorem gw_5_21 : Cond.fieldLink RX9 34 "AttributeDeskModel" "attributeName" "[J" ∈ lw_G := lwG tb_5 (List.mem_of_getElem? (i := 21) rfl) rfl
theorem gw_5_22 : Cond.fieldLink RX9 37 "AttributeDeskModel" "isInherited" "[Z" ∈ lw_G := lwG tb_5 (List.mem_of_getElem? (i := 22) rfl) rfl
theorem gw_5_23 : Cond.fieldLink RX9 272 "AttributeDeskModel" "rules" "I" ∈ lw_G := lwG tb_5 (List.mem_of_getElem? (i := 23) rfl) rfl
theorem gw_5_24 : Cond.fieldLink RX9 41 "AttributeDeskModel" "ruleName" "[J" ∈ lw_G := lwG tb_5 (List.mem_of_getElem? (i := 24) rfl) rfl
theorem gw_5_25 : Cond.fieldLink RX9 44 "AttributeDeskModel" "children" "[I" ∈ lw_G := lwG tb_5 (List.mem_of_getElem? (i := 25) rfl) rfl
theorem gw_5_26 : Cond.fieldLink RX9 47 "AttributeDeskModel" "ruleSymbol" "[I" ∈ lw_G := lwG tb_5 (List.mem_of_getElem? (i := 26) rfl) rfl
theorem gw_5_27 : Cond.fieldLink RX9 50 "AttributeDeskModel" "equations" "[I" ∈ lw_G := lwG tb_5 (List.mem_of_getElem? (i := 27) rfl) rfl
theorem gw_5_28 : Cond.fieldLink RX9 53 "AttributeDeskModel" "eqFrom" "[I" ∈ lw_G := lwG tb_5 (List.mem_of_getElem? (i := 28) rfl) rfl
theorem gw_5_29 : Cond.fieldLink RX9 56 "AttributeDeskModel" "eqOccs" "[I" ∈ lw_G := lwG tb_5 (List.mem_of_getElem? (i := 29) rfl) rfl
theorem gw_5_30 : Cond.fieldLink RX9 59 "AttributeDeskModel" "eqMany" "[I" ∈ lw_G := lwG tb_5 (List.mem_of_getElem? (i := 30) rfl) rfl
theorem gw_5_31 : Cond.fieldLink RX9 302 "AttributeDeskModel" "orders" "I" ∈ lw_G := lwG tb_5 (List.mem_of_getElem? (i := 31) rfl) rfl
theorem gw_5_32 : Cond.fieldLink RX9 62 "AttributeDeskModel" "order" "[I" ∈ lw_G := lwG tb_5 (List.mem_of_getElem? (i := 32) rfl) rfl
theorem gw_5_33 : Cond.fieldLink RX9 65 "AttributeDeskModel" "orderOf" "[I" ∈ lw_G := lwG tb_5 (List.mem_of_getElem? (i := 33) rfl) rfl
theorem gw_5_34 : Cond.fieldLink RX9 305 "AttributeDeskModel" "occs" "I" ∈ lw_G := lwG tb_5 (List.mem_of_getElem? (i := 34) rfl) rfl
theorem gw_5_35 : Cond.fieldLink RX9 68 "AttributeDeskModel" "occPlace" "[I" ∈ lw_G := lwG tb_5 (List.mem_of_getElem? (i := 35) rfl) rfl
theorem gw_5_36 : Cond.fieldLink RX9 71 "AttributeDeskModel" "occAttribute" "[I" ∈ lw_G := lwG tb_5 (List.mem_of_getElem? (i := 36) rfl) rfl
theorem gw_5_40 : Cond.fieldLink RX9 74 "AttributeDeskModel" "frame" "[I" ∈ lw_G := lwG tb_5 (List.mem_of_getElem? (i := 40) rfl) rfl
theorem gw_5_41 : Cond.fieldLink RX9 77 "AttributeDeskModel" "frameOf" "[I" ∈ lw_G := lwG tb_5 (List.mem_of_getElem? (i := 41) rfl) rfl
theorem gw_5_44 : Cond.fieldLink RX9 396 "AttributeDeskModel" "nodes" "I" ∈ lw_G := lwG tb_5 (List.mem_of_getElem? (i := 44) rfl) rfl
theorem gw_5_45 : Cond.fieldLink RX9 80 "AttributeDeskModel" "nodeRule" "[I" ∈ lw_G := lwG tb_5 (List.mem_of_getElem? (i := 45) rfl) rfl
theorem gw_5_46 : Cond.fieldLink RX9 83 "AttributeDeskModel" "nodeAbove" "[I" ∈ lw_G := lwG tb_5 (List.mem_of_getElem? (i := 46) rfl) rfl
theorem gw_5_47 : Cond.fieldLink RX9 86 "AttributeDeskModel" "nodePlace" "[I" ∈ lw_G := lwG tb_5 (List.mem_of_getElem? (i := 47) rfl) rfl
theorem gw_5_48 : Cond.fieldLink RX9 89 "AttributeDeskModel" "nodeOwn" "[I" ∈ lw_G := lwG tb_5 (List.mem_of_getElem? (i := 48) rfl) rfl
theorem gw_5_49 : Cond.fieldLink RX9 92 "AttributeDeskModel" "nodeChild" "[I" ∈ lw_G := lwG tb_5 (List.mem_of_getElem? (i := 49) rfl) rfl
theorem gw_5_51 : Cond.fieldLink RX9 95 "AttributeDeskModel" "newRule" "[I" ∈ lw_G := lwG tb_5 (List.mem_of_getElem? (i := 51) rfl) rfl
theorem gw_5_52 : Cond.fieldLink RX9 98 "AttributeDeskModel" "newAbove" "[I" ∈ lw_G := lwG tb_5 (List.mem_of_getElem? (i := 52) rfl) rfl
theorem gw_5_53 : Cond.fieldLink RX9 101 "AttributeDeskModel" "newPlace" "[I" ∈ lw_G := lwG tb_5 (List.mem_of_getElem? (i := 53) rfl) rfl
theorem gw_5_54 : Cond.fieldLink RX9 104 "AttributeDeskModel" "newOwn" "[I" ∈ lw_G := lwG tb_5 (List.mem_of_getElem? (i := 54) rfl) rfl
theorem gw_5_55 : Cond.fieldLink RX9 107 "AttributeDeskModel" "newMany" "[I" ∈ lw_G := lwG tb_5 (List.mem_of_getElem? (i := 55) rfl) rfl
theorem gw_5_56 : Cond.fieldLink RX9 110 "AttributeDeskModel" "newChild" "[I" ∈ lw_G := lwG tb_5 (List.mem_of_getElem? (i := 56) rfl) rfl
theorem gw_5_57 : Cond.fieldLink RX9 113 "AttributeDeskModel" "canBe" "[Z" ∈ lw_G := lwG tb_5 (List.mem_of_getElem? (i := 57) rfl) rfl
theorem gw_5_58 : Cond.fieldLink RX9 116 "AttributeDeskModel" "canCome" "[Z" ∈ lw_G := lwG tb_5 (List.mem_of_getElem? (i := 58) rfl) rfl
theorem gw_5_59 : Cond.fieldLink RX9 119 "AttributeDeskModel" "isAbove" "[Z" ∈ lw_G := lwG tb_5 (List.mem_of_getElem? (i := 59) rfl) rfl
theorem gw_5_61 : Cond.fieldLink RX9 122 "AttributeDeskModel" "hasGraph" "[Z" ∈ lw_G := lwG tb_5 (List.mem_of_getElem? (i := 61) rfl) rfl
theorem gw_5_62 : Cond.fieldLink RX9 125 "AttributeDeskModel" "graphs" "[I" ∈ lw_G := lwG tb_5 (List.mem_of_getElem? (i := 62) rfl) rfl
theorem gw_5_63 : Cond.fieldLink RX9 128 "AttributeDeskModel" "plain" "[I" ∈ lw_G := lwG tb_5 (List.mem_of_getElem? (i := 63) rfl) rfl
theorem gw_5_64 : Cond.fieldLink RX9 131 "AttributeDeskModel" "isRoundPlain" "[Z" ∈ lw_G := lwG tb_5 (List.mem_of_getElem? (i := 64) rfl) rfl
theorem gw_5_65 : Cond.fieldLink RX9 134 "AttributeDeskModel" "isRound" "[Z" ∈ lw_G := lwG tb_5 (List.mem_of_getElem? (i := 65) rfl) rfl
theorem gw_5_66 : Cond.fieldLink RX9 137 "AttributeDeskModel" "reach" "[I" ∈ lw_G := lwG tb_5 (List.mem_of_getElem? (i := 66) rfl) rfl
theorem gw_5_67 : Cond.fieldLink RX9 140 "AttributeDeskModel" "chosen" "[I" ∈ lw_G := lwG tb_5 (List.mem_of_getElem? (i := 67) rfl) rfl
theorem gw_5_69 : Cond.fieldLink RX9 143 "AttributeDeskModel" "fresh" "[I" ∈ lw_G := lwG tb_5 (List.mem_of_getElem? (i := 69) rfl) rfl
theorem gw_5_70 : Cond.fieldLink RX9 399 "AttributeDeskModel" "worked" "I" ∈ lw_G := lwG tb_5 (List.mem_of_getElem? (i := 70) rfl) rfl
theorem gw_5_71 : Cond.fieldLink RX9 146 "AttributeDeskModel" "workedAt" "[I" ∈ lw_G := lwG tb_5 (List.mem_of_getElem? (i := 71) rfl) rfl
theorem gw_5_72 : Cond.fieldLink RX9 149 "AttributeDeskModel" "isWorked" "[Z" ∈ lw_G := lwG tb_5 (List.mem_of_getElem? (i := 72) rfl) rfl
theorem gw_5_73 : Cond.fieldLink RX9 152 "AttributeDeskModel" "isBad" "[Z" ∈ lw_G := lwG tb_5 (List.mem_of_getElem? (i := 73) rfl) rfl
theorem gw_5_74 : Cond.fieldLink RX9 155 "AttributeDeskModel" "number" "[I" ∈ lw_G := lwG tb_5 (List.mem_of_getElem? (i := 74) rfl) rfl
theorem gw_5_75 : Cond.fieldLink RX9 158 "AttributeDeskModel" "isWaiting" "[Z" ∈ lw_G := lwG tb_5 (List.mem_of_getElem? (i := 75) rfl) rfl
theorem gw_5_77 : Cond.fieldLink RX9 161 "AttributeDeskModel" "waitsFor" "[I" ∈ lw_G := lwG tb_5 (List.mem_of_getElem? (i := 77) rfl) rfl
theorem gw_5_78 : Cond.fieldLink RX9 164 "AttributeDeskModel" "waitsAt" "[I" ∈ lw_G := lwG tb_5 (List.mem_of_getElem? (i := 78) rfl) rfl
theorem gw_5_80 : Cond.fieldLink RX9 167 "AttributeDeskModel" "stack" "[I" ∈ lw_G := lwG tb_5 (List.mem_of_getElem? (i := 80) rfl) rfl
theorem gw_5_81 : Cond.fieldLink RX9 170 "AttributeDeskModel" "stackBad" "[Z" ∈ lw_G := lwG tb_5 (List.mem_of_getElem? (i := 81) rfl) rfl
theorem gw_5_82 : Cond.laysFinal RX9 "AttributeDeskModel" "tape" "[B" ∈ lw_G := lwG tb_5 (List.mem_of_getElem? (i := 82) rfl) rfl
theorem gw_5_84 : Cond.lays RX9 "AttributeDeskModel" "taped" "I" ∈ lw_G := lwG tb_5 (List.mem_of_getElem? (i := 84) rfl) rfl
theorem gw_5_86 : Cond.laysFinal RX9 "AttributeDeskModel" "text" "[B" ∈ lw_G := lwG tb_5 (List.mem_of_getElem? (i := 86) rfl) rfl
theorem gw_5_88 : Cond.lays RX9 "AttributeDeskModel" "length" "I" ∈ lw_G := lwG tb_5 (List.mem_of_getElem? (i := 88) rfl) rfl
theorem gw_5_90 : Cond.laysFinal RX9 "AttributeDeskModel" "former" "[B" ∈ lw_G := lwG tb_5 (List.mem_of_getElem? (i := 90) rfl) rfl
theorem gw_5_92 : Cond.lays RX9 "AttributeDeskModel" "formerLength" "I" ∈ lw_G := lwG tb_5 (List.mem_of_getElem? (i := 92) rfl) rfl
theorem gw_5_94 : Cond.lays RX9 "AttributeDeskModel" "hasGrammar" "Z" ∈ lw_G := lwG tb_5 (List.mem_of_getElem? (i := 94) rfl) rfl
theorem gw_5_96 : Cond.lays RX9 "AttributeDeskModel" "at" "I" ∈ lw_G := lwG tb_5 (List.mem_of_getElem? (i := 96) rfl) rfl
theorem gw_5_98 : Cond.lays RX9 "AttributeDeskModel" "token" "I" ∈ lw_G := lwG tb_5 (List.mem_of_getElem? (i := 98) rfl) rfl
theorem gw_5_100 : Cond.lays RX9 "AttributeDeskModel" "sort" "I" ∈ lw_G := lwG tb_5 (List.mem_of_getElem? (i := 100) rfl) rfl
theorem gw_5_102 : Cond.lays RX9 "AttributeDeskModel" "told" "J" ∈ lw_G := lwG tb_5 (List.mem_of_getElem? (i := 102) rfl) rfl
theorem gw_5_104 : Cond.lays RX9 "AttributeDeskModel" "wrong" "I" ∈ lw_G := lwG tb_5 (List.mem_of_getElem? (i := 104) rfl) rfl
theorem gw_5_106 : Cond.lays RX9 "AttributeDeskModel" "wrongAt" "I" ∈ lw_G := lwG tb_5 (List.mem_of_getElem? (i := 106) rfl) rfl
theorem gw_5_108 : Cond.lays RX9 "AttributeDeskModel" "fault" "I" ∈ lw_G := lwG tb_5 (List.mem_of_getElem? (i := 108) rfl) rfl
theorem gw_5_110 : Cond.lays RX9 "AttributeDeskModel" "faultAt" "I" ∈ lw_G := lwG tb_5 (List.mem_of_getElem? (i := 110) rfl) rfl
theorem gw_5_112 : Cond.lays RX9 "AttributeDeskModel" "nest" "I" ∈ lw_G := lwG tb_5 (List.mem_of_getElem? (i := 112) rfl) rfl
theorem gw_5_114 : Cond.lays RX9 "AttributeDeskModel" "symbols" "I" ∈ lw_G := lwG tb_5 (List.mem_of_getElem? (i := 114) rfl) rfl
theorem gw_5_116 : Cond.laysFinal RX9 "AttributeDeskModel" "symbolName" "[J" ∈ lw_G := lwG tb_5 (List.mem_of_getElem? (i := 116) rfl) rfl
theorem gw_5_118 : Cond.laysFinal RX9 "AttributeDeskModel" "attributes" "[I" ∈ lw_G := lwG tb_5 (List.mem_of_getElem? (i := 118) rfl) rfl
theorem gw_5_120 : Cond.laysFinal RX9 "AttributeDeskModel" "attributeName" "[J" ∈ lw_G := lwG tb_5 (List.mem_of_getElem? (i := 120) rfl) rfl
theorem gw_5_122 : Cond.laysFinal RX9 "AttributeDeskModel" "isInherited" "[Z" ∈ lw_G := lwG tb_5 (List.mem_of_getElem? (i := 122) rfl) rfl
theorem gw_5_124 : Cond.lays RX9 "AttributeDeskModel" "rules" "I" ∈ lw_G := lwG tb_5 (List.mem_of_getElem? (i := 124) rfl) rfl
theorem gw_5_126 : Cond.laysFinal RX9 "AttributeDeskModel" "ruleName" "[J" ∈ lw_G := lwG tb_5 (List.mem_of_getElem? (i := 126) rfl) rfl
theorem gw_5_128 : Cond.laysFinal RX9 "AttributeDeskModel" "children" "[I" ∈ lw_G := lwG tb_5 (List.mem_of_getElem? (i := 128) rfl) rfl
theorem gw_5_130 : Cond.laysFinal RX9 "AttributeDeskModel" "ruleSymbol" "[I" ∈ lw_G := lwG tb_5 (List.mem_of_getElem? (i := 130) rfl) rfl
theorem gw_5_132 : Cond.laysFinal RX9 "AttributeDeskModel" "equations" "[I" ∈ lw_G := lwG tb_5 (List.mem_of_getElem? (i := 132) rfl) rfl
theorem gw_5_134 : Cond.laysFinal RX9 "AttributeDeskModel" "eqFrom" "[I" ∈ lw_G := lwG tb_5 (List.mem_of_getElem? (i := 134) rfl) rfl
theorem gw_5_136 : Cond.laysFinal RX9 "AttributeDeskModel" "eqOccs" "[I" ∈ lw_G := lwG tb_5 (List.mem_of_getElem? (i := 136) rfl) rfl
theorem gw_5_138 : Cond.laysFinal RX9 "AttributeDeskModel" "eqMany" "[I" ∈ lw_G := lwG tb_5 (List.mem_of_getElem? (i := 138) rfl) rfl
theorem gw_5_140 : Cond.lays RX9 "AttributeDeskModel" "orders" "I" ∈ lw_G := lwG tb_5 (List.mem_of_getElem? (i := 140) rfl) rfl
theorem gw_5_142 : Cond.laysFinal RX9 "AttributeDeskModel" "order" "[I" ∈ lw_G := lwG tb_5 (List.mem_of_getElem? (i := 142) rfl) rfl
theorem gw_5_144 : Cond.laysFinal RX9 "AttributeDeskModel" "orderOf" "[I" ∈ lw_G := lwG tb_5 (List.mem_of_getElem? (i := 144) rfl) rfl
theorem gw_5_146 : Cond.lays RX9 "AttributeDeskModel" "occs" "I" ∈ lw_G := lwG tb_5 (List.mem_of_getElem? (i := 146) rfl) rfl
theorem gw_5_148 : Cond.laysFinal RX9 "AttributeDeskModel" "occPlace" "[I" ∈ lw_G := lwG tb_5 (List.mem_of_getElem? (i := 148) rfl) rfl
theorem gw_5_150 : Cond.laysFinal RX9 "AttributeDeskModel" "occAttribute" "[I" ∈ lw_G := lwG tb_5 (List.mem_of_getElem? (i := 150) rfl) rfl
theorem gw_5_152 : Cond.lays RX9 "AttributeDeskModel" "occurK" "I" ∈ lw_G := lwG tb_5 (List.mem_of_getElem? (i := 152) rfl) rfl
theorem gw_5_154 : Cond.lays RX9 "AttributeDeskModel" "occurA" "I" ∈ lw_G := lwG tb_5 (List.mem_of_getElem? (i := 154) rfl) rfl
theorem gw_5_156 : Cond.lays RX9 "AttributeDeskModel" "frames" "I" ∈ lw_G := lwG tb_5 (List.mem_of_getElem? (i := 156) rfl) rfl
theorem gw_5_158 : Cond.laysFinal RX9 "AttributeDeskModel" "frame" "[I" ∈ lw_G := lwG tb_5 (List.mem_of_getElem? (i := 158) rfl) rfl
theorem gw_5_160 : Cond.laysFinal RX9 "AttributeDeskModel" "frameOf" "[I" ∈ lw_G := lwG tb_5 (List.mem_of_getElem? (i := 160) rfl) rfl
theorem gw_5_162 : Cond.lays RX9 "AttributeDeskModel" "tokens" "I" ∈ lw_G := lwG tb_5 (List.mem_of_getElem? (i := 162) rfl) rfl
theorem gw_5_164 : Cond.lays RX9 "AttributeDeskModel" "mode" "I" ∈ lw_G := lwG tb_5 (List.mem_of_getElem? (i := 164) rfl) rfl
theorem gw_5_166 : Cond.lays RX9 "AttributeDeskModel" "nodes" "I" ∈ lw_G := lwG tb_5 (List.mem_of_getElem? (i := 166) rfl) rfl
theorem gw_5_168 : Cond.laysFinal RX9 "AttributeDeskModel" "nodeRule" "[I" ∈ lw_G := lwG tb_5 (List.mem_of_getElem? (i := 168) rfl) rfl
theorem gw_5_170 : Cond.laysFinal RX9 "AttributeDeskModel" "nodeAbove" "[I" ∈ lw_G := lwG tb_5 (List.mem_of_getElem? (i := 170) rfl) rfl
theorem gw_5_172 : Cond.laysFinal RX9 "AttributeDeskModel" "nodePlace" "[I" ∈ lw_G := lwG tb_5 (List.mem_of_getElem? (i := 172) rfl) rfl
theorem gw_5_174 : Cond.laysFinal RX9 "AttributeDeskModel" "nodeOwn" "[I" ∈ lw_G := lwG tb_5 (List.mem_of_getElem? (i := 174) rfl) rfl
theorem gw_5_176 : Cond.laysFinal RX9 "AttributeDeskModel" "nodeChild" "[I" ∈ lw_G := lwG tb_5 (List.mem_of_getElem? (i := 176) rfl) rfl
theorem gw_5_178 : Cond.lays RX9 "AttributeDeskModel" "newNodes" "I" ∈ lw_G := lwG tb_5 (List.mem_of_getElem? (i := 178) rfl) rfl
theorem gw_5_180 : Cond.laysFinal RX9 "AttributeDeskModel" "newRule" "[I" ∈ lw_G := lwG tb_5 (List.mem_of_getElem? (i := 180) rfl) rfl
theorem gw_5_182 : Cond.laysFinal RX9 "AttributeDeskModel" "newAbove" "[I" ∈ lw_G := lwG tb_5 (List.mem_of_getElem? (i := 182) rfl) rfl
theorem gw_5_184 : Cond.laysFinal RX9 "AttributeDeskModel" "newPlace" "[I" ∈ lw_G := lwG tb_5 (List.mem_of_getElem? (i := 184) rfl) rfl
theorem gw_5_186 : Cond.laysFinal RX9 "AttributeDeskModel" "newOwn" "[I" ∈ lw_G := lwG tb_5 (List.mem_of_getElem? (i := 186) rfl) rfl
theorem gw_5_188 : Cond.laysFinal RX9 "AttributeDeskModel" "newMany" "[I" ∈ lw_G := lwG tb_5 (List.mem_of_getElem? (i := 188) rfl) rfl
theorem gw_5_190 : Cond.laysFinal RX9 "AttributeDeskModel" "newChild" "[I" ∈ lw_G := lwG tb_5 (List.mem_of_getElem? (i := 190) rfl) rfl
theorem gw_5_192 : Cond.laysFinal RX9 "AttributeDeskModel" "canBe" "[Z" ∈ lw_G := lwG tb_5 (List.mem_of_getElem? (i := 192) rfl) rfl
theorem gw_5_194 : Cond.laysFinal RX9 "AttributeDeskModel" "canCome" "[Z" ∈ lw_G := lwG tb_5 (List.mem_of_getElem? (i := 194) rfl) rfl
theorem gw_5_196 : Cond.laysFinal RX9 "AttributeDeskModel" "isAbove" "[Z" ∈ lw_G := lwG tb_5 (List.mem_of_getElem? (i := 196) rfl) rfl
theorem gw_5_198 : Cond.lays RX9 "AttributeDeskModel" "isLarge" "Z" ∈ lw_G := lwG tb_5 (List.mem_of_getElem? (i := 198) rfl) rfl
theorem gw_5_200 : Cond.laysFinal RX9 "AttributeDeskModel" "hasGraph" "[Z" ∈ lw_G := lwG tb_5 (List.mem_of_getElem? (i := 200) rfl) rfl
theorem gw_5_202 : Cond.laysFinal RX9 "AttributeDeskModel" "graphs" "[I" ∈ lw_G := lwG tb_5 (List.mem_of_getElem? (i := 202) rfl) rfl
theorem gw_5_204 : Cond.laysFinal RX9 "AttributeDeskModel" "plain" "[I" ∈ lw_G := lwG tb_5 (List.mem_of_getElem? (i := 204) rfl) rfl
theorem gw_5_206 : Cond.laysFinal RX9 "AttributeDeskModel" "isRoundPlain" "[Z" ∈ lw_G := lwG tb_5 (List.mem_of_getElem? (i := 206) rfl) rfl
theorem gw_5_208 : Cond.laysFinal RX9 "AttributeDeskModel" "isRound" "[Z" ∈ lw_G := lwG tb_5 (List.mem_of_getElem? (i := 208) rfl) rfl
theorem gw_5_210 : Cond.laysFinal RX9 "AttributeDeskModel" "reach" "[I" ∈ lw_G := lwG tb_5 (List.mem_of_getElem? (i := 210) rfl) rfl
theorem gw_5_212 : Cond.laysFinal RX9 "AttributeDeskModel" "chosen" "[I" ∈ lw_G := lwG tb_5 (List.mem_of_getElem? (i := 212) rfl) rfl
theorem gw_5_214 : Cond.lays RX9 "AttributeDeskModel" "fresh0" "I" ∈ lw_G := lwG tb_5 (List.mem_of_getElem? (i := 214) rfl) rfl
theorem gw_5_216 : Cond.laysFinal RX9 "AttributeDeskModel" "fresh" "[I" ∈ lw_G := lwG tb_5 (List.mem_of_getElem? (i := 216) rfl) rfl
theorem gw_5_218 : Cond.lays RX9 "AttributeDeskModel" "worked" "I" ∈ lw_G := lwG tb_5 (List.mem_of_getElem? (i := 218) rfl) rfl
theorem gw_5_220 : Cond.laysFinal RX9 "AttributeDeskModel" "workedAt" "[I" ∈ lw_G := lwG tb_5 (List.mem_of_getElem? (i := 220) rfl) rfl
theorem gw_5_222 : Cond.laysFinal RX9 "AttributeDeskModel" "isWorked" "[Z" ∈ lw_G := lwG tb_5 (List.mem_of_getElem? (i := 222) rfl) rfl
theorem gw_5_224 : Cond.laysFinal RX9 "AttributeDeskModel" "isBad" "[Z" ∈ lw_G := lwG tb_5 (List.mem_of_getElem? (i := 224) rfl) rfl
theorem gw_5_226 : Cond.laysFinal RX9 "AttributeDeskModel" "number" "[I" ∈ lw_G := lwG tb_5 (List.mem_of_getElem? (i := 226) rfl) rfl
theorem gw_5_228 : Cond.laysFinal RX9 "AttributeDeskModel" "isWaiting" "[Z" ∈ lw_G := lwG tb_5 (List.mem_of_getElem? (i := 228) rfl) rfl
theorem gw_5_230 : Cond.lays RX9 "AttributeDeskModel" "waits" "I" ∈ lw_G := lwG tb_5 (List.mem_of_getElem? (i := 230) rfl) rfl
theorem gw_5_232 : Cond.laysFinal RX9 "AttributeDeskModel" "waitsFor" "[I" ∈ lw_G := lwG tb_5 (List.mem_of_getElem? (i := 232) rfl) rfl
theorem gw_5_234 : Cond.laysFinal RX9 "AttributeDeskModel" "waitsAt" "[I" ∈ lw_G := lwG tb_5 (List.mem_of_getElem? (i := 234) rfl) rfl
theorem gw_5_236 : Cond.lays RX9 "AttributeDeskModel" "top" "I" ∈ lw_G := lwG tb_5 (List.mem_of_getElem? (i := 236) rfl) rfl
theorem gw_5_238 : Cond.laysFinal RX9 "AttributeDeskModel" "stack" "[I" ∈ lw_G := lwG tb_5 (List.mem_of_getElem? (i := 238) rfl) rfl
theorem gw_6_0 : Cond.laysFinal RX9 "AttributeDeskModel" "stackBad" "[Z" ∈ lw_G := lwG tb_6 (List.mem_of_getElem? (i := 0) rfl) rfl
theorem gw_6_3 : Cond.methodLink RL 17 yX9_feed ∈ lw_G := lwG tb_6 (List.mem_of_getElem? (i := 3) rfl) rfl
theorem gw_6_4 : Cond.instanceMethod yX9_feed ∈ lw_G := lwG tb_6 (List.mem_of_getElem? (i := 4) rfl) rfl
theorem gw_6_5 : Cond.selects RX9 yX9_feed yX9_feed ∈ lw_G := lwG tb_6 (List.mem_of_getElem? (i := 5) rfl) rfl
theorem gw_6_6 : Cond.code yX9_feed cX9_feed 6 (some .int) ∈ lw_G := lwG tb_6 (List.mem_of_getElem? (i := 6) rfl) rfl
theorem gw_6_7 : Cond.methodLink RX9 176 yX9_put ∈ lw_G := lwG tb_6 (List.mem_of_getElem? (i := 7) rfl) rfl
theorem gw_6_9 : Cond.instanceMethod yX9_put ∈ lw_G := lwG tb_6 (List.mem_of_getElem? (i := 9) rfl) rfl
theorem gw_6_10 : Cond.code yX9_put cX9_put 2 none ∈ lw_G := lwG tb_6 (List.mem_of_getElem? (i := 10) rfl) rfl
theorem gw_6_11 : Cond.methodLink RL 22 yX9_end ∈ lw_G := lwG tb_6 (List.mem_of_getElem? (i := 11) rfl) rfl
theorem gw_6_12 : Cond.instanceMethod yX9_end ∈ lw_G := lwG tb_6 (List.mem_of_getElem? (i := 12) rfl) rfl
theorem gw_6_13 : Cond.selects RX9 yX9_end yX9_end ∈ lw_G := lwG tb_6 (List.mem_of_getElem? (i := 13) rfl) rfl
theorem gw_6_14 : Cond.code yX9_end cX9_end 2 (some .int) ∈ lw_G := lwG tb_6 (List.mem_of_getElem? (i := 14) rfl) rfl
theorem gw_6_15 : Cond.methodLink RX9 180 yX9_in ∈ lw_G := lwG tb_6 (List.mem_of_getElem? (i := 15) rfl) rfl
theorem gw_6_16 : Cond.static yX9_in ∈ lw_G := lwG tb_6 (List.mem_of_getElem? (i := 16) rfl) rfl
theorem gw_6_17 : Cond.code yX9_in cX9_in 3 (some .boolean) ∈ lw_G := lwG tb_6 (List.mem_of_getElem? (i := 17) rfl) rfl
theorem gw_6_18 : Cond.methodLink RL 27 yX9_grammar ∈ lw_G := lwG tb_6 (List.mem_of_getElem? (i := 18) rfl) rfl
theorem gw_6_19 : Cond.instanceMethod yX9_grammar ∈ lw_G := lwG tb_6 (List.mem_of_getElem? (i := 19) rfl) rfl
theorem gw_6_20 : Cond.selects RX9 yX9_grammar yX9_grammar ∈ lw_G := lwG tb_6 (List.mem_of_getElem? (i := 20) rfl) rfl
theorem gw_6_21 : Cond.code yX9_grammar cX9_grammar 2 (some .int) ∈ lw_G := lwG tb_6 (List.mem_of_getElem? (i := 21) rfl) rfl
theorem gw_6_22 : Cond.methodLink RX9 383 yX9_takesTape ∈ lw_G := lwG tb_6 (List.mem_of_getElem? (i := 22) rfl) rfl
theorem gw_6_24 : Cond.instanceMethod yX9_takesTape ∈ lw_G := lwG tb_6 (List.mem_of_getElem? (i := 24) rfl) rfl
theorem gw_6_25 : Cond.code yX9_takesTape cX9_takesTape 2 none ∈ lw_G := lwG tb_6 (List.mem_of_getElem? (i := 25) rfl) rfl
theorem gw_6_26 : Cond.methodLink RX9 386 yX9_reads ∈ lw_G := lwG tb_6 (List.mem_of_getElem? (i := 26) rfl) rfl
theorem gw_6_28 : Cond.instanceMethod yX9_reads ∈ lw_G := lwG tb_6 (List.mem_of_getElem? (i := 28) rfl) rfl
theorem gw_6_29 : Cond.code yX9_reads cX9_reads 3 none ∈ lw_G := lwG tb_6 (List.mem_of_getElem? (i := 29) rfl) rfl
theorem gw_6_30 : Cond.methodLink RX9 242 yX9_next ∈ lw_G := lwG tb_6 (List.mem_of_getElem? (i := 30) rfl) rfl
theorem gw_6_32 : Cond.instanceMethod yX9_next ∈ lw_G := lwG tb_6 (List.mem_of_getElem? (i := 32) rfl) rfl
theorem gw_6_33 : Cond.code yX9_next cX9_next 2 none ∈ lw_G := lwG tb_6 (List.mem_of_getElem? (i := 33) rfl) rfl
theorem gw_6_34 : Cond.methodLink RX9 203 yX9_blanks ∈ lw_G := lwG tb_6 (List.mem_of_getElem? (i := 34) rfl) rfl
theorem gw_6_36 : Cond.instanceMethod yX9_blanks ∈ lw_G := lwG tb_6 (List.mem_of_getElem? (i := 36) rfl) rfl
theorem gw_6_37 : Cond.code yX9_blanks cX9_blanks 1 none ∈ lw_G := lwG tb_6 (List.mem_of_getElem? (i := 37) rfl) rfl
theorem gw_6_56 : Cond.methodLink RX9 258 yX9_isWord ∈ lw_G := lwG tb_6 (List.mem_of_getElem? (i := 56) rfl) rfl
theorem gw_6_58 : Cond.instanceMethod yX9_isWord ∈ lw_G := lwG tb_6 (List.mem_of_getElem? (i := 58) rfl) rfl
theorem gw_6_59 : Cond.code yX9_isWord cX9_isWord 2 (some .boolean) ∈ lw_G := lwG tb_6 (List.mem_of_getElem? (i := 59) rfl) rfl
theorem gw_6_60 : Cond.methodLink RX9 234 yX9_isWell ∈ lw_G := lwG tb_6 (List.mem_of_getElem? (i := 60) rfl) rfl
theorem gw_6_62 : Cond.instanceMethod yX9_isWell ∈ lw_G := lwG tb_6 (List.mem_of_getElem? (i := 62) rfl) rfl
theorem gw_6_63 : Cond.code yX9_isWell cX9_isWell 1 (some .boolean) ∈ lw_G := lwG tb_6 (List.mem_of_getElem? (i := 63) rfl) rfl
theorem gw_6_64 : Cond.methodLink RX9 245 yX9_stray ∈ lw_G := lwG tb_6 (List.mem_of_getElem? (i := 64) rfl) rfl
theorem gw_6_66 : Cond.instanceMethod yX9_stray ∈ lw_G := lwG tb_6 (List.mem_of_getElem? (i := 66) rfl) rfl
theorem gw_6_67 : Cond.code yX9_stray cX9_stray 1 none ∈ lw_G := lwG tb_6 (List.mem_of_getElem? (i := 67) rfl) rfl
theorem gw_6_68 : Cond.methodLink RX9 193 yX9_fails ∈ lw_G := lwG tb_6 (List.mem_of_getElem? (i := 68) rfl) rfl
theorem gw_6_70 : Cond.instanceMethod yX9_fails ∈ lw_G := lwG tb_6 (List.mem_of_getElem? (i := 70) rfl) rfl
theorem gw_6_71 : Cond.code yX9_fails cX9_fails 3 none ∈ lw_G := lwG tb_6 (List.mem_of_getElem? (i := 71) rfl) rfl
theorem gw_7_20 : Cond.methodLink RL 35 yX9_fault ∈ lw_G := lwG tb_7 (List.mem_of_getElem? (i := 20) rfl) rfl
theorem gw_7_21 : Cond.instanceMethod yX9_fault ∈ lw_G := lwG tb_7 (List.mem_of_getElem? (i := 21) rfl) rfl
theorem gw_7_22 : Cond.selects RX9 yX9_fault yX9_fault ∈ lw_G := lwG tb_7 (List.mem_of_getElem? (i := 22) rfl) rfl
theorem gw_7_23 : Cond.code yX9_fault cX9_fault 2 (some .int) ∈ lw_G := lwG tb_7 (List.mem_of_getElem? (i := 23) rfl) rfl
theorem gw_7_24 : Cond.methodLink RL 31 yX9_tree ∈ lw_G := lwG tb_7 (List.mem_of_getElem? (i := 24) rfl) rfl
theorem gw_7_25 : Cond.instanceMethod yX9_tree ∈ lw_G := lwG tb_7 (List.mem_of_getElem? (i := 25) rfl) rfl
theorem gw_7_26 : Cond.selects RX9 yX9_tree yX9_tree ∈ lw_G := lwG tb_7 (List.mem_of_getElem? (i := 26) rfl) rfl
theorem gw_7_27 : Cond.code yX9_tree cX9_tree 5 (some .int) ∈ lw_G := lwG tb_7 (List.mem_of_getElem? (i := 27) rfl) rfl
theorem gw_7_36 : Cond.methodLink RL 40 yX9_symbol_ ∈ lw_G := lwG tb_7 (List.mem_of_getElem? (i := 36) rfl) rfl
theorem gw_7_37 : Cond.instanceMethod yX9_symbol_ ∈ lw_G := lwG tb_7 (List.mem_of_getElem? (i := 37) rfl) rfl
theorem gw_7_38 : Cond.selects RX9 yX9_symbol_ yX9_symbol_ ∈ lw_G := lwG tb_7 (List.mem_of_getElem? (i := 38) rfl) rfl
theorem gw_7_39 : Cond.code yX9_symbol_ cX9_symbol_ 3 (some .int) ∈ lw_G := lwG tb_7 (List.mem_of_getElem? (i := 39) rfl) rfl
theorem gw_7_40 : Cond.methodLink RL 44 yX9_graph ∈ lw_G := lwG tb_7 (List.mem_of_getElem? (i := 40) rfl) rfl
theorem gw_7_41 : Cond.instanceMethod yX9_graph ∈ lw_G := lwG tb_7 (List.mem_of_getElem? (i := 41) rfl) rfl
theorem gw_7_42 : Cond.selects RX9 yX9_graph yX9_graph ∈ lw_G := lwG tb_7 (List.mem_of_getElem? (i := 42) rfl) rfl
theorem gw_7_43 : Cond.code yX9_graph cX9_graph 3 (some .int) ∈ lw_G := lwG tb_7 (List.mem_of_getElem? (i := 43) rfl) rfl
theorem gw_7_44 : Cond.methodLink RL 48 yX9_rule_ ∈ lw_G := lwG tb_7 (List.mem_of_getElem? (i := 44) rfl) rfl
theorem gw_7_45 : Cond.instanceMethod yX9_rule_ ∈ lw_G := lwG tb_7 (List.mem_of_getElem? (i := 45) rfl) rfl
theorem gw_7_46 : Cond.selects RX9 yX9_rule_ yX9_rule_ ∈ lw_G := lwG tb_7 (List.mem_of_getElem? (i := 46) rfl) rfl
theorem gw_7_47 : Cond.code yX9_rule_ cX9_rule_ 3 (some .int) ∈ lw_G := lwG tb_7 (List.mem_of_getElem? (i := 47) rfl) rfl
theorem gw_7_48 : Cond.methodLink RL 52 yX9_test ∈ lw_G := lwG tb_7 (List.mem_of_getElem? (i := 48) rfl) rfl
theorem gw_7_49 : Cond.instanceMethod yX9_test ∈ lw_G := lwG tb_7 (List.mem_of_getElem? (i := 49) rfl) rfl
theorem gw_7_50 : Cond.selects RX9 yX9_test yX9_test ∈ lw_G := lwG tb_7 (List.mem_of_getElem? (i := 50) rfl) rfl
theorem gw_7_51 : Cond.code yX9_test cX9_test 4 (some .int) ∈ lw_G := lwG tb_7 (List.mem_of_getElem? (i := 51) rfl) rfl
theorem gw_7_52 : Cond.methodLink RL 56 yX9_node ∈ lw_G := lwG tb_7 (List.mem_of_getElem? (i := 52) rfl) rfl
theorem gw_7_53 : Cond.instanceMethod yX9_node ∈ lw_G := lwG tb_7 (List.mem_of_getElem? (i := 53) rfl) rfl
theorem gw_7_54 : Cond.selects RX9 yX9_node yX9_node ∈ lw_G := lwG tb_7 (List.mem_of_getElem? (i := 54) rfl) rfl
theorem gw_7_55 : Cond.code yX9_node cX9_node 3 (some .int) ∈ lw_G := lwG tb_7 (List.mem_of_getElem? (i := 55) rfl) rfl
theorem gw_7_56 : Cond.methodLink RL 61 yX9_own ∈ lw_G := lwG tb_7 (List.mem_of_getElem? (i := 56) rfl) rfl
theorem gw_7_57 : Cond.instanceMethod yX9_own ∈ lw_G := lwG tb_7 (List.mem_of_getElem? (i := 57) rfl) rfl
theorem gw_7_58 : Cond.selects RX9 yX9_own yX9_own ∈ lw_G := lwG tb_7 (List.mem_of_getElem? (i := 58) rfl) rfl
theorem gw_7_59 : Cond.code yX9_own cX9_own 3 (some .boolean) ∈ lw_G := lwG tb_7 (List.mem_of_getElem? (i := 59) rfl) rfl
theorem gw_7_60 : Cond.methodLink RL 65 yX9_demand ∈ lw_G := lwG tb_7 (List.mem_of_getElem? (i := 60) rfl) rfl
theorem gw_7_61 : Cond.instanceMethod yX9_demand ∈ lw_G := lwG tb_7 (List.mem_of_getElem? (i := 61) rfl) rfl
theorem gw_7_62 : Cond.selects RX9 yX9_demand yX9_demand ∈ lw_G := lwG tb_7 (List.mem_of_getElem? (i := 62) rfl) rfl
theorem gw_7_63 : Cond.code yX9_demand cX9_demand 7 (some .int) ∈ lw_G := lwG tb_7 (List.mem_of_getElem? (i := 63) rfl) rfl
theorem gw_7_64 : Cond.methodLink RX9 473 yX9_isAttribute ∈ lw_G := lwG tb_7 (List.mem_of_getElem? (i := 64) rfl) rfl
theorem gw_7_66 : Cond.instanceMethod yX9_isAttribute ∈ lw_G := lwG tb_7 (List.mem_of_getElem? (i := 66) rfl) rfl
theorem gw_7_67 : Cond.code yX9_isAttribute cX9_isAttribute 3 (some .boolean) ∈ lw_G := lwG tb_7 (List.mem_of_getElem? (i := 67) rfl) rfl
theorem gw_7_100 : Cond.methodLink RL 70 yX9_value_ ∈ lw_G := lwG tb_7 (List.mem_of_getElem? (i := 100) rfl) rfl
theorem gw_7_101 : Cond.instanceMethod yX9_value_ ∈ lw_G := lwG tb_7 (List.mem_of_getElem? (i := 101) rfl) rfl
theorem gw_7_102 : Cond.selects RX9 yX9_value_ yX9_value_ ∈ lw_G := lwG tb_7 (List.mem_of_getElem? (i := 102) rfl) rfl
theorem gw_7_103 : Cond.code yX9_value_ cX9_value_ 5 (some .int) ∈ lw_G := lwG tb_7 (List.mem_of_getElem? (i := 103) rfl) rfl
theorem gw_7_104 : Cond.methodLink RL 74 yX9_order_ ∈ lw_G := lwG tb_7 (List.mem_of_getElem? (i := 104) rfl) rfl
theorem gw_7_105 : Cond.instanceMethod yX9_order_ ∈ lw_G := lwG tb_7 (List.mem_of_getElem? (i := 105) rfl) rfl
theorem gw_7_106 : Cond.selects RX9 yX9_order_ yX9_order_ ∈ lw_G := lwG tb_7 (List.mem_of_getElem? (i := 106) rfl) rfl
theorem gw_7_107 : Cond.code yX9_order_ cX9_order_ 2 (some .int) ∈ lw_G := lwG tb_7 (List.mem_of_getElem? (i := 107) rfl) rfl
theorem gw_7_108 : Cond.methodLink RL 78 yX9_about ∈ lw_G := lwG tb_7 (List.mem_of_getElem? (i := 108) rfl) rfl
theorem gw_7_109 : Cond.instanceMethod yX9_about ∈ lw_G := lwG tb_7 (List.mem_of_getElem? (i := 109) rfl) rfl
theorem gw_7_110 : Cond.selects RX9 yX9_about yX9_about ∈ lw_G := lwG tb_7 (List.mem_of_getElem? (i := 110) rfl) rfl
theorem gw_7_111 : Cond.code yX9_about cX9_about 2 (some .int) ∈ lw_G := lwG tb_7 (List.mem_of_getElem? (i := 111) rfl) rfl
theorem gs_X8_isItem : Cond.selects RX8 yX8_isItem yX8_isItem ∈ lw_G := lwG (fun _ h => List.mem_append_left _ h) (List.mem_of_getElem? (i := 0) rfl) rfl
theorem gs_X8_isNode : Cond.selects RX8 yX8_isNode yX8_isNode ∈ lw_G := lwG (fun _ h => List.mem_append_left _ h) (List.mem_of_getElem? (i := 1) rfl) rfl
theorem gs_X8_keepFault : Cond.selects RX8 yX8_keepFault yX8_keepFault ∈ lw_G := lwG (fun _ h => List.mem_append_left _ h) (List.mem_of_getElem? (i := 2) rfl) rfl
theorem gs_X8_putWord : Cond.selects RX8 yX8_putWord yX8_putWord ∈ lw_G := lwG (fun _ h => List.mem_append_left _ h) (List.mem_of_getElem? (i := 3) rfl) rfl
theorem gs_X2_goIf : Cond.selects RX2 yX2_goIf yX2_goIf ∈ lw_G := lwG (fun _ h => List.mem_append_left _ h) (List.mem_of_getElem? (i := 4) rfl) rfl
theorem gs_X2_step : Cond.selects RX2 yX2_step yX2_step ∈ lw_G := lwG (fun _ h => List.mem_append_left _ h) (List.mem_of_getElem? (i := 5) rfl) rfl
theorem gs_X2_symbolStep : Cond.selects RX2 yX2_symbolStep yX2_symbolStep ∈ lw_G := lwG (fun _ h => List.mem_append_left _ h) (List.mem_of_getElem? (i := 6) rfl) rfl
theorem gs_X3_skipBlanks : Cond.selects RX3 yX3_skipBlanks yX3_skipBlanks ∈ lw_G := lwG (fun _ h => List.mem_append_left _ h) (List.mem_of_getElem? (i := 7) rfl) rfl
theorem gs_X9_blanks : Cond.selects RX9 yX9_blanks yX9_blanks ∈ lw_G := lwG (fun _ h => List.mem_append_left _ h) (List.mem_of_getElem? (i := 8) rfl) rfl
theorem gs_X9_fails : Cond.selects RX9 yX9_fails yX9_fails ∈ lw_G := lwG (fun _ h => List.mem_append_left _ h) (List.mem_of_getElem? (i := 9) rfl) rfl
theorem gs_X9_isAttribute : Cond.selects RX9 yX9_isAttribute yX9_isAttribute ∈ lw_G := lwG (fun _ h => List.mem_append_left _ h) (List.mem_of_getElem? (i := 10) rfl) rfl
theorem gs_X9_isWell : Cond.selects RX9 yX9_isWell yX9_isWell ∈ lw_G := lwG (fun _ h => List.mem_append_left _ h) (List.mem_of_getElem? (i := 11) rfl) rfl
theorem gs_X9_isWord : Cond.selects RX9 yX9_isWord yX9_isWord ∈ lw_G := lwG (fun _ h => List.mem_append_left _ h) (List.mem_of_getElem? (i := 12) rfl) rfl
theorem gs_X9_next : Cond.selects RX9 yX9_next yX9_next ∈ lw_G := lwG (fun _ h => List.mem_append_left _ h) (List.mem_of_getElem? (i := 13) rfl) rfl
theorem gs_X9_put : Cond.selects RX9 yX9_put yX9_put ∈ lw_G := lwG (fun _ h => List.mem_append_left _ h) (List.mem_of_getElem? (i := 14) rfl) rfl
theorem gs_X9_reads : Cond.selects RX9 yX9_reads yX9_reads ∈ lw_G := lwG (fun _ h => List.mem_append_left _ h) (List.mem_of_getElem? (i := 15) rfl) rfl
theorem gs_X9_stray : Cond.selects RX9 yX9_stray yX9_stray ∈ lw_G := lwG (fun _ h => List.mem_append_left _ h) (List.mem_of_getElem? (i := 16) rfl) rfl
theorem gs_X9_takesTape : Cond.selects RX9 yX9_takesTape yX9_takesTape ∈ lw_G := lwG (fun _ h => List.mem_append_left _ h) (List.mem_of_getElem? (i := 17) rfl) rfl
theorem gI_Y {c : Cond} (h : c ∈ lw_G) : GoodIn lw_G (c :: lw_G) := fun w hw => (List.mem_cons.mp hw).elim (fun q => by rw [q]; exact ⟨h, lwG_good h⟩) (fun q => ⟨q, lwG_good q⟩)
theorem gI_V {own C : String} {idx : Nat} {y : MethodName} {ws : List Cond} (h1 : Cond.methodLink own idx y ∈ lw_G) (h2 : Cond.instanceMethod y ∈ lw_G) (h3 : Cond.selects C y y ∈ lw_G) (h4 : Cond.initialized C ∈ lw_G) (h : GoodIn lw_G ws) : GoodIn lw_G (wsV own idx C y ws) := by
  intro w hw
  unfold wsV at hw
  rcases List.mem_append.mp hw with q | q
  · rcases List.mem_cons.mp q with rfl | q
    · exact ⟨h1, lwG_good h1⟩
    · rcases List.mem_cons.mp q with rfl | q
      · exact ⟨h2, lwG_good h2⟩
      · rcases List.mem_cons.mp q with rfl | q
        · exact ⟨h3, lwG_good h3⟩
        · rcases List.mem_cons.mp q with rfl | q
          · exact ⟨h4, lwG_good h4⟩
          · exact absurd q List.not_mem_nil
  · exact h w q
theorem gI_S {own : String} {idx : Nat} {y : MethodName} {ws : List Cond} (h1 : Cond.methodLink own idx y ∈ lw_G) (h2 : Cond.static y ∈ lw_G) (h3 : Cond.initialized y.cls ∈ lw_G) (h : GoodIn lw_G ws) : GoodIn lw_G (va_wsS own idx y ws) := by
  intro w hw
  unfold va_wsS at hw
  rcases List.mem_append.mp hw with q | q
  · rcases List.mem_cons.mp q with rfl | q
    · exact ⟨h1, lwG_good h1⟩
    · rcases List.mem_cons.mp q with rfl | q
      · exact ⟨h2, lwG_good h2⟩
      · rcases List.mem_cons.mp q with rfl | q
        · exact ⟨h3, lwG_good h3⟩
        · exact absurd q List.not_mem_nil
  · exact h w q
theorem inG_X0 : ∀ w ∈ wsX00, w ∈ lw_G := fun w h => by
  obtain ⟨k, hk, rfl⟩ := List.mem_map.mp h
  exact (match k, List.mem_range.mp hk with
    | 0, _ => gw_1_216
    | 1, _ => gw_1_218
    | 2, _ => gw_1_220
    | 3, _ => gw_1_222
    | 4, _ => gw_1_224
    | 5, _ => gw_1_226
    | 6, _ => gw_1_228
    | 7, _ => gw_1_230
    | 8, _ => gw_1_232
    | 9, _ => gw_1_234
    | 10, _ => gw_1_236
    | j + 11, h => absurd h (by omega))
theorem inG_X1 : ∀ w ∈ wsX10, w ∈ lw_G := fun w h => by
  obtain ⟨k, hk, rfl⟩ := List.mem_map.mp h
  exact (match k, List.mem_range.mp hk with
    | 0, _ => gw_1_73
    | 1, _ => gw_1_75
    | 2, _ => gw_1_77
    | 3, _ => gw_1_79
    | 4, _ => gw_1_81
    | 5, _ => gw_1_83
    | 6, _ => gw_1_85
    | 7, _ => gw_1_87
    | 8, _ => gw_1_89
    | 9, _ => gw_1_91
    | 10, _ => gw_1_93
    | 11, _ => gw_1_95
    | 12, _ => gw_1_97
    | 13, _ => gw_1_99
    | 14, _ => gw_1_101
    | 15, _ => gw_1_103
    | 16, _ => gw_1_105
    | 17, _ => gw_1_107
    | j + 18, h => absurd h (by omega))
theorem inG_X2 : ∀ w ∈ wsX20, w ∈ lw_G := fun w h => by
  obtain ⟨k, hk, rfl⟩ := List.mem_map.mp h
  exact (match k, List.mem_range.mp hk with
    | 0, _ => gw_2_6
    | 1, _ => gw_2_8
    | 2, _ => gw_2_10
    | 3, _ => gw_2_12
    | 4, _ => gw_2_14
    | 5, _ => gw_2_16
    | 6, _ => gw_2_18
    | j + 7, h => absurd h (by omega))
theorem inG_X3 : ∀ w ∈ wsX30, w ∈ lw_G := fun w h => by
  obtain ⟨k, hk, rfl⟩ := List.mem_map.mp h
  exact (match k, List.mem_range.mp hk with
    | 0, _ => gw_1_177
    | 1, _ => gw_1_179
    | 2, _ => gw_1_181
    | 3, _ => gw_1_183
    | 4, _ => gw_1_185
    | 5, _ => gw_1_187
    | 6, _ => gw_1_189
    | j + 7, h => absurd h (by omega))
theorem inG_X4 : ∀ w ∈ wsX40, w ∈ lw_G := fun w h => by
  obtain ⟨k, hk, rfl⟩ := List.mem_map.mp h
  exact (match k, List.mem_range.mp hk with
    | 0, _ => gw_1_141
    | 1, _ => gw_1_143
    | 2, _ => gw_1_145
    | 3, _ => gw_1_147
    | 4, _ => gw_1_149
    | 5, _ => gw_1_151
    | j + 6, h => absurd h (by omega))
theorem inG_X5 : ∀ w ∈ wsX50, w ∈ lw_G := fun w h => by
  obtain ⟨k, hk, rfl⟩ := List.mem_map.mp h
  exact (match k, List.mem_range.mp hk with
    | 0, _ => gw_2_34
    | 1, _ => gw_2_36
    | 2, _ => gw_2_38
    | 3, _ => gw_2_40
    | 4, _ => gw_2_42
    | 5, _ => gw_2_44
    | 6, _ => gw_2_46
    | j + 7, h => absurd h (by omega))
theorem inG_X6 : ∀ w ∈ wsX60, w ∈ lw_G := fun w h => by
  obtain ⟨k, hk, rfl⟩ := List.mem_map.mp h
  exact (match k, List.mem_range.mp hk with
    | 0, _ => gw_2_77
    | 1, _ => gw_2_79
    | 2, _ => gw_2_81
    | 3, _ => gw_2_83
    | 4, _ => gw_2_85
    | 5, _ => gw_2_87
    | 6, _ => gw_2_89
    | 7, _ => gw_2_91
    | 8, _ => gw_2_93
    | 9, _ => gw_2_95
    | 10, _ => gw_2_97
    | 11, _ => gw_2_99
    | 12, _ => gw_2_101
    | 13, _ => gw_2_103
    | 14, _ => gw_2_105
    | j + 15, h => absurd h (by omega))
theorem inG_X7 : ∀ w ∈ wsX70, w ∈ lw_G := fun w h => by
  obtain ⟨k, hk, rfl⟩ := List.mem_map.mp h
  exact (match k, List.mem_range.mp hk with
    | 0, _ => gw_2_131
    | 1, _ => gw_2_133
    | 2, _ => gw_2_135
    | 3, _ => gw_2_137
    | 4, _ => gw_2_139
    | 5, _ => gw_2_141
    | 6, _ => gw_2_143
    | 7, _ => gw_2_145
    | 8, _ => gw_2_147
    | 9, _ => gw_2_149
    | 10, _ => gw_2_151
    | 11, _ => gw_2_153
    | 12, _ => gw_2_155
    | 13, _ => gw_2_157
    | j + 14, h => absurd h (by omega))
theorem inG_X8 : ∀ w ∈ wsX80, w ∈ lw_G := fun w h => by
  obtain ⟨k, hk, rfl⟩ := List.mem_map.mp h
  exact (match k, List.mem_range.mp hk with
    | 0, _ => gw_2_173
    | 1, _ => gw_2_175
    | 2, _ => gw_2_177
    | 3, _ => gw_2_179
    | 4, _ => gw_2_181
    | 5, _ => gw_2_183
    | 6, _ => gw_2_185
    | 7, _ => gw_2_187
    | 8, _ => gw_2_189
    | 9, _ => gw_2_191
    | 10, _ => gw_2_193
    | 11, _ => gw_2_195
    | 12, _ => gw_2_197
    | j + 13, h => absurd h (by omega))
theorem inG_X9 : ∀ w ∈ wsX90, w ∈ lw_G := fun w h => by
  obtain ⟨k, hk, rfl⟩ := List.mem_map.mp h
  exact (match k, List.mem_range.mp hk with
    | 0, _ => gw_5_82
    | 1, _ => gw_5_84
    | 2, _ => gw_5_86
    | 3, _ => gw_5_88
    | 4, _ => gw_5_90
    | 5, _ => gw_5_92
    | 6, _ => gw_5_94
    | 7, _ => gw_5_96
    | 8, _ => gw_5_98
    | 9, _ => gw_5_100
    | 10, _ => gw_5_102
    | 11, _ => gw_5_104
    | 12, _ => gw_5_106
    | 13, _ => gw_5_108
    | 14, _ => gw_5_110
    | 15, _ => gw_5_112
    | 16, _ => gw_5_114
    | 17, _ => gw_5_116
    | 18, _ => gw_5_118
    | 19, _ => gw_5_120
    | 20, _ => gw_5_122
    | 21, _ => gw_5_124
    | 22, _ => gw_5_126
    | 23, _ => gw_5_128
    | 24, _ => gw_5_130
    | 25, _ => gw_5_132
    | 26, _ => gw_5_134
    | 27, _ => gw_5_136
    | 28, _ => gw_5_138
    | 29, _ => gw_5_140
    | 30, _ => gw_5_142
    | 31, _ => gw_5_144
    | 32, _ => gw_5_146
    | 33, _ => gw_5_148
    | 34, _ => gw_5_150
    | 35, _ => gw_5_152
    | 36, _ => gw_5_154
    | 37, _ => gw_5_156
    | 38, _ => gw_5_158
    | 39, _ => gw_5_160
    | 40, _ => gw_5_162
    | 41, _ => gw_5_164
    | 42, _ => gw_5_166
    | 43, _ => gw_5_168
    | 44, _ => gw_5_170
    | 45, _ => gw_5_172
    | 46, _ => gw_5_174
    | 47, _ => gw_5_176
    | 48, _ => gw_5_178
    | 49, _ => gw_5_180
    | 50, _ => gw_5_182
    | 51, _ => gw_5_184
    | 52, _ => gw_5_186
    | 53, _ => gw_5_188
    | 54, _ => gw_5_190
    | 55, _ => gw_5_192
    | 56, _ => gw_5_194
    | 57, _ => gw_5_196
    | 58, _ => gw_5_198
    | 59, _ => gw_5_200
    | 60, _ => gw_5_202
    | 61, _ => gw_5_204
    | 62, _ => gw_5_206
    | 63, _ => gw_5_208
    | 64, _ => gw_5_210
    | 65, _ => gw_5_212
    | 66, _ => gw_5_214
    | 67, _ => gw_5_216
    | 68, _ => gw_5_218
    | 69, _ => gw_5_220
    | 70, _ => gw_5_222
    | 71, _ => gw_5_224
    | 72, _ => gw_5_226
    | 73, _ => gw_5_228
    | 74, _ => gw_5_230
    | 75, _ => gw_5_232
    | 76, _ => gw_5_234
    | 77, _ => gw_5_236
    | 78, _ => gw_5_238
    | 79, _ => gw_6_0
    | j + 80, h => absurd h (by omega))
noncomputable def wyX0_init : List Cond := .code yX0_init cX0_init 3 none :: lw_G
theorem gy_X0_init : GoodIn lw_G wyX0_init := gI_Y gw_1_202
noncomputable def wyX1_clear : List Cond := .code yX1_clear cX1_clear 1 none :: lw_G
theorem gy_X1_clear : GoodIn lw_G wyX1_clear := gI_Y gw_2_223
noncomputable def wyX1_init : List Cond := .code yX1_init cX1_init 1 none :: lw_G
theorem gy_X1_init : GoodIn lw_G wyX1_init := gI_Y gw_1_24
noncomputable def wyX2_goIf : List Cond := .code yX2_goIf cX2_goIf 3 (some .int) :: lw_G
theorem gy_X2_goIf : GoodIn lw_G wyX2_goIf := gI_Y gw_3_153
noncomputable def wyX2_init : List Cond := .code yX2_init cX2_init 3 none :: lw_G
theorem gy_X2_init : GoodIn lw_G wyX2_init := gI_Y gw_1_196
noncomputable def wyX2_read : List Cond := .code yX2_read cX2_read 5 (some .int) :: lw_G
theorem gy_X2_read : GoodIn lw_G wyX2_read := gI_Y gw_2_219
noncomputable def wyX2_step : List Cond := .code yX2_step cX2_step 1 (some .int) :: lw_G
theorem gy_X2_step : GoodIn lw_G wyX2_step := gI_Y gw_3_116
noncomputable def wyX2_symbolStep : List Cond := .code yX2_symbolStep cX2_symbolStep 1 (some .int) :: lw_G
theorem gy_X2_symbolStep : GoodIn lw_G wyX2_symbolStep := gI_Y gw_3_120
noncomputable def wyX3_begin : List Cond := .code yX3_begin cX3_begin 2 none :: lw_G
theorem gy_X3_begin : GoodIn lw_G wyX3_begin := gI_Y gw_2_227
noncomputable def wyX3_init : List Cond := .code yX3_init cX3_init 2 none :: lw_G
theorem gy_X3_init : GoodIn lw_G wyX3_init := gI_Y gw_1_158
noncomputable def wyX3_next : List Cond := .code yX3_next cX3_next 2 none :: lw_G
theorem gy_X3_next : GoodIn lw_G wyX3_next := gI_Y gw_2_234
noncomputable def wyX3_skipBlanks : List Cond := .code yX3_skipBlanks cX3_skipBlanks 3 (some .int) :: lw_G
theorem gy_X3_skipBlanks : GoodIn lw_G wyX3_skipBlanks := gI_Y gw_2_238
noncomputable def wyX4_init : List Cond := .code yX4_init cX4_init 1 none :: lw_G
theorem gy_X4_init : GoodIn lw_G wyX4_init := gI_Y gw_1_118
noncomputable def wyX5_init : List Cond := .code yX5_init cX5_init 4 none :: lw_G
theorem gy_X5_init : GoodIn lw_G wyX5_init := gI_Y gw_2_25
noncomputable def wyX6_init : List Cond := .code yX6_init cX6_init 2 none :: lw_G
theorem gy_X6_init : GoodIn lw_G wyX6_init := gI_Y gw_2_53
noncomputable def wyX7_init : List Cond := .code yX7_init cX7_init 3 none :: lw_G
theorem gy_X7_init : GoodIn lw_G wyX7_init := gI_Y gw_2_112
noncomputable def wyX8_about : List Cond := .code yX8_about cX8_about 2 (some .int) :: lw_G
theorem gy_X8_about : GoodIn lw_G wyX8_about := gI_Y gw_4_235
noncomputable def wyX8_demand : List Cond := .code yX8_demand cX8_demand 3 (some .int) :: lw_G
theorem gy_X8_demand : GoodIn lw_G wyX8_demand := gI_Y gw_4_157
noncomputable def wyX8_end : List Cond := .code yX8_end cX8_end 2 (some .int) :: lw_G
theorem gy_X8_end : GoodIn lw_G wyX8_end := gI_Y gw_2_211
noncomputable def wyX8_fault : List Cond := .code yX8_fault cX8_fault 2 (some .int) :: lw_G
theorem gy_X8_fault : GoodIn lw_G wyX8_fault := gI_Y gw_4_103
noncomputable def wyX8_feed : List Cond := .code yX8_feed cX8_feed 6 (some .int) :: lw_G
theorem gy_X8_feed : GoodIn lw_G wyX8_feed := gI_Y gw_2_203
noncomputable def wyX8_grammar : List Cond := .code yX8_grammar cX8_grammar 3 (some .int) :: lw_G
theorem gy_X8_grammar : GoodIn lw_G wyX8_grammar := gI_Y gw_2_215
noncomputable def wyX8_graph : List Cond := .code yX8_graph cX8_graph 3 (some .int) :: lw_G
theorem gy_X8_graph : GoodIn lw_G wyX8_graph := gI_Y gw_4_119
noncomputable def wyX8_init : List Cond := .code yX8_init cX8_init 1 none :: lw_G
theorem gy_X8_init : GoodIn lw_G wyX8_init := gI_Y gw_1_16
noncomputable def wyX8_isItem : List Cond := .code yX8_isItem cX8_isItem 3 (some .boolean) :: lw_G
theorem gy_X8_isItem : GoodIn lw_G wyX8_isItem := gI_Y gw_4_161
noncomputable def wyX8_isNode : List Cond := .code yX8_isNode cX8_isNode 2 (some .boolean) :: lw_G
theorem gy_X8_isNode : GoodIn lw_G wyX8_isNode := gI_Y gw_4_144
noncomputable def wyX8_keepFault : List Cond := .code yX8_keepFault cX8_keepFault 2 none :: lw_G
theorem gy_X8_keepFault : GoodIn lw_G wyX8_keepFault := gI_Y gw_3_210
noncomputable def wyX8_node : List Cond := .code yX8_node cX8_node 3 (some .int) :: lw_G
theorem gy_X8_node : GoodIn lw_G wyX8_node := gI_Y gw_4_140
noncomputable def wyX8_order : List Cond := .code yX8_order cX8_order 2 (some .int) :: lw_G
theorem gy_X8_order : GoodIn lw_G wyX8_order := gI_Y gw_4_231
noncomputable def wyX8_own : List Cond := .code yX8_own cX8_own 3 (some .boolean) :: lw_G
theorem gy_X8_own : GoodIn lw_G wyX8_own := gI_Y gw_4_152
noncomputable def wyX8_putWord : List Cond := .code yX8_putWord cX8_putWord 3 none :: lw_G
theorem gy_X8_putWord : GoodIn lw_G wyX8_putWord := gI_Y gw_2_207
noncomputable def wyX8_rule : List Cond := .code yX8_rule cX8_rule 3 (some .int) :: lw_G
theorem gy_X8_rule : GoodIn lw_G wyX8_rule := gI_Y gw_4_123
noncomputable def wyX8_symbol : List Cond := .code yX8_symbol cX8_symbol 3 (some .int) :: lw_G
theorem gy_X8_symbol : GoodIn lw_G wyX8_symbol := gI_Y gw_4_107
noncomputable def wyX8_test : List Cond := .code yX8_test cX8_test 2 (some .int) :: lw_G
theorem gy_X8_test : GoodIn lw_G wyX8_test := gI_Y gw_4_128
noncomputable def wyX8_tree : List Cond := .code yX8_tree cX8_tree 3 (some .int) :: lw_G
theorem gy_X8_tree : GoodIn lw_G wyX8_tree := gI_Y gw_4_62
noncomputable def wyX8_value : List Cond := .code yX8_value cX8_value 5 (some .int) :: lw_G
theorem gy_X8_value : GoodIn lw_G wyX8_value := gI_Y gw_4_226
noncomputable def wyX9_about : List Cond := .code yX9_about cX9_about 2 (some .int) :: lw_G
theorem gy_X9_about : GoodIn lw_G wyX9_about := gI_Y gw_7_111
noncomputable def wyX9_blanks : List Cond := .code yX9_blanks cX9_blanks 1 none :: lw_G
theorem gy_X9_blanks : GoodIn lw_G wyX9_blanks := gI_Y gw_6_37
noncomputable def wyX9_demand : List Cond := .code yX9_demand cX9_demand 7 (some .int) :: lw_G
theorem gy_X9_demand : GoodIn lw_G wyX9_demand := gI_Y gw_7_63
noncomputable def wyX9_end : List Cond := .code yX9_end cX9_end 2 (some .int) :: lw_G
theorem gy_X9_end : GoodIn lw_G wyX9_end := gI_Y gw_6_14
noncomputable def wyX9_fails : List Cond := .code yX9_fails cX9_fails 3 none :: lw_G
theorem gy_X9_fails : GoodIn lw_G wyX9_fails := gI_Y gw_6_71
noncomputable def wyX9_fault : List Cond := .code yX9_fault cX9_fault 2 (some .int) :: lw_G
theorem gy_X9_fault : GoodIn lw_G wyX9_fault := gI_Y gw_7_23
noncomputable def wyX9_feed : List Cond := .code yX9_feed cX9_feed 6 (some .int) :: lw_G
theorem gy_X9_feed : GoodIn lw_G wyX9_feed := gI_Y gw_6_6
noncomputable def wyX9_grammar : List Cond := .code yX9_grammar cX9_grammar 2 (some .int) :: lw_G
theorem gy_X9_grammar : GoodIn lw_G wyX9_grammar := gI_Y gw_6_21
noncomputable def wyX9_graph : List Cond := .code yX9_graph cX9_graph 3 (some .int) :: lw_G
theorem gy_X9_graph : GoodIn lw_G wyX9_graph := gI_Y gw_7_43
noncomputable def wyX9_in : List Cond := .code yX9_in cX9_in 3 (some .boolean) :: lw_G
theorem gy_X9_in : GoodIn lw_G wyX9_in := gI_Y gw_6_17
noncomputable def wyX9_init : List Cond := .code yX9_init cX9_init 1 none :: lw_G
theorem gy_X9_init : GoodIn lw_G wyX9_init := gI_Y gw_5_0
noncomputable def wyX9_isAttribute : List Cond := .code yX9_isAttribute cX9_isAttribute 3 (some .boolean) :: lw_G
theorem gy_X9_isAttribute : GoodIn lw_G wyX9_isAttribute := gI_Y gw_7_67
noncomputable def wyX9_isWell : List Cond := .code yX9_isWell cX9_isWell 1 (some .boolean) :: lw_G
theorem gy_X9_isWell : GoodIn lw_G wyX9_isWell := gI_Y gw_6_63
noncomputable def wyX9_isWord : List Cond := .code yX9_isWord cX9_isWord 2 (some .boolean) :: lw_G
theorem gy_X9_isWord : GoodIn lw_G wyX9_isWord := gI_Y gw_6_59
noncomputable def wyX9_next : List Cond := .code yX9_next cX9_next 2 none :: lw_G
theorem gy_X9_next : GoodIn lw_G wyX9_next := gI_Y gw_6_33
noncomputable def wyX9_node : List Cond := .code yX9_node cX9_node 3 (some .int) :: lw_G
theorem gy_X9_node : GoodIn lw_G wyX9_node := gI_Y gw_7_55
noncomputable def wyX9_order_ : List Cond := .code yX9_order_ cX9_order_ 2 (some .int) :: lw_G
theorem gy_X9_order_ : GoodIn lw_G wyX9_order_ := gI_Y gw_7_107
noncomputable def wyX9_own : List Cond := .code yX9_own cX9_own 3 (some .boolean) :: lw_G
theorem gy_X9_own : GoodIn lw_G wyX9_own := gI_Y gw_7_59
noncomputable def wyX9_put : List Cond := .code yX9_put cX9_put 2 none :: lw_G
theorem gy_X9_put : GoodIn lw_G wyX9_put := gI_Y gw_6_10
noncomputable def wyX9_reads : List Cond := .code yX9_reads cX9_reads 3 none :: lw_G
theorem gy_X9_reads : GoodIn lw_G wyX9_reads := gI_Y gw_6_29
noncomputable def wyX9_rule_ : List Cond := .code yX9_rule_ cX9_rule_ 3 (some .int) :: lw_G
theorem gy_X9_rule_ : GoodIn lw_G wyX9_rule_ := gI_Y gw_7_47
noncomputable def wyX9_stray : List Cond := .code yX9_stray cX9_stray 1 none :: lw_G
theorem gy_X9_stray : GoodIn lw_G wyX9_stray := gI_Y gw_6_67
noncomputable def wyX9_symbol_ : List Cond := .code yX9_symbol_ cX9_symbol_ 3 (some .int) :: lw_G
theorem gy_X9_symbol_ : GoodIn lw_G wyX9_symbol_ := gI_Y gw_7_39
noncomputable def wyX9_takesTape : List Cond := .code yX9_takesTape cX9_takesTape 2 none :: lw_G
theorem gy_X9_takesTape : GoodIn lw_G wyX9_takesTape := gI_Y gw_6_25
noncomputable def wyX9_test : List Cond := .code yX9_test cX9_test 4 (some .int) :: lw_G
theorem gy_X9_test : GoodIn lw_G wyX9_test := gI_Y gw_7_51
noncomputable def wyX9_tree : List Cond := .code yX9_tree cX9_tree 5 (some .int) :: lw_G
theorem gy_X9_tree : GoodIn lw_G wyX9_tree := gI_Y gw_7_27
noncomputable def wyX9_value_ : List Cond := .code yX9_value_ cX9_value_ 5 (some .int) :: lw_G
theorem gy_X9_value_ : GoodIn lw_G wyX9_value_ := gI_Y gw_7_103
theorem gc_L_13 : GoodIn lw_G (wsV RL 13 RX8 yX8_feed wyX8_feed) := gI_V gw_2_200 gw_2_201 gw_2_202 gw_1_1 gy_X8_feed
theorem gc_L_17 : GoodIn lw_G (wsV RL 17 RX9 yX9_feed wyX9_feed) := gI_V gw_6_3 gw_6_4 gw_6_5 gw_1_10 gy_X9_feed
theorem gc_L_18 : GoodIn lw_G (wsV RL 18 RX8 yX8_end wyX8_end) := gI_V gw_2_208 gw_2_209 gw_2_210 gw_1_1 gy_X8_end
theorem gc_L_22 : GoodIn lw_G (wsV RL 22 RX9 yX9_end wyX9_end) := gI_V gw_6_11 gw_6_12 gw_6_13 gw_1_10 gy_X9_end
theorem gc_L_23 : GoodIn lw_G (wsV RL 23 RX8 yX8_grammar wyX8_grammar) := gI_V gw_2_212 gw_2_213 gw_2_214 gw_1_1 gy_X8_grammar
theorem gc_L_27 : GoodIn lw_G (wsV RL 27 RX9 yX9_grammar wyX9_grammar) := gI_V gw_6_18 gw_6_19 gw_6_20 gw_1_10 gy_X9_grammar
theorem gc_L_28 : GoodIn lw_G (wsV RL 28 RX8 yX8_tree wyX8_tree) := gI_V gw_4_59 gw_4_60 gw_4_61 gw_1_1 gy_X8_tree
theorem gc_L_31 : GoodIn lw_G (wsV RL 31 RX9 yX9_tree wyX9_tree) := gI_V gw_7_24 gw_7_25 gw_7_26 gw_1_10 gy_X9_tree
theorem gc_L_32 : GoodIn lw_G (wsV RL 32 RX8 yX8_fault wyX8_fault) := gI_V gw_4_100 gw_4_101 gw_4_102 gw_1_1 gy_X8_fault
theorem gc_L_35 : GoodIn lw_G (wsV RL 35 RX9 yX9_fault wyX9_fault) := gI_V gw_7_20 gw_7_21 gw_7_22 gw_1_10 gy_X9_fault
theorem gc_L_36 : GoodIn lw_G (wsV RL 36 RX8 yX8_symbol wyX8_symbol) := gI_V gw_4_104 gw_4_105 gw_4_106 gw_1_1 gy_X8_symbol
theorem gc_L_40 : GoodIn lw_G (wsV RL 40 RX9 yX9_symbol_ wyX9_symbol_) := gI_V gw_7_36 gw_7_37 gw_7_38 gw_1_10 gy_X9_symbol_
theorem gc_L_41 : GoodIn lw_G (wsV RL 41 RX8 yX8_graph wyX8_graph) := gI_V gw_4_116 gw_4_117 gw_4_118 gw_1_1 gy_X8_graph
theorem gc_L_44 : GoodIn lw_G (wsV RL 44 RX9 yX9_graph wyX9_graph) := gI_V gw_7_40 gw_7_41 gw_7_42 gw_1_10 gy_X9_graph
theorem gc_L_45 : GoodIn lw_G (wsV RL 45 RX8 yX8_rule wyX8_rule) := gI_V gw_4_120 gw_4_121 gw_4_122 gw_1_1 gy_X8_rule
theorem gc_L_48 : GoodIn lw_G (wsV RL 48 RX9 yX9_rule_ wyX9_rule_) := gI_V gw_7_44 gw_7_45 gw_7_46 gw_1_10 gy_X9_rule_
theorem gc_L_49 : GoodIn lw_G (wsV RL 49 RX8 yX8_test wyX8_test) := gI_V gw_4_125 gw_4_126 gw_4_127 gw_1_1 gy_X8_test
theorem gc_L_52 : GoodIn lw_G (wsV RL 52 RX9 yX9_test wyX9_test) := gI_V gw_7_48 gw_7_49 gw_7_50 gw_1_10 gy_X9_test
theorem gc_L_53 : GoodIn lw_G (wsV RL 53 RX8 yX8_node wyX8_node) := gI_V gw_4_137 gw_4_138 gw_4_139 gw_1_1 gy_X8_node
theorem gc_L_56 : GoodIn lw_G (wsV RL 56 RX9 yX9_node wyX9_node) := gI_V gw_7_52 gw_7_53 gw_7_54 gw_1_10 gy_X9_node
theorem gc_L_57 : GoodIn lw_G (wsV RL 57 RX8 yX8_own wyX8_own) := gI_V gw_4_149 gw_4_150 gw_4_151 gw_1_1 gy_X8_own
theorem gc_L_61 : GoodIn lw_G (wsV RL 61 RX9 yX9_own wyX9_own) := gI_V gw_7_56 gw_7_57 gw_7_58 gw_1_10 gy_X9_own
theorem gc_L_62 : GoodIn lw_G (wsV RL 62 RX8 yX8_demand wyX8_demand) := gI_V gw_4_154 gw_4_155 gw_4_156 gw_1_1 gy_X8_demand
theorem gc_L_65 : GoodIn lw_G (wsV RL 65 RX9 yX9_demand wyX9_demand) := gI_V gw_7_60 gw_7_61 gw_7_62 gw_1_10 gy_X9_demand
theorem gc_L_66 : GoodIn lw_G (wsV RL 66 RX8 yX8_value wyX8_value) := gI_V gw_4_223 gw_4_224 gw_4_225 gw_1_1 gy_X8_value
theorem gc_L_70 : GoodIn lw_G (wsV RL 70 RX9 yX9_value_ wyX9_value_) := gI_V gw_7_100 gw_7_101 gw_7_102 gw_1_10 gy_X9_value_
theorem gc_L_71 : GoodIn lw_G (wsV RL 71 RX8 yX8_order wyX8_order) := gI_V gw_4_228 gw_4_229 gw_4_230 gw_1_1 gy_X8_order
theorem gc_L_74 : GoodIn lw_G (wsV RL 74 RX9 yX9_order_ wyX9_order_) := gI_V gw_7_104 gw_7_105 gw_7_106 gw_1_10 gy_X9_order_
theorem gc_L_75 : GoodIn lw_G (wsV RL 75 RX8 yX8_about wyX8_about) := gI_V gw_4_232 gw_4_233 gw_4_234 gw_1_1 gy_X8_about
theorem gc_L_78 : GoodIn lw_G (wsV RL 78 RX9 yX9_about wyX9_about) := gI_V gw_7_108 gw_7_109 gw_7_110 gw_1_10 gy_X9_about
theorem gc_X2_42 : GoodIn lw_G (wsV RX2 42 RX1 yX1_clear wyX1_clear) := gI_V gw_2_220 gw_2_221 gw_2_222 gw_1_2 gy_X1_clear
theorem gc_X2_47 : GoodIn lw_G (wsV RX2 47 RX3 yX3_begin wyX3_begin) := gI_V gw_2_224 gw_2_225 gw_2_226 gw_1_4 gy_X3_begin
theorem gc_X2_53 : GoodIn lw_G (wsV RX2 53 RX3 yX3_next wyX3_next) := gI_V gw_2_231 gw_2_232 gw_2_233 gw_1_4 gy_X3_next
theorem gc_X2_60 : GoodIn lw_G (wsV RX2 60 RX2 yX2_step wyX2_step) := gI_V gw_3_113 gw_3_115 gs_X2_step gw_1_5 gy_X2_step
theorem gc_X2_64 : GoodIn lw_G (wsV RX2 64 RX2 yX2_symbolStep wyX2_symbolStep) := gI_V gw_3_117 gw_3_119 gs_X2_symbolStep gw_1_5 gy_X2_symbolStep
theorem gc_X2_89 : GoodIn lw_G (wsV RX2 89 RX2 yX2_goIf wyX2_goIf) := gI_V gw_3_150 gw_3_152 gs_X2_goIf gw_1_5 gy_X2_goIf
theorem gc_X3_41 : GoodIn lw_G (wsV RX3 41 RX3 yX3_skipBlanks wyX3_skipBlanks) := gI_V gw_2_235 gw_2_237 gs_X3_skipBlanks gw_1_4 gy_X3_skipBlanks
theorem gc_X8_167 : GoodIn lw_G (wsV RX8 167 RX8 yX8_isNode wyX8_isNode) := gI_V gw_4_141 gw_4_143 gs_X8_isNode gw_1_1 gy_X8_isNode
theorem gc_X8_190 : GoodIn lw_G (wsV RX8 190 RX8 yX8_isItem wyX8_isItem) := gI_V gw_4_158 gw_4_160 gs_X8_isItem gw_1_1 gy_X8_isItem
theorem gc_X8_88 : GoodIn lw_G (wsV RX8 88 RX8 yX8_putWord wyX8_putWord) := gI_V gw_2_204 gw_2_206 gs_X8_putWord gw_1_1 gy_X8_putWord
theorem gc_X8_92 : GoodIn lw_G (wsV RX8 92 RX2 yX2_read wyX2_read) := gI_V gw_2_216 gw_2_217 gw_2_218 gw_1_5 gy_X2_read
theorem gc_X8_96 : GoodIn lw_G (wsV RX8 96 RX8 yX8_keepFault wyX8_keepFault) := gI_V gw_3_207 gw_3_209 gs_X8_keepFault gw_1_1 gy_X8_keepFault
theorem gc_X9_176 : GoodIn lw_G (wsV RX9 176 RX9 yX9_put wyX9_put) := gI_V gw_6_7 gw_6_9 gs_X9_put gw_1_10 gy_X9_put
theorem gc_X9_180 : GoodIn lw_G (va_wsS RX9 180 yX9_in wyX9_in) := gI_S gw_6_15 gw_6_16 gw_1_10 gy_X9_in
theorem gc_X9_193 : GoodIn lw_G (wsV RX9 193 RX9 yX9_fails wyX9_fails) := gI_V gw_6_68 gw_6_70 gs_X9_fails gw_1_10 gy_X9_fails
theorem gc_X9_203 : GoodIn lw_G (wsV RX9 203 RX9 yX9_blanks wyX9_blanks) := gI_V gw_6_34 gw_6_36 gs_X9_blanks gw_1_10 gy_X9_blanks
theorem gc_X9_234 : GoodIn lw_G (wsV RX9 234 RX9 yX9_isWell wyX9_isWell) := gI_V gw_6_60 gw_6_62 gs_X9_isWell gw_1_10 gy_X9_isWell
theorem gc_X9_242 : GoodIn lw_G (wsV RX9 242 RX9 yX9_next wyX9_next) := gI_V gw_6_30 gw_6_32 gs_X9_next gw_1_10 gy_X9_next
theorem gc_X9_245 : GoodIn lw_G (wsV RX9 245 RX9 yX9_stray wyX9_stray) := gI_V gw_6_64 gw_6_66 gs_X9_stray gw_1_10 gy_X9_stray
theorem gc_X9_258 : GoodIn lw_G (wsV RX9 258 RX9 yX9_isWord wyX9_isWord) := gI_V gw_6_56 gw_6_58 gs_X9_isWord gw_1_10 gy_X9_isWord
theorem gc_X9_383 : GoodIn lw_G (wsV RX9 383 RX9 yX9_takesTape wyX9_takesTape) := gI_V gw_6_22 gw_6_24 gs_X9_takesTape gw_1_10 gy_X9_takesTape
theorem gc_X9_386 : GoodIn lw_G (wsV RX9 386 RX9 yX9_reads wyX9_reads) := gI_V gw_6_26 gw_6_28 gs_X9_reads gw_1_10 gy_X9_reads
theorem gc_X9_473 : GoodIn lw_G (wsV RX9 473 RX9 yX9_isAttribute wyX9_isAttribute) := gI_V gw_7_64 gw_7_66 gs_X9_isAttribute gw_1_10 gy_X9_isAttribute
end
section
theorem dL_law_0 : decode cL_law 0 = .ok (.new 7, 3) := by decide +kernel
theorem dL_law_3 : decode cL_law 3 = .ok (.dup, 1) := by decide +kernel
theorem dL_law_4 : decode cL_law 4 = .ok (.invokespecial 9, 3) := by decide +kernel
theorem dL_law_7 : decode cL_law 7 = .ok (.astore_n 1, 1) := by decide +kernel
theorem dL_law_8 : decode cL_law 8 = .ok (.new 10, 3) := by decide +kernel
theorem dL_law_11 : decode cL_law 11 = .ok (.dup, 1) := by decide +kernel
theorem dL_law_12 : decode cL_law 12 = .ok (.invokespecial 12, 3) := by decide +kernel
theorem dL_law_15 : decode cL_law 15 = .ok (.astore_n 2, 1) := by decide +kernel
theorem dL_law_16 : decode cL_law 16 = .ok (.iconst 0, 1) := by decide +kernel
theorem dL_law_17 : decode cL_law 17 = .ok (.istore_n 3, 1) := by decide +kernel
theorem dL_law_18 : decode cL_law 18 = .ok (.iload_n 3, 1) := by decide +kernel
theorem dL_law_19 : decode cL_law 19 = .ok (.aload_n 0, 1) := by decide +kernel
theorem dL_law_20 : decode cL_law 20 = .ok (.arraylength, 1) := by decide +kernel
theorem dL_law_21 : decode cL_law 21 = .ok (.bipush 6, 2) := by decide +kernel
theorem dL_law_23 : decode cL_law 23 = .ok (.isub, 1) := by decide +kernel
theorem dL_law_24 : decode cL_law 24 = .ok (.if_icmp .gt 535, 3) := by decide +kernel
theorem dL_law_27 : decode cL_law 27 = .ok (.aload_n 0, 1) := by decide +kernel
theorem dL_law_28 : decode cL_law 28 = .ok (.iload_n 3, 1) := by decide +kernel
theorem dL_law_29 : decode cL_law 29 = .ok (.iaload, 1) := by decide +kernel
theorem dL_law_30 : decode cL_law 30 = .ok (.bipush 15, 2) := by decide +kernel
theorem dL_law_32 : decode cL_law 32 = .ok (.iand, 1) := by decide +kernel
theorem dL_law_33 : decode cL_law 33 = .ok (.tableswitch 520 0 14 #[75, 138, 161, 174, 187, 210, 243, 276, 309, 332, 365, 398, 431, 474, 497], 75) := by decide +kernel
theorem dL_law_108 : decode cL_law 108 = .ok (.aload_n 1, 1) := by decide +kernel
theorem dL_law_109 : decode cL_law 109 = .ok (.aload_n 0, 1) := by decide +kernel
theorem dL_law_110 : decode cL_law 110 = .ok (.iload_n 3, 1) := by decide +kernel
theorem dL_law_111 : decode cL_law 111 = .ok (.iconst 1, 1) := by decide +kernel
theorem dL_law_112 : decode cL_law 112 = .ok (.iadd, 1) := by decide +kernel
theorem dL_law_113 : decode cL_law 113 = .ok (.iaload, 1) := by decide +kernel
theorem dL_law_114 : decode cL_law 114 = .ok (.aload_n 0, 1) := by decide +kernel
theorem dL_law_115 : decode cL_law 115 = .ok (.iload_n 3, 1) := by decide +kernel
theorem dL_law_116 : decode cL_law 116 = .ok (.iconst 2, 1) := by decide +kernel
theorem dL_law_117 : decode cL_law 117 = .ok (.iadd, 1) := by decide +kernel
theorem dL_law_118 : decode cL_law 118 = .ok (.iaload, 1) := by decide +kernel
theorem dL_law_119 : decode cL_law 119 = .ok (.aload_n 0, 1) := by decide +kernel
theorem dL_law_120 : decode cL_law 120 = .ok (.iload_n 3, 1) := by decide +kernel
theorem dL_law_121 : decode cL_law 121 = .ok (.iconst 3, 1) := by decide +kernel
theorem dL_law_122 : decode cL_law 122 = .ok (.iadd, 1) := by decide +kernel
theorem dL_law_123 : decode cL_law 123 = .ok (.iaload, 1) := by decide +kernel
theorem dL_law_124 : decode cL_law 124 = .ok (.aload_n 0, 1) := by decide +kernel
theorem dL_law_125 : decode cL_law 125 = .ok (.iload_n 3, 1) := by decide +kernel
theorem dL_law_126 : decode cL_law 126 = .ok (.iconst 4, 1) := by decide +kernel
theorem dL_law_127 : decode cL_law 127 = .ok (.iadd, 1) := by decide +kernel
theorem dL_law_128 : decode cL_law 128 = .ok (.iaload, 1) := by decide +kernel
theorem dL_law_129 : decode cL_law 129 = .ok (.aload_n 0, 1) := by decide +kernel
theorem dL_law_130 : decode cL_law 130 = .ok (.iload_n 3, 1) := by decide +kernel
theorem dL_law_131 : decode cL_law 131 = .ok (.iconst 5, 1) := by decide +kernel
theorem dL_law_132 : decode cL_law 132 = .ok (.iadd, 1) := by decide +kernel
theorem dL_law_133 : decode cL_law 133 = .ok (.iaload, 1) := by decide +kernel
theorem dL_law_134 : decode cL_law 134 = .ok (.invokevirtual 13, 3) := by decide +kernel
theorem dL_law_137 : decode cL_law 137 = .ok (.aload_n 2, 1) := by decide +kernel
theorem dL_law_138 : decode cL_law 138 = .ok (.aload_n 0, 1) := by decide +kernel
theorem dL_law_139 : decode cL_law 139 = .ok (.iload_n 3, 1) := by decide +kernel
theorem dL_law_140 : decode cL_law 140 = .ok (.iconst 1, 1) := by decide +kernel
theorem dL_law_141 : decode cL_law 141 = .ok (.iadd, 1) := by decide +kernel
theorem dL_law_142 : decode cL_law 142 = .ok (.iaload, 1) := by decide +kernel
theorem dL_law_143 : decode cL_law 143 = .ok (.aload_n 0, 1) := by decide +kernel
theorem dL_law_144 : decode cL_law 144 = .ok (.iload_n 3, 1) := by decide +kernel
theorem dL_law_145 : decode cL_law 145 = .ok (.iconst 2, 1) := by decide +kernel
theorem dL_law_146 : decode cL_law 146 = .ok (.iadd, 1) := by decide +kernel
theorem dL_law_147 : decode cL_law 147 = .ok (.iaload, 1) := by decide +kernel
theorem dL_law_148 : decode cL_law 148 = .ok (.aload_n 0, 1) := by decide +kernel
theorem dL_law_149 : decode cL_law 149 = .ok (.iload_n 3, 1) := by decide +kernel
theorem dL_law_150 : decode cL_law 150 = .ok (.iconst 3, 1) := by decide +kernel
theorem dL_law_151 : decode cL_law 151 = .ok (.iadd, 1) := by decide +kernel
theorem dL_law_152 : decode cL_law 152 = .ok (.iaload, 1) := by decide +kernel
theorem dL_law_153 : decode cL_law 153 = .ok (.aload_n 0, 1) := by decide +kernel
theorem dL_law_154 : decode cL_law 154 = .ok (.iload_n 3, 1) := by decide +kernel
theorem dL_law_155 : decode cL_law 155 = .ok (.iconst 4, 1) := by decide +kernel
theorem dL_law_156 : decode cL_law 156 = .ok (.iadd, 1) := by decide +kernel
theorem dL_law_157 : decode cL_law 157 = .ok (.iaload, 1) := by decide +kernel
theorem dL_law_158 : decode cL_law 158 = .ok (.aload_n 0, 1) := by decide +kernel
theorem dL_law_159 : decode cL_law 159 = .ok (.iload_n 3, 1) := by decide +kernel
theorem dL_law_160 : decode cL_law 160 = .ok (.iconst 5, 1) := by decide +kernel
theorem dL_law_161 : decode cL_law 161 = .ok (.iadd, 1) := by decide +kernel
theorem dL_law_162 : decode cL_law 162 = .ok (.iaload, 1) := by decide +kernel
theorem dL_law_163 : decode cL_law 163 = .ok (.invokevirtual 17, 3) := by decide +kernel
theorem dL_law_166 : decode cL_law 166 = .ok (.if_icmp .eq 387, 3) := by decide +kernel
theorem dL_law_171 : decode cL_law 171 = .ok (.aload_n 1, 1) := by decide +kernel
theorem dL_law_172 : decode cL_law 172 = .ok (.aload_n 0, 1) := by decide +kernel
theorem dL_law_173 : decode cL_law 173 = .ok (.iload_n 3, 1) := by decide +kernel
theorem dL_law_174 : decode cL_law 174 = .ok (.iconst 1, 1) := by decide +kernel
theorem dL_law_175 : decode cL_law 175 = .ok (.iadd, 1) := by decide +kernel
theorem dL_law_176 : decode cL_law 176 = .ok (.iaload, 1) := by decide +kernel
theorem dL_law_177 : decode cL_law 177 = .ok (.invokevirtual 18, 3) := by decide +kernel
theorem dL_law_180 : decode cL_law 180 = .ok (.aload_n 2, 1) := by decide +kernel
theorem dL_law_181 : decode cL_law 181 = .ok (.aload_n 0, 1) := by decide +kernel
theorem dL_law_182 : decode cL_law 182 = .ok (.iload_n 3, 1) := by decide +kernel
theorem dL_law_183 : decode cL_law 183 = .ok (.iconst 1, 1) := by decide +kernel
theorem dL_law_184 : decode cL_law 184 = .ok (.iadd, 1) := by decide +kernel
theorem dL_law_185 : decode cL_law 185 = .ok (.iaload, 1) := by decide +kernel
theorem dL_law_186 : decode cL_law 186 = .ok (.invokevirtual 22, 3) := by decide +kernel
theorem dL_law_189 : decode cL_law 189 = .ok (.if_icmp .eq 364, 3) := by decide +kernel
theorem dL_law_194 : decode cL_law 194 = .ok (.aload_n 1, 1) := by decide +kernel
theorem dL_law_195 : decode cL_law 195 = .ok (.invokevirtual 23, 3) := by decide +kernel
theorem dL_law_198 : decode cL_law 198 = .ok (.aload_n 2, 1) := by decide +kernel
theorem dL_law_199 : decode cL_law 199 = .ok (.invokevirtual 27, 3) := by decide +kernel
theorem dL_law_202 : decode cL_law 202 = .ok (.if_icmp .eq 351, 3) := by decide +kernel
theorem dL_law_207 : decode cL_law 207 = .ok (.aload_n 1, 1) := by decide +kernel
theorem dL_law_208 : decode cL_law 208 = .ok (.invokevirtual 28, 3) := by decide +kernel
theorem dL_law_211 : decode cL_law 211 = .ok (.aload_n 2, 1) := by decide +kernel
theorem dL_law_212 : decode cL_law 212 = .ok (.invokevirtual 31, 3) := by decide +kernel
theorem dL_law_215 : decode cL_law 215 = .ok (.if_icmp .eq 338, 3) := by decide +kernel
theorem dL_law_220 : decode cL_law 220 = .ok (.aload_n 1, 1) := by decide +kernel
theorem dL_law_221 : decode cL_law 221 = .ok (.aload_n 0, 1) := by decide +kernel
theorem dL_law_222 : decode cL_law 222 = .ok (.iload_n 3, 1) := by decide +kernel
theorem dL_law_223 : decode cL_law 223 = .ok (.iconst 1, 1) := by decide +kernel
theorem dL_law_224 : decode cL_law 224 = .ok (.iadd, 1) := by decide +kernel
theorem dL_law_225 : decode cL_law 225 = .ok (.iaload, 1) := by decide +kernel
theorem dL_law_226 : decode cL_law 226 = .ok (.invokevirtual 32, 3) := by decide +kernel
theorem dL_law_229 : decode cL_law 229 = .ok (.aload_n 2, 1) := by decide +kernel
theorem dL_law_230 : decode cL_law 230 = .ok (.aload_n 0, 1) := by decide +kernel
theorem dL_law_231 : decode cL_law 231 = .ok (.iload_n 3, 1) := by decide +kernel
theorem dL_law_232 : decode cL_law 232 = .ok (.iconst 1, 1) := by decide +kernel
theorem dL_law_233 : decode cL_law 233 = .ok (.iadd, 1) := by decide +kernel
theorem dL_law_234 : decode cL_law 234 = .ok (.iaload, 1) := by decide +kernel
theorem dL_law_235 : decode cL_law 235 = .ok (.invokevirtual 35, 3) := by decide +kernel
theorem dL_law_238 : decode cL_law 238 = .ok (.if_icmp .eq 315, 3) := by decide +kernel
theorem dL_law_243 : decode cL_law 243 = .ok (.aload_n 1, 1) := by decide +kernel
theorem dL_law_244 : decode cL_law 244 = .ok (.aload_n 0, 1) := by decide +kernel
theorem dL_law_245 : decode cL_law 245 = .ok (.iload_n 3, 1) := by decide +kernel
theorem dL_law_246 : decode cL_law 246 = .ok (.iconst 1, 1) := by decide +kernel
theorem dL_law_247 : decode cL_law 247 = .ok (.iadd, 1) := by decide +kernel
theorem dL_law_248 : decode cL_law 248 = .ok (.iaload, 1) := by decide +kernel
theorem dL_law_249 : decode cL_law 249 = .ok (.aload_n 0, 1) := by decide +kernel
theorem dL_law_250 : decode cL_law 250 = .ok (.iload_n 3, 1) := by decide +kernel
theorem dL_law_251 : decode cL_law 251 = .ok (.iconst 2, 1) := by decide +kernel
theorem dL_law_252 : decode cL_law 252 = .ok (.iadd, 1) := by decide +kernel
theorem dL_law_253 : decode cL_law 253 = .ok (.iaload, 1) := by decide +kernel
theorem dL_law_254 : decode cL_law 254 = .ok (.invokevirtual 36, 3) := by decide +kernel
theorem dL_law_257 : decode cL_law 257 = .ok (.aload_n 2, 1) := by decide +kernel
theorem dL_law_258 : decode cL_law 258 = .ok (.aload_n 0, 1) := by decide +kernel
theorem dL_law_259 : decode cL_law 259 = .ok (.iload_n 3, 1) := by decide +kernel
theorem dL_law_260 : decode cL_law 260 = .ok (.iconst 1, 1) := by decide +kernel
theorem dL_law_261 : decode cL_law 261 = .ok (.iadd, 1) := by decide +kernel
theorem dL_law_262 : decode cL_law 262 = .ok (.iaload, 1) := by decide +kernel
theorem dL_law_263 : decode cL_law 263 = .ok (.aload_n 0, 1) := by decide +kernel
theorem dL_law_264 : decode cL_law 264 = .ok (.iload_n 3, 1) := by decide +kernel
theorem dL_law_265 : decode cL_law 265 = .ok (.iconst 2, 1) := by decide +kernel
theorem dL_law_266 : decode cL_law 266 = .ok (.iadd, 1) := by decide +kernel
theorem dL_law_267 : decode cL_law 267 = .ok (.iaload, 1) := by decide +kernel
theorem dL_law_268 : decode cL_law 268 = .ok (.invokevirtual 40, 3) := by decide +kernel
theorem dL_law_271 : decode cL_law 271 = .ok (.if_icmp .eq 282, 3) := by decide +kernel
theorem dL_law_276 : decode cL_law 276 = .ok (.aload_n 1, 1) := by decide +kernel
theorem dL_law_277 : decode cL_law 277 = .ok (.aload_n 0, 1) := by decide +kernel
theorem dL_law_278 : decode cL_law 278 = .ok (.iload_n 3, 1) := by decide +kernel
theorem dL_law_279 : decode cL_law 279 = .ok (.iconst 1, 1) := by decide +kernel
theorem dL_law_280 : decode cL_law 280 = .ok (.iadd, 1) := by decide +kernel
theorem dL_law_281 : decode cL_law 281 = .ok (.iaload, 1) := by decide +kernel
theorem dL_law_282 : decode cL_law 282 = .ok (.aload_n 0, 1) := by decide +kernel
theorem dL_law_283 : decode cL_law 283 = .ok (.iload_n 3, 1) := by decide +kernel
theorem dL_law_284 : decode cL_law 284 = .ok (.iconst 2, 1) := by decide +kernel
theorem dL_law_285 : decode cL_law 285 = .ok (.iadd, 1) := by decide +kernel
theorem dL_law_286 : decode cL_law 286 = .ok (.iaload, 1) := by decide +kernel
theorem dL_law_287 : decode cL_law 287 = .ok (.invokevirtual 41, 3) := by decide +kernel
theorem dL_law_290 : decode cL_law 290 = .ok (.aload_n 2, 1) := by decide +kernel
theorem dL_law_291 : decode cL_law 291 = .ok (.aload_n 0, 1) := by decide +kernel
theorem dL_law_292 : decode cL_law 292 = .ok (.iload_n 3, 1) := by decide +kernel
theorem dL_law_293 : decode cL_law 293 = .ok (.iconst 1, 1) := by decide +kernel
theorem dL_law_294 : decode cL_law 294 = .ok (.iadd, 1) := by decide +kernel
theorem dL_law_295 : decode cL_law 295 = .ok (.iaload, 1) := by decide +kernel
theorem dL_law_296 : decode cL_law 296 = .ok (.aload_n 0, 1) := by decide +kernel
theorem dL_law_297 : decode cL_law 297 = .ok (.iload_n 3, 1) := by decide +kernel
theorem dL_law_298 : decode cL_law 298 = .ok (.iconst 2, 1) := by decide +kernel
theorem dL_law_299 : decode cL_law 299 = .ok (.iadd, 1) := by decide +kernel
theorem dL_law_300 : decode cL_law 300 = .ok (.iaload, 1) := by decide +kernel
theorem dL_law_301 : decode cL_law 301 = .ok (.invokevirtual 44, 3) := by decide +kernel
theorem dL_law_304 : decode cL_law 304 = .ok (.if_icmp .eq 249, 3) := by decide +kernel
theorem dL_law_309 : decode cL_law 309 = .ok (.aload_n 1, 1) := by decide +kernel
theorem dL_law_310 : decode cL_law 310 = .ok (.aload_n 0, 1) := by decide +kernel
theorem dL_law_311 : decode cL_law 311 = .ok (.iload_n 3, 1) := by decide +kernel
theorem dL_law_312 : decode cL_law 312 = .ok (.iconst 1, 1) := by decide +kernel
theorem dL_law_313 : decode cL_law 313 = .ok (.iadd, 1) := by decide +kernel
theorem dL_law_314 : decode cL_law 314 = .ok (.iaload, 1) := by decide +kernel
theorem dL_law_315 : decode cL_law 315 = .ok (.aload_n 0, 1) := by decide +kernel
theorem dL_law_316 : decode cL_law 316 = .ok (.iload_n 3, 1) := by decide +kernel
theorem dL_law_317 : decode cL_law 317 = .ok (.iconst 2, 1) := by decide +kernel
theorem dL_law_318 : decode cL_law 318 = .ok (.iadd, 1) := by decide +kernel
theorem dL_law_319 : decode cL_law 319 = .ok (.iaload, 1) := by decide +kernel
theorem dL_law_320 : decode cL_law 320 = .ok (.invokevirtual 45, 3) := by decide +kernel
theorem dL_law_323 : decode cL_law 323 = .ok (.aload_n 2, 1) := by decide +kernel
theorem dL_law_324 : decode cL_law 324 = .ok (.aload_n 0, 1) := by decide +kernel
theorem dL_law_325 : decode cL_law 325 = .ok (.iload_n 3, 1) := by decide +kernel
theorem dL_law_326 : decode cL_law 326 = .ok (.iconst 1, 1) := by decide +kernel
theorem dL_law_327 : decode cL_law 327 = .ok (.iadd, 1) := by decide +kernel
theorem dL_law_328 : decode cL_law 328 = .ok (.iaload, 1) := by decide +kernel
theorem dL_law_329 : decode cL_law 329 = .ok (.aload_n 0, 1) := by decide +kernel
theorem dL_law_330 : decode cL_law 330 = .ok (.iload_n 3, 1) := by decide +kernel
theorem dL_law_331 : decode cL_law 331 = .ok (.iconst 2, 1) := by decide +kernel
theorem dL_law_332 : decode cL_law 332 = .ok (.iadd, 1) := by decide +kernel
theorem dL_law_333 : decode cL_law 333 = .ok (.iaload, 1) := by decide +kernel
theorem dL_law_334 : decode cL_law 334 = .ok (.invokevirtual 48, 3) := by decide +kernel
theorem dL_law_337 : decode cL_law 337 = .ok (.if_icmp .eq 216, 3) := by decide +kernel
theorem dL_law_342 : decode cL_law 342 = .ok (.aload_n 1, 1) := by decide +kernel
theorem dL_law_343 : decode cL_law 343 = .ok (.aload_n 0, 1) := by decide +kernel
theorem dL_law_344 : decode cL_law 344 = .ok (.iload_n 3, 1) := by decide +kernel
theorem dL_law_345 : decode cL_law 345 = .ok (.iconst 1, 1) := by decide +kernel
theorem dL_law_346 : decode cL_law 346 = .ok (.iadd, 1) := by decide +kernel
theorem dL_law_347 : decode cL_law 347 = .ok (.iaload, 1) := by decide +kernel
theorem dL_law_348 : decode cL_law 348 = .ok (.invokevirtual 49, 3) := by decide +kernel
theorem dL_law_351 : decode cL_law 351 = .ok (.aload_n 2, 1) := by decide +kernel
theorem dL_law_352 : decode cL_law 352 = .ok (.aload_n 0, 1) := by decide +kernel
theorem dL_law_353 : decode cL_law 353 = .ok (.iload_n 3, 1) := by decide +kernel
theorem dL_law_354 : decode cL_law 354 = .ok (.iconst 1, 1) := by decide +kernel
theorem dL_law_355 : decode cL_law 355 = .ok (.iadd, 1) := by decide +kernel
theorem dL_law_356 : decode cL_law 356 = .ok (.iaload, 1) := by decide +kernel
theorem dL_law_357 : decode cL_law 357 = .ok (.invokevirtual 52, 3) := by decide +kernel
theorem dL_law_360 : decode cL_law 360 = .ok (.if_icmp .eq 193, 3) := by decide +kernel
theorem dL_law_365 : decode cL_law 365 = .ok (.aload_n 1, 1) := by decide +kernel
theorem dL_law_366 : decode cL_law 366 = .ok (.aload_n 0, 1) := by decide +kernel
theorem dL_law_367 : decode cL_law 367 = .ok (.iload_n 3, 1) := by decide +kernel
theorem dL_law_368 : decode cL_law 368 = .ok (.iconst 1, 1) := by decide +kernel
theorem dL_law_369 : decode cL_law 369 = .ok (.iadd, 1) := by decide +kernel
theorem dL_law_370 : decode cL_law 370 = .ok (.iaload, 1) := by decide +kernel
theorem dL_law_371 : decode cL_law 371 = .ok (.aload_n 0, 1) := by decide +kernel
theorem dL_law_372 : decode cL_law 372 = .ok (.iload_n 3, 1) := by decide +kernel
theorem dL_law_373 : decode cL_law 373 = .ok (.iconst 2, 1) := by decide +kernel
theorem dL_law_374 : decode cL_law 374 = .ok (.iadd, 1) := by decide +kernel
theorem dL_law_375 : decode cL_law 375 = .ok (.iaload, 1) := by decide +kernel
theorem dL_law_376 : decode cL_law 376 = .ok (.invokevirtual 53, 3) := by decide +kernel
theorem dL_law_379 : decode cL_law 379 = .ok (.aload_n 2, 1) := by decide +kernel
theorem dL_law_380 : decode cL_law 380 = .ok (.aload_n 0, 1) := by decide +kernel
theorem dL_law_381 : decode cL_law 381 = .ok (.iload_n 3, 1) := by decide +kernel
theorem dL_law_382 : decode cL_law 382 = .ok (.iconst 1, 1) := by decide +kernel
theorem dL_law_383 : decode cL_law 383 = .ok (.iadd, 1) := by decide +kernel
theorem dL_law_384 : decode cL_law 384 = .ok (.iaload, 1) := by decide +kernel
theorem dL_law_385 : decode cL_law 385 = .ok (.aload_n 0, 1) := by decide +kernel
theorem dL_law_386 : decode cL_law 386 = .ok (.iload_n 3, 1) := by decide +kernel
theorem dL_law_387 : decode cL_law 387 = .ok (.iconst 2, 1) := by decide +kernel
theorem dL_law_388 : decode cL_law 388 = .ok (.iadd, 1) := by decide +kernel
theorem dL_law_389 : decode cL_law 389 = .ok (.iaload, 1) := by decide +kernel
theorem dL_law_390 : decode cL_law 390 = .ok (.invokevirtual 56, 3) := by decide +kernel
theorem dL_law_393 : decode cL_law 393 = .ok (.if_icmp .eq 160, 3) := by decide +kernel
theorem dL_law_398 : decode cL_law 398 = .ok (.aload_n 1, 1) := by decide +kernel
theorem dL_law_399 : decode cL_law 399 = .ok (.aload_n 0, 1) := by decide +kernel
theorem dL_law_400 : decode cL_law 400 = .ok (.iload_n 3, 1) := by decide +kernel
theorem dL_law_401 : decode cL_law 401 = .ok (.iconst 1, 1) := by decide +kernel
theorem dL_law_402 : decode cL_law 402 = .ok (.iadd, 1) := by decide +kernel
theorem dL_law_403 : decode cL_law 403 = .ok (.iaload, 1) := by decide +kernel
theorem dL_law_404 : decode cL_law 404 = .ok (.aload_n 0, 1) := by decide +kernel
theorem dL_law_405 : decode cL_law 405 = .ok (.iload_n 3, 1) := by decide +kernel
theorem dL_law_406 : decode cL_law 406 = .ok (.iconst 2, 1) := by decide +kernel
theorem dL_law_407 : decode cL_law 407 = .ok (.iadd, 1) := by decide +kernel
theorem dL_law_408 : decode cL_law 408 = .ok (.iaload, 1) := by decide +kernel
theorem dL_law_409 : decode cL_law 409 = .ok (.invokevirtual 57, 3) := by decide +kernel
theorem dL_law_412 : decode cL_law 412 = .ok (.aload_n 2, 1) := by decide +kernel
theorem dL_law_413 : decode cL_law 413 = .ok (.aload_n 0, 1) := by decide +kernel
theorem dL_law_414 : decode cL_law 414 = .ok (.iload_n 3, 1) := by decide +kernel
theorem dL_law_415 : decode cL_law 415 = .ok (.iconst 1, 1) := by decide +kernel
theorem dL_law_416 : decode cL_law 416 = .ok (.iadd, 1) := by decide +kernel
theorem dL_law_417 : decode cL_law 417 = .ok (.iaload, 1) := by decide +kernel
theorem dL_law_418 : decode cL_law 418 = .ok (.aload_n 0, 1) := by decide +kernel
theorem dL_law_419 : decode cL_law 419 = .ok (.iload_n 3, 1) := by decide +kernel
theorem dL_law_420 : decode cL_law 420 = .ok (.iconst 2, 1) := by decide +kernel
theorem dL_law_421 : decode cL_law 421 = .ok (.iadd, 1) := by decide +kernel
theorem dL_law_422 : decode cL_law 422 = .ok (.iaload, 1) := by decide +kernel
theorem dL_law_423 : decode cL_law 423 = .ok (.invokevirtual 61, 3) := by decide +kernel
theorem dL_law_426 : decode cL_law 426 = .ok (.if_icmp .eq 127, 3) := by decide +kernel
theorem dL_law_431 : decode cL_law 431 = .ok (.aload_n 1, 1) := by decide +kernel
theorem dL_law_432 : decode cL_law 432 = .ok (.aload_n 0, 1) := by decide +kernel
theorem dL_law_433 : decode cL_law 433 = .ok (.iload_n 3, 1) := by decide +kernel
theorem dL_law_434 : decode cL_law 434 = .ok (.iconst 1, 1) := by decide +kernel
theorem dL_law_435 : decode cL_law 435 = .ok (.iadd, 1) := by decide +kernel
theorem dL_law_436 : decode cL_law 436 = .ok (.iaload, 1) := by decide +kernel
theorem dL_law_437 : decode cL_law 437 = .ok (.aload_n 0, 1) := by decide +kernel
theorem dL_law_438 : decode cL_law 438 = .ok (.iload_n 3, 1) := by decide +kernel
theorem dL_law_439 : decode cL_law 439 = .ok (.iconst 2, 1) := by decide +kernel
theorem dL_law_440 : decode cL_law 440 = .ok (.iadd, 1) := by decide +kernel
theorem dL_law_441 : decode cL_law 441 = .ok (.iaload, 1) := by decide +kernel
theorem dL_law_442 : decode cL_law 442 = .ok (.invokevirtual 62, 3) := by decide +kernel
theorem dL_law_445 : decode cL_law 445 = .ok (.aload_n 2, 1) := by decide +kernel
theorem dL_law_446 : decode cL_law 446 = .ok (.aload_n 0, 1) := by decide +kernel
theorem dL_law_447 : decode cL_law 447 = .ok (.iload_n 3, 1) := by decide +kernel
theorem dL_law_448 : decode cL_law 448 = .ok (.iconst 1, 1) := by decide +kernel
theorem dL_law_449 : decode cL_law 449 = .ok (.iadd, 1) := by decide +kernel
theorem dL_law_450 : decode cL_law 450 = .ok (.iaload, 1) := by decide +kernel
theorem dL_law_451 : decode cL_law 451 = .ok (.aload_n 0, 1) := by decide +kernel
theorem dL_law_452 : decode cL_law 452 = .ok (.iload_n 3, 1) := by decide +kernel
theorem dL_law_453 : decode cL_law 453 = .ok (.iconst 2, 1) := by decide +kernel
theorem dL_law_454 : decode cL_law 454 = .ok (.iadd, 1) := by decide +kernel
theorem dL_law_455 : decode cL_law 455 = .ok (.iaload, 1) := by decide +kernel
theorem dL_law_456 : decode cL_law 456 = .ok (.invokevirtual 65, 3) := by decide +kernel
theorem dL_law_459 : decode cL_law 459 = .ok (.if_icmp .eq 94, 3) := by decide +kernel
theorem dL_law_464 : decode cL_law 464 = .ok (.aload_n 1, 1) := by decide +kernel
theorem dL_law_465 : decode cL_law 465 = .ok (.aload_n 0, 1) := by decide +kernel
theorem dL_law_466 : decode cL_law 466 = .ok (.iload_n 3, 1) := by decide +kernel
theorem dL_law_467 : decode cL_law 467 = .ok (.iconst 1, 1) := by decide +kernel
theorem dL_law_468 : decode cL_law 468 = .ok (.iadd, 1) := by decide +kernel
theorem dL_law_469 : decode cL_law 469 = .ok (.iaload, 1) := by decide +kernel
theorem dL_law_470 : decode cL_law 470 = .ok (.aload_n 0, 1) := by decide +kernel
theorem dL_law_471 : decode cL_law 471 = .ok (.iload_n 3, 1) := by decide +kernel
theorem dL_law_472 : decode cL_law 472 = .ok (.iconst 2, 1) := by decide +kernel
theorem dL_law_473 : decode cL_law 473 = .ok (.iadd, 1) := by decide +kernel
theorem dL_law_474 : decode cL_law 474 = .ok (.iaload, 1) := by decide +kernel
theorem dL_law_475 : decode cL_law 475 = .ok (.aload_n 0, 1) := by decide +kernel
theorem dL_law_476 : decode cL_law 476 = .ok (.iload_n 3, 1) := by decide +kernel
theorem dL_law_477 : decode cL_law 477 = .ok (.iconst 3, 1) := by decide +kernel
theorem dL_law_478 : decode cL_law 478 = .ok (.iadd, 1) := by decide +kernel
theorem dL_law_479 : decode cL_law 479 = .ok (.iaload, 1) := by decide +kernel
theorem dL_law_480 : decode cL_law 480 = .ok (.invokevirtual 66, 3) := by decide +kernel
theorem dL_law_483 : decode cL_law 483 = .ok (.aload_n 2, 1) := by decide +kernel
theorem dL_law_484 : decode cL_law 484 = .ok (.aload_n 0, 1) := by decide +kernel
theorem dL_law_485 : decode cL_law 485 = .ok (.iload_n 3, 1) := by decide +kernel
theorem dL_law_486 : decode cL_law 486 = .ok (.iconst 1, 1) := by decide +kernel
theorem dL_law_487 : decode cL_law 487 = .ok (.iadd, 1) := by decide +kernel
theorem dL_law_488 : decode cL_law 488 = .ok (.iaload, 1) := by decide +kernel
theorem dL_law_489 : decode cL_law 489 = .ok (.aload_n 0, 1) := by decide +kernel
theorem dL_law_490 : decode cL_law 490 = .ok (.iload_n 3, 1) := by decide +kernel
theorem dL_law_491 : decode cL_law 491 = .ok (.iconst 2, 1) := by decide +kernel
theorem dL_law_492 : decode cL_law 492 = .ok (.iadd, 1) := by decide +kernel
theorem dL_law_493 : decode cL_law 493 = .ok (.iaload, 1) := by decide +kernel
theorem dL_law_494 : decode cL_law 494 = .ok (.aload_n 0, 1) := by decide +kernel
theorem dL_law_495 : decode cL_law 495 = .ok (.iload_n 3, 1) := by decide +kernel
theorem dL_law_496 : decode cL_law 496 = .ok (.iconst 3, 1) := by decide +kernel
theorem dL_law_497 : decode cL_law 497 = .ok (.iadd, 1) := by decide +kernel
theorem dL_law_498 : decode cL_law 498 = .ok (.iaload, 1) := by decide +kernel
theorem dL_law_499 : decode cL_law 499 = .ok (.invokevirtual 70, 3) := by decide +kernel
theorem dL_law_502 : decode cL_law 502 = .ok (.if_icmp .eq 51, 3) := by decide +kernel
theorem dL_law_507 : decode cL_law 507 = .ok (.aload_n 1, 1) := by decide +kernel
theorem dL_law_508 : decode cL_law 508 = .ok (.aload_n 0, 1) := by decide +kernel
theorem dL_law_509 : decode cL_law 509 = .ok (.iload_n 3, 1) := by decide +kernel
theorem dL_law_510 : decode cL_law 510 = .ok (.iconst 1, 1) := by decide +kernel
theorem dL_law_511 : decode cL_law 511 = .ok (.iadd, 1) := by decide +kernel
theorem dL_law_512 : decode cL_law 512 = .ok (.iaload, 1) := by decide +kernel
theorem dL_law_513 : decode cL_law 513 = .ok (.invokevirtual 71, 3) := by decide +kernel
theorem dL_law_516 : decode cL_law 516 = .ok (.aload_n 2, 1) := by decide +kernel
theorem dL_law_517 : decode cL_law 517 = .ok (.aload_n 0, 1) := by decide +kernel
theorem dL_law_518 : decode cL_law 518 = .ok (.iload_n 3, 1) := by decide +kernel
theorem dL_law_519 : decode cL_law 519 = .ok (.iconst 1, 1) := by decide +kernel
theorem dL_law_520 : decode cL_law 520 = .ok (.iadd, 1) := by decide +kernel
theorem dL_law_521 : decode cL_law 521 = .ok (.iaload, 1) := by decide +kernel
theorem dL_law_522 : decode cL_law 522 = .ok (.invokevirtual 74, 3) := by decide +kernel
theorem dL_law_525 : decode cL_law 525 = .ok (.if_icmp .eq 28, 3) := by decide +kernel
theorem dL_law_530 : decode cL_law 530 = .ok (.aload_n 1, 1) := by decide +kernel
theorem dL_law_531 : decode cL_law 531 = .ok (.aload_n 0, 1) := by decide +kernel
theorem dL_law_532 : decode cL_law 532 = .ok (.iload_n 3, 1) := by decide +kernel
theorem dL_law_533 : decode cL_law 533 = .ok (.iconst 1, 1) := by decide +kernel
theorem dL_law_534 : decode cL_law 534 = .ok (.iadd, 1) := by decide +kernel
theorem dL_law_535 : decode cL_law 535 = .ok (.iaload, 1) := by decide +kernel
theorem dL_law_536 : decode cL_law 536 = .ok (.invokevirtual 75, 3) := by decide +kernel
theorem dL_law_539 : decode cL_law 539 = .ok (.aload_n 2, 1) := by decide +kernel
theorem dL_law_540 : decode cL_law 540 = .ok (.aload_n 0, 1) := by decide +kernel
theorem dL_law_541 : decode cL_law 541 = .ok (.iload_n 3, 1) := by decide +kernel
theorem dL_law_542 : decode cL_law 542 = .ok (.iconst 1, 1) := by decide +kernel
theorem dL_law_543 : decode cL_law 543 = .ok (.iadd, 1) := by decide +kernel
theorem dL_law_544 : decode cL_law 544 = .ok (.iaload, 1) := by decide +kernel
theorem dL_law_545 : decode cL_law 545 = .ok (.invokevirtual 78, 3) := by decide +kernel
theorem dL_law_548 : decode cL_law 548 = .ok (.if_icmp .eq 5, 3) := by decide +kernel
theorem dL_law_553 : decode cL_law 553 = .ok (.iinc 3 6, 3) := by decide +kernel
theorem dL_law_556 : decode cL_law 556 = .ok (.goto (-538), 3) := by decide +kernel
theorem dX0_init_0 : decode cX0_init 0 = .ok (.aload_n 0, 1) := by decide +kernel
theorem dX0_init_1 : decode cX0_init 1 = .ok (.invokespecial 3, 3) := by decide +kernel
theorem dX0_init_4 : decode cX0_init 4 = .ok (.aload_n 0, 1) := by decide +kernel
theorem dX0_init_5 : decode cX0_init 5 = .ok (.iconst 0, 1) := by decide +kernel
theorem dX0_init_6 : decode cX0_init 6 = .ok (.putfield 9, 3) := by decide +kernel
theorem dX0_init_9 : decode cX0_init 9 = .ok (.aload_n 0, 1) := by decide +kernel
theorem dX0_init_10 : decode cX0_init 10 = .ok (.iconst 0, 1) := by decide +kernel
theorem dX0_init_11 : decode cX0_init 11 = .ok (.putfield 15, 3) := by decide +kernel
theorem dX0_init_14 : decode cX0_init 14 = .ok (.aload_n 0, 1) := by decide +kernel
theorem dX0_init_15 : decode cX0_init 15 = .ok (.iconst 0, 1) := by decide +kernel
theorem dX0_init_16 : decode cX0_init 16 = .ok (.putfield 18, 3) := by decide +kernel
theorem dX0_init_19 : decode cX0_init 19 = .ok (.aload_n 0, 1) := by decide +kernel
theorem dX0_init_20 : decode cX0_init 20 = .ok (.iconst 0, 1) := by decide +kernel
theorem dX0_init_21 : decode cX0_init 21 = .ok (.putfield 21, 3) := by decide +kernel
theorem dX0_init_24 : decode cX0_init 24 = .ok (.aload_n 0, 1) := by decide +kernel
theorem dX0_init_25 : decode cX0_init 25 = .ok (.iconst 0, 1) := by decide +kernel
theorem dX0_init_26 : decode cX0_init 26 = .ok (.putfield 24, 3) := by decide +kernel
theorem dX0_init_29 : decode cX0_init 29 = .ok (.aload_n 0, 1) := by decide +kernel
theorem dX0_init_30 : decode cX0_init 30 = .ok (.bipush 40, 2) := by decide +kernel
theorem dX0_init_32 : decode cX0_init 32 = .ok (.newarray .int, 2) := by decide +kernel
theorem dX0_init_34 : decode cX0_init 34 = .ok (.putfield 27, 3) := by decide +kernel
theorem dX0_init_37 : decode cX0_init 37 = .ok (.aload_n 0, 1) := by decide +kernel
theorem dX0_init_38 : decode cX0_init 38 = .ok (.iconst 0, 1) := by decide +kernel
theorem dX0_init_39 : decode cX0_init 39 = .ok (.putfield 31, 3) := by decide +kernel
theorem dX0_init_42 : decode cX0_init 42 = .ok (.aload_n 0, 1) := by decide +kernel
theorem dX0_init_43 : decode cX0_init 43 = .ok (.iconst 0, 1) := by decide +kernel
theorem dX0_init_44 : decode cX0_init 44 = .ok (.putfield 34, 3) := by decide +kernel
theorem dX0_init_47 : decode cX0_init 47 = .ok (.aload_n 0, 1) := by decide +kernel
theorem dX0_init_48 : decode cX0_init 48 = .ok (.iconst 0, 1) := by decide +kernel
theorem dX0_init_49 : decode cX0_init 49 = .ok (.putfield 37, 3) := by decide +kernel
theorem dX0_init_52 : decode cX0_init 52 = .ok (.aload_n 0, 1) := by decide +kernel
theorem dX0_init_53 : decode cX0_init 53 = .ok (.aload_n 1, 1) := by decide +kernel
theorem dX0_init_54 : decode cX0_init 54 = .ok (.putfield 41, 3) := by decide +kernel
theorem dX0_init_57 : decode cX0_init 57 = .ok (.aload_n 0, 1) := by decide +kernel
theorem dX0_init_58 : decode cX0_init 58 = .ok (.aload_n 2, 1) := by decide +kernel
theorem dX0_init_59 : decode cX0_init 59 = .ok (.putfield 45, 3) := by decide +kernel
theorem dX0_init_62 : decode cX0_init 62 = .ok (.return_, 1) := by decide +kernel
theorem dX1_clear_0 : decode cX1_clear 0 = .ok (.aload_n 0, 1) := by decide +kernel
theorem dX1_clear_1 : decode cX1_clear 1 = .ok (.iconst 0, 1) := by decide +kernel
theorem dX1_clear_2 : decode cX1_clear 2 = .ok (.putfield 9, 3) := by decide +kernel
theorem dX1_clear_5 : decode cX1_clear 5 = .ok (.aload_n 0, 1) := by decide +kernel
theorem dX1_clear_6 : decode cX1_clear 6 = .ok (.iconst 0, 1) := by decide +kernel
theorem dX1_clear_7 : decode cX1_clear 7 = .ok (.putfield 36, 3) := by decide +kernel
theorem dX1_clear_10 : decode cX1_clear 10 = .ok (.aload_n 0, 1) := by decide +kernel
theorem dX1_clear_11 : decode cX1_clear 11 = .ok (.iconst 0, 1) := by decide +kernel
theorem dX1_clear_12 : decode cX1_clear 12 = .ok (.putfield 66, 3) := by decide +kernel
theorem dX1_clear_15 : decode cX1_clear 15 = .ok (.return_, 1) := by decide +kernel
theorem dX1_init_0 : decode cX1_init 0 = .ok (.aload_n 0, 1) := by decide +kernel
theorem dX1_init_1 : decode cX1_init 1 = .ok (.invokespecial 3, 3) := by decide +kernel
theorem dX1_init_4 : decode cX1_init 4 = .ok (.aload_n 0, 1) := by decide +kernel
theorem dX1_init_5 : decode cX1_init 5 = .ok (.iconst 0, 1) := by decide +kernel
theorem dX1_init_6 : decode cX1_init 6 = .ok (.putfield 9, 3) := by decide +kernel
theorem dX1_init_9 : decode cX1_init 9 = .ok (.aload_n 0, 1) := by decide +kernel
theorem dX1_init_10 : decode cX1_init 10 = .ok (.bipush 12, 2) := by decide +kernel
theorem dX1_init_12 : decode cX1_init 12 = .ok (.newarray .long, 2) := by decide +kernel
theorem dX1_init_14 : decode cX1_init 14 = .ok (.putfield 15, 3) := by decide +kernel
theorem dX1_init_17 : decode cX1_init 17 = .ok (.aload_n 0, 1) := by decide +kernel
theorem dX1_init_18 : decode cX1_init 18 = .ok (.bipush 12, 2) := by decide +kernel
theorem dX1_init_20 : decode cX1_init 20 = .ok (.newarray .int, 2) := by decide +kernel
theorem dX1_init_22 : decode cX1_init 22 = .ok (.putfield 19, 3) := by decide +kernel
theorem dX1_init_25 : decode cX1_init 25 = .ok (.aload_n 0, 1) := by decide +kernel
theorem dX1_init_26 : decode cX1_init 26 = .ok (.bipush 12, 2) := by decide +kernel
theorem dX1_init_28 : decode cX1_init 28 = .ok (.newarray .int, 2) := by decide +kernel
theorem dX1_init_30 : decode cX1_init 30 = .ok (.putfield 23, 3) := by decide +kernel
theorem dX1_init_33 : decode cX1_init 33 = .ok (.aload_n 0, 1) := by decide +kernel
theorem dX1_init_34 : decode cX1_init 34 = .ok (.bipush 72, 2) := by decide +kernel
theorem dX1_init_36 : decode cX1_init 36 = .ok (.newarray .long, 2) := by decide +kernel
theorem dX1_init_38 : decode cX1_init 38 = .ok (.putfield 26, 3) := by decide +kernel
theorem dX1_init_41 : decode cX1_init 41 = .ok (.aload_n 0, 1) := by decide +kernel
theorem dX1_init_42 : decode cX1_init 42 = .ok (.bipush 72, 2) := by decide +kernel
theorem dX1_init_44 : decode cX1_init 44 = .ok (.newarray .boolean, 2) := by decide +kernel
theorem dX1_init_46 : decode cX1_init 46 = .ok (.putfield 29, 3) := by decide +kernel
theorem dX1_init_49 : decode cX1_init 49 = .ok (.aload_n 0, 1) := by decide +kernel
theorem dX1_init_50 : decode cX1_init 50 = .ok (.bipush 72, 2) := by decide +kernel
theorem dX1_init_52 : decode cX1_init 52 = .ok (.newarray .int, 2) := by decide +kernel
theorem dX1_init_54 : decode cX1_init 54 = .ok (.putfield 33, 3) := by decide +kernel
theorem dX1_init_57 : decode cX1_init 57 = .ok (.aload_n 0, 1) := by decide +kernel
theorem dX1_init_58 : decode cX1_init 58 = .ok (.iconst 0, 1) := by decide +kernel
theorem dX1_init_59 : decode cX1_init 59 = .ok (.putfield 36, 3) := by decide +kernel
theorem dX1_init_62 : decode cX1_init 62 = .ok (.aload_n 0, 1) := by decide +kernel
theorem dX1_init_63 : decode cX1_init 63 = .ok (.bipush 30, 2) := by decide +kernel
theorem dX1_init_65 : decode cX1_init 65 = .ok (.newarray .long, 2) := by decide +kernel
theorem dX1_init_67 : decode cX1_init 67 = .ok (.putfield 39, 3) := by decide +kernel
theorem dX1_init_70 : decode cX1_init 70 = .ok (.aload_n 0, 1) := by decide +kernel
theorem dX1_init_71 : decode cX1_init 71 = .ok (.bipush 120, 2) := by decide +kernel
theorem dX1_init_73 : decode cX1_init 73 = .ok (.newarray .int, 2) := by decide +kernel
theorem dX1_init_75 : decode cX1_init 75 = .ok (.putfield 42, 3) := by decide +kernel
theorem dX1_init_78 : decode cX1_init 78 = .ok (.aload_n 0, 1) := by decide +kernel
theorem dX1_init_79 : decode cX1_init 79 = .ok (.bipush 30, 2) := by decide +kernel
theorem dX1_init_81 : decode cX1_init 81 = .ok (.newarray .int, 2) := by decide +kernel
theorem dX1_init_83 : decode cX1_init 83 = .ok (.putfield 45, 3) := by decide +kernel
theorem dX1_init_86 : decode cX1_init 86 = .ok (.aload_n 0, 1) := by decide +kernel
theorem dX1_init_87 : decode cX1_init 87 = .ok (.bipush 30, 2) := by decide +kernel
theorem dX1_init_89 : decode cX1_init 89 = .ok (.newarray .int, 2) := by decide +kernel
theorem dX1_init_91 : decode cX1_init 91 = .ok (.putfield 48, 3) := by decide +kernel
theorem dX1_init_94 : decode cX1_init 94 = .ok (.aload_n 0, 1) := by decide +kernel
theorem dX1_init_95 : decode cX1_init 95 = .ok (.sipush 720, 3) := by decide +kernel
theorem dX1_init_98 : decode cX1_init 98 = .ok (.newarray .int, 2) := by decide +kernel
theorem dX1_init_100 : decode cX1_init 100 = .ok (.putfield 51, 3) := by decide +kernel
theorem dX1_init_103 : decode cX1_init 103 = .ok (.aload_n 0, 1) := by decide +kernel
theorem dX1_init_104 : decode cX1_init 104 = .ok (.sipush 720, 3) := by decide +kernel
theorem dX1_init_107 : decode cX1_init 107 = .ok (.newarray .int, 2) := by decide +kernel
theorem dX1_init_109 : decode cX1_init 109 = .ok (.putfield 54, 3) := by decide +kernel
theorem dX1_init_112 : decode cX1_init 112 = .ok (.aload_n 0, 1) := by decide +kernel
theorem dX1_init_113 : decode cX1_init 113 = .ok (.sipush 720, 3) := by decide +kernel
theorem dX1_init_116 : decode cX1_init 116 = .ok (.newarray .int, 2) := by decide +kernel
theorem dX1_init_118 : decode cX1_init 118 = .ok (.putfield 57, 3) := by decide +kernel
theorem dX1_init_121 : decode cX1_init 121 = .ok (.aload_n 0, 1) := by decide +kernel
theorem dX1_init_122 : decode cX1_init 122 = .ok (.sipush 3000, 3) := by decide +kernel
theorem dX1_init_125 : decode cX1_init 125 = .ok (.newarray .int, 2) := by decide +kernel
theorem dX1_init_127 : decode cX1_init 127 = .ok (.putfield 60, 3) := by decide +kernel
theorem dX1_init_130 : decode cX1_init 130 = .ok (.aload_n 0, 1) := by decide +kernel
theorem dX1_init_131 : decode cX1_init 131 = .ok (.sipush 3000, 3) := by decide +kernel
theorem dX1_init_134 : decode cX1_init 134 = .ok (.newarray .int, 2) := by decide +kernel
theorem dX1_init_136 : decode cX1_init 136 = .ok (.putfield 63, 3) := by decide +kernel
theorem dX1_init_139 : decode cX1_init 139 = .ok (.aload_n 0, 1) := by decide +kernel
theorem dX1_init_140 : decode cX1_init 140 = .ok (.iconst 0, 1) := by decide +kernel
theorem dX1_init_141 : decode cX1_init 141 = .ok (.putfield 66, 3) := by decide +kernel
theorem dX1_init_144 : decode cX1_init 144 = .ok (.return_, 1) := by decide +kernel
theorem dX2_goIf_0 : decode cX2_goIf 0 = .ok (.aload_n 0, 1) := by decide +kernel
theorem dX2_goIf_1 : decode cX2_goIf 1 = .ok (.getfield 25, 3) := by decide +kernel
theorem dX2_goIf_4 : decode cX2_goIf 4 = .ok (.getfield 73, 3) := by decide +kernel
theorem dX2_goIf_7 : decode cX2_goIf 7 = .ok (.iload_n 1, 1) := by decide +kernel
theorem dX2_goIf_8 : decode cX2_goIf 8 = .ok (.if_icmp .ne 11, 3) := by decide +kernel
theorem dX2_goIf_19 : decode cX2_goIf 19 = .ok (.iconst 1, 1) := by decide +kernel
theorem dX2_goIf_20 : decode cX2_goIf 20 = .ok (.ireturn, 1) := by decide +kernel
theorem dX2_init_0 : decode cX2_init 0 = .ok (.aload_n 0, 1) := by decide +kernel
theorem dX2_init_1 : decode cX2_init 1 = .ok (.invokespecial 3, 3) := by decide +kernel
theorem dX2_init_4 : decode cX2_init 4 = .ok (.aload_n 0, 1) := by decide +kernel
theorem dX2_init_5 : decode cX2_init 5 = .ok (.iconst 0, 1) := by decide +kernel
theorem dX2_init_6 : decode cX2_init 6 = .ok (.putfield 11, 3) := by decide +kernel
theorem dX2_init_9 : decode cX2_init 9 = .ok (.aload_n 0, 1) := by decide +kernel
theorem dX2_init_10 : decode cX2_init 10 = .ok (.iconst 0, 1) := by decide +kernel
theorem dX2_init_11 : decode cX2_init 11 = .ok (.putfield 15, 3) := by decide +kernel
theorem dX2_init_14 : decode cX2_init 14 = .ok (.aload_n 0, 1) := by decide +kernel
theorem dX2_init_15 : decode cX2_init 15 = .ok (.iconst 0, 1) := by decide +kernel
theorem dX2_init_16 : decode cX2_init 16 = .ok (.putfield 19, 3) := by decide +kernel
theorem dX2_init_19 : decode cX2_init 19 = .ok (.aload_n 0, 1) := by decide +kernel
theorem dX2_init_20 : decode cX2_init 20 = .ok (.iconst 0, 1) := by decide +kernel
theorem dX2_init_21 : decode cX2_init 21 = .ok (.putfield 22, 3) := by decide +kernel
theorem dX2_init_24 : decode cX2_init 24 = .ok (.aload_n 0, 1) := by decide +kernel
theorem dX2_init_25 : decode cX2_init 25 = .ok (.aload_n 1, 1) := by decide +kernel
theorem dX2_init_26 : decode cX2_init 26 = .ok (.putfield 25, 3) := by decide +kernel
theorem dX2_init_29 : decode cX2_init 29 = .ok (.aload_n 0, 1) := by decide +kernel
theorem dX2_init_30 : decode cX2_init 30 = .ok (.aload_n 2, 1) := by decide +kernel
theorem dX2_init_31 : decode cX2_init 31 = .ok (.putfield 29, 3) := by decide +kernel
theorem dX2_init_34 : decode cX2_init 34 = .ok (.aload_n 0, 1) := by decide +kernel
theorem dX2_init_35 : decode cX2_init 35 = .ok (.new 33, 3) := by decide +kernel
theorem dX2_init_38 : decode cX2_init 38 = .ok (.dup, 1) := by decide +kernel
theorem dX2_init_39 : decode cX2_init 39 = .ok (.aload_n 1, 1) := by decide +kernel
theorem dX2_init_40 : decode cX2_init 40 = .ok (.aload_n 2, 1) := by decide +kernel
theorem dX2_init_41 : decode cX2_init 41 = .ok (.invokespecial 35, 3) := by decide +kernel
theorem dX2_init_44 : decode cX2_init 44 = .ok (.putfield 38, 3) := by decide +kernel
theorem dX2_init_47 : decode cX2_init 47 = .ok (.return_, 1) := by decide +kernel
theorem dX2_read_0 : decode cX2_read 0 = .ok (.aload_n 0, 1) := by decide +kernel
theorem dX2_read_1 : decode cX2_read 1 = .ok (.aload_n 1, 1) := by decide +kernel
theorem dX2_read_2 : decode cX2_read 2 = .ok (.putfield 29, 3) := by decide +kernel
theorem dX2_read_5 : decode cX2_read 5 = .ok (.aload_n 0, 1) := by decide +kernel
theorem dX2_read_6 : decode cX2_read 6 = .ok (.getfield 29, 3) := by decide +kernel
theorem dX2_read_9 : decode cX2_read 9 = .ok (.invokevirtual 42, 3) := by decide +kernel
theorem dX2_read_12 : decode cX2_read 12 = .ok (.aload_n 0, 1) := by decide +kernel
theorem dX2_read_13 : decode cX2_read 13 = .ok (.getfield 25, 3) := by decide +kernel
theorem dX2_read_16 : decode cX2_read 16 = .ok (.iload_n 2, 1) := by decide +kernel
theorem dX2_read_17 : decode cX2_read 17 = .ok (.invokevirtual 47, 3) := by decide +kernel
theorem dX2_read_20 : decode cX2_read 20 = .ok (.aload_n 0, 1) := by decide +kernel
theorem dX2_read_21 : decode cX2_read 21 = .ok (.iconst 0, 1) := by decide +kernel
theorem dX2_read_22 : decode cX2_read 22 = .ok (.putfield 11, 3) := by decide +kernel
theorem dX2_read_25 : decode cX2_read 25 = .ok (.iconst 0, 1) := by decide +kernel
theorem dX2_read_26 : decode cX2_read 26 = .ok (.istore_n 3, 1) := by decide +kernel
theorem dX2_read_27 : decode cX2_read 27 = .ok (.iconst 0, 1) := by decide +kernel
theorem dX2_read_28 : decode cX2_read 28 = .ok (.istore 4, 2) := by decide +kernel
theorem dX2_read_30 : decode cX2_read 30 = .ok (.iload 4, 2) := by decide +kernel
theorem dX2_read_32 : decode cX2_read 32 = .ok (.iload_n 2, 1) := by decide +kernel
theorem dX2_read_33 : decode cX2_read 33 = .ok (.if_icmp .gt 78, 3) := by decide +kernel
theorem dX2_read_36 : decode cX2_read 36 = .ok (.iload_n 3, 1) := by decide +kernel
theorem dX2_read_37 : decode cX2_read 37 = .ok (.ifCond .ne 74, 3) := by decide +kernel
theorem dX2_read_40 : decode cX2_read 40 = .ok (.aload_n 0, 1) := by decide +kernel
theorem dX2_read_41 : decode cX2_read 41 = .ok (.getfield 11, 3) := by decide +kernel
theorem dX2_read_44 : decode cX2_read 44 = .ok (.bipush 15, 2) := by decide +kernel
theorem dX2_read_46 : decode cX2_read 46 = .ok (.if_icmp .eq 65, 3) := by decide +kernel
theorem dX2_read_49 : decode cX2_read 49 = .ok (.aload_n 0, 1) := by decide +kernel
theorem dX2_read_50 : decode cX2_read 50 = .ok (.getfield 25, 3) := by decide +kernel
theorem dX2_read_53 : decode cX2_read 53 = .ok (.invokevirtual 53, 3) := by decide +kernel
theorem dX2_read_56 : decode cX2_read 56 = .ok (.aload_n 0, 1) := by decide +kernel
theorem dX2_read_57 : decode cX2_read 57 = .ok (.getfield 11, 3) := by decide +kernel
theorem dX2_read_60 : decode cX2_read 60 = .ok (.bipush 14, 2) := by decide +kernel
theorem dX2_read_62 : decode cX2_read 62 = .ok (.if_icmp .ne 13, 3) := by decide +kernel
theorem dX2_read_75 : decode cX2_read 75 = .ok (.aload_n 0, 1) := by decide +kernel
theorem dX2_read_76 : decode cX2_read 76 = .ok (.invokevirtual 60, 3) := by decide +kernel
theorem dX2_read_79 : decode cX2_read 79 = .ok (.istore_n 3, 1) := by decide +kernel
theorem dX2_read_80 : decode cX2_read 80 = .ok (.aload_n 0, 1) := by decide +kernel
theorem dX2_read_81 : decode cX2_read 81 = .ok (.getfield 11, 3) := by decide +kernel
theorem dX2_read_84 : decode cX2_read 84 = .ok (.bipush 14, 2) := by decide +kernel
theorem dX2_read_86 : decode cX2_read 86 = .ok (.if_icmp .ne 19, 3) := by decide +kernel
theorem dX2_read_105 : decode cX2_read 105 = .ok (.iinc 4 1, 3) := by decide +kernel
theorem dX2_read_108 : decode cX2_read 108 = .ok (.goto (-78), 3) := by decide +kernel
theorem dX2_read_111 : decode cX2_read 111 = .ok (.iload_n 3, 1) := by decide +kernel
theorem dX2_read_112 : decode cX2_read 112 = .ok (.ireturn, 1) := by decide +kernel
theorem dX2_step_0 : decode cX2_step 0 = .ok (.aload_n 0, 1) := by decide +kernel
theorem dX2_step_1 : decode cX2_step 1 = .ok (.getfield 11, 3) := by decide +kernel
theorem dX2_step_4 : decode cX2_step 4 = .ok (.iconst 4, 1) := by decide +kernel
theorem dX2_step_5 : decode cX2_step 5 = .ok (.if_icmp .gt 8, 3) := by decide +kernel
theorem dX2_step_8 : decode cX2_step 8 = .ok (.aload_n 0, 1) := by decide +kernel
theorem dX2_step_9 : decode cX2_step 9 = .ok (.invokevirtual 64, 3) := by decide +kernel
theorem dX2_step_12 : decode cX2_step 12 = .ok (.ireturn, 1) := by decide +kernel
theorem dX2_symbolStep_0 : decode cX2_symbolStep 0 = .ok (.aload_n 0, 1) := by decide +kernel
theorem dX2_symbolStep_1 : decode cX2_symbolStep 1 = .ok (.getfield 11, 3) := by decide +kernel
theorem dX2_symbolStep_4 : decode cX2_symbolStep 4 = .ok (.tableswitch 74 1 4 #[32, 37, 42, 47], 32) := by decide +kernel
theorem dX2_symbolStep_78 : decode cX2_symbolStep 78 = .ok (.aload_n 0, 1) := by decide +kernel
theorem dX2_symbolStep_79 : decode cX2_symbolStep 79 = .ok (.iconst 3, 1) := by decide +kernel
theorem dX2_symbolStep_80 : decode cX2_symbolStep 80 = .ok (.iconst 1, 1) := by decide +kernel
theorem dX2_symbolStep_81 : decode cX2_symbolStep 81 = .ok (.invokevirtual 89, 3) := by decide +kernel
theorem dX2_symbolStep_84 : decode cX2_symbolStep 84 = .ok (.ireturn, 1) := by decide +kernel
theorem dX3_begin_0 : decode cX3_begin 0 = .ok (.aload_n 0, 1) := by decide +kernel
theorem dX3_begin_1 : decode cX3_begin 1 = .ok (.iload_n 1, 1) := by decide +kernel
theorem dX3_begin_2 : decode cX3_begin 2 = .ok (.aload_n 0, 1) := by decide +kernel
theorem dX3_begin_3 : decode cX3_begin 3 = .ok (.getfield 31, 3) := by decide +kernel
theorem dX3_begin_6 : decode cX3_begin 6 = .ok (.arraylength, 1) := by decide +kernel
theorem dX3_begin_7 : decode cX3_begin 7 = .ok (.invokestatic 35, 3) := by decide +kernel
theorem dX3_begin_10 : decode cX3_begin 10 = .ok (.putfield 9, 3) := by decide +kernel
theorem dX3_begin_13 : decode cX3_begin 13 = .ok (.aload_n 0, 1) := by decide +kernel
theorem dX3_begin_14 : decode cX3_begin 14 = .ok (.iconst 0, 1) := by decide +kernel
theorem dX3_begin_15 : decode cX3_begin 15 = .ok (.putfield 15, 3) := by decide +kernel
theorem dX3_begin_18 : decode cX3_begin 18 = .ok (.return_, 1) := by decide +kernel
theorem dX3_init_0 : decode cX3_init 0 = .ok (.aload_n 0, 1) := by decide +kernel
theorem dX3_init_1 : decode cX3_init 1 = .ok (.invokespecial 3, 3) := by decide +kernel
theorem dX3_init_4 : decode cX3_init 4 = .ok (.aload_n 0, 1) := by decide +kernel
theorem dX3_init_5 : decode cX3_init 5 = .ok (.iconst 0, 1) := by decide +kernel
theorem dX3_init_6 : decode cX3_init 6 = .ok (.putfield 9, 3) := by decide +kernel
theorem dX3_init_9 : decode cX3_init 9 = .ok (.aload_n 0, 1) := by decide +kernel
theorem dX3_init_10 : decode cX3_init 10 = .ok (.iconst 0, 1) := by decide +kernel
theorem dX3_init_11 : decode cX3_init 11 = .ok (.putfield 15, 3) := by decide +kernel
theorem dX3_init_14 : decode cX3_init 14 = .ok (.aload_n 0, 1) := by decide +kernel
theorem dX3_init_15 : decode cX3_init 15 = .ok (.iconst (-1), 1) := by decide +kernel
theorem dX3_init_16 : decode cX3_init 16 = .ok (.putfield 18, 3) := by decide +kernel
theorem dX3_init_19 : decode cX3_init 19 = .ok (.aload_n 0, 1) := by decide +kernel
theorem dX3_init_20 : decode cX3_init 20 = .ok (.iconst 0, 1) := by decide +kernel
theorem dX3_init_21 : decode cX3_init 21 = .ok (.putfield 21, 3) := by decide +kernel
theorem dX3_init_24 : decode cX3_init 24 = .ok (.aload_n 0, 1) := by decide +kernel
theorem dX3_init_25 : decode cX3_init 25 = .ok (.lconst 0, 1) := by decide +kernel
theorem dX3_init_26 : decode cX3_init 26 = .ok (.putfield 24, 3) := by decide +kernel
theorem dX3_init_29 : decode cX3_init 29 = .ok (.aload_n 0, 1) := by decide +kernel
theorem dX3_init_30 : decode cX3_init 30 = .ok (.lconst 0, 1) := by decide +kernel
theorem dX3_init_31 : decode cX3_init 31 = .ok (.putfield 28, 3) := by decide +kernel
theorem dX3_init_34 : decode cX3_init 34 = .ok (.aload_n 0, 1) := by decide +kernel
theorem dX3_init_35 : decode cX3_init 35 = .ok (.aload_n 1, 1) := by decide +kernel
theorem dX3_init_36 : decode cX3_init 36 = .ok (.putfield 31, 3) := by decide +kernel
theorem dX3_init_39 : decode cX3_init 39 = .ok (.return_, 1) := by decide +kernel
theorem dX3_next_0 : decode cX3_next 0 = .ok (.aload_n 0, 1) := by decide +kernel
theorem dX3_next_1 : decode cX3_next 1 = .ok (.aload_n 0, 1) := by decide +kernel
theorem dX3_next_2 : decode cX3_next 2 = .ok (.aload_n 0, 1) := by decide +kernel
theorem dX3_next_3 : decode cX3_next 3 = .ok (.getfield 15, 3) := by decide +kernel
theorem dX3_next_6 : decode cX3_next 6 = .ok (.invokevirtual 41, 3) := by decide +kernel
theorem dX3_next_9 : decode cX3_next 9 = .ok (.putfield 21, 3) := by decide +kernel
theorem dX3_next_12 : decode cX3_next 12 = .ok (.aload_n 0, 1) := by decide +kernel
theorem dX3_next_13 : decode cX3_next 13 = .ok (.getfield 21, 3) := by decide +kernel
theorem dX3_next_16 : decode cX3_next 16 = .ok (.aload_n 0, 1) := by decide +kernel
theorem dX3_next_17 : decode cX3_next 17 = .ok (.getfield 9, 3) := by decide +kernel
theorem dX3_next_20 : decode cX3_next 20 = .ok (.if_icmp .lt 17, 3) := by decide +kernel
theorem dX3_next_23 : decode cX3_next 23 = .ok (.aload_n 0, 1) := by decide +kernel
theorem dX3_next_24 : decode cX3_next 24 = .ok (.iconst 0, 1) := by decide +kernel
theorem dX3_next_25 : decode cX3_next 25 = .ok (.putfield 18, 3) := by decide +kernel
theorem dX3_next_28 : decode cX3_next 28 = .ok (.aload_n 0, 1) := by decide +kernel
theorem dX3_next_29 : decode cX3_next 29 = .ok (.aload_n 0, 1) := by decide +kernel
theorem dX3_next_30 : decode cX3_next 30 = .ok (.getfield 9, 3) := by decide +kernel
theorem dX3_next_33 : decode cX3_next 33 = .ok (.putfield 15, 3) := by decide +kernel
theorem dX3_next_36 : decode cX3_next 36 = .ok (.return_, 1) := by decide +kernel
theorem dX3_skipBlanks_0 : decode cX3_skipBlanks 0 = .ok (.iload_n 1, 1) := by decide +kernel
theorem dX3_skipBlanks_1 : decode cX3_skipBlanks 1 = .ok (.istore_n 2, 1) := by decide +kernel
theorem dX3_skipBlanks_2 : decode cX3_skipBlanks 2 = .ok (.iload_n 2, 1) := by decide +kernel
theorem dX3_skipBlanks_3 : decode cX3_skipBlanks 3 = .ok (.aload_n 0, 1) := by decide +kernel
theorem dX3_skipBlanks_4 : decode cX3_skipBlanks 4 = .ok (.getfield 9, 3) := by decide +kernel
theorem dX3_skipBlanks_7 : decode cX3_skipBlanks 7 = .ok (.if_icmp .ge 31, 3) := by decide +kernel
theorem dX3_skipBlanks_38 : decode cX3_skipBlanks 38 = .ok (.iload_n 2, 1) := by decide +kernel
theorem dX3_skipBlanks_39 : decode cX3_skipBlanks 39 = .ok (.ireturn, 1) := by decide +kernel
theorem dX4_init_0 : decode cX4_init 0 = .ok (.aload_n 0, 1) := by decide +kernel
theorem dX4_init_1 : decode cX4_init 1 = .ok (.invokespecial 3, 3) := by decide +kernel
theorem dX4_init_4 : decode cX4_init 4 = .ok (.aload_n 0, 1) := by decide +kernel
theorem dX4_init_5 : decode cX4_init 5 = .ok (.iconst 0, 1) := by decide +kernel
theorem dX4_init_6 : decode cX4_init 6 = .ok (.putfield 9, 3) := by decide +kernel
theorem dX4_init_9 : decode cX4_init 9 = .ok (.aload_n 0, 1) := by decide +kernel
theorem dX4_init_10 : decode cX4_init 10 = .ok (.sipush 200, 3) := by decide +kernel
theorem dX4_init_13 : decode cX4_init 13 = .ok (.newarray .int, 2) := by decide +kernel
theorem dX4_init_15 : decode cX4_init 15 = .ok (.putfield 15, 3) := by decide +kernel
theorem dX4_init_18 : decode cX4_init 18 = .ok (.aload_n 0, 1) := by decide +kernel
theorem dX4_init_19 : decode cX4_init 19 = .ok (.sipush 200, 3) := by decide +kernel
theorem dX4_init_22 : decode cX4_init 22 = .ok (.newarray .int, 2) := by decide +kernel
theorem dX4_init_24 : decode cX4_init 24 = .ok (.putfield 19, 3) := by decide +kernel
theorem dX4_init_27 : decode cX4_init 27 = .ok (.aload_n 0, 1) := by decide +kernel
theorem dX4_init_28 : decode cX4_init 28 = .ok (.sipush 200, 3) := by decide +kernel
theorem dX4_init_31 : decode cX4_init 31 = .ok (.newarray .int, 2) := by decide +kernel
theorem dX4_init_33 : decode cX4_init 33 = .ok (.putfield 22, 3) := by decide +kernel
theorem dX4_init_36 : decode cX4_init 36 = .ok (.aload_n 0, 1) := by decide +kernel
theorem dX4_init_37 : decode cX4_init 37 = .ok (.sipush 200, 3) := by decide +kernel
theorem dX4_init_40 : decode cX4_init 40 = .ok (.newarray .int, 2) := by decide +kernel
theorem dX4_init_42 : decode cX4_init 42 = .ok (.putfield 25, 3) := by decide +kernel
theorem dX4_init_45 : decode cX4_init 45 = .ok (.aload_n 0, 1) := by decide +kernel
theorem dX4_init_46 : decode cX4_init 46 = .ok (.sipush 600, 3) := by decide +kernel
theorem dX4_init_49 : decode cX4_init 49 = .ok (.newarray .int, 2) := by decide +kernel
theorem dX4_init_51 : decode cX4_init 51 = .ok (.putfield 28, 3) := by decide +kernel
theorem dX4_init_54 : decode cX4_init 54 = .ok (.return_, 1) := by decide +kernel
theorem dX5_init_0 : decode cX5_init 0 = .ok (.aload_n 0, 1) := by decide +kernel
theorem dX5_init_1 : decode cX5_init 1 = .ok (.invokespecial 3, 3) := by decide +kernel
theorem dX5_init_4 : decode cX5_init 4 = .ok (.aload_n 0, 1) := by decide +kernel
theorem dX5_init_5 : decode cX5_init 5 = .ok (.iconst 0, 1) := by decide +kernel
theorem dX5_init_6 : decode cX5_init 6 = .ok (.putfield 11, 3) := by decide +kernel
theorem dX5_init_9 : decode cX5_init 9 = .ok (.aload_n 0, 1) := by decide +kernel
theorem dX5_init_10 : decode cX5_init 10 = .ok (.iconst (-1), 1) := by decide +kernel
theorem dX5_init_11 : decode cX5_init 11 = .ok (.putfield 15, 3) := by decide +kernel
theorem dX5_init_14 : decode cX5_init 14 = .ok (.aload_n 0, 1) := by decide +kernel
theorem dX5_init_15 : decode cX5_init 15 = .ok (.iconst 0, 1) := by decide +kernel
theorem dX5_init_16 : decode cX5_init 16 = .ok (.putfield 18, 3) := by decide +kernel
theorem dX5_init_19 : decode cX5_init 19 = .ok (.aload_n 0, 1) := by decide +kernel
theorem dX5_init_20 : decode cX5_init 20 = .ok (.sipush 200, 3) := by decide +kernel
theorem dX5_init_23 : decode cX5_init 23 = .ok (.newarray .int, 2) := by decide +kernel
theorem dX5_init_25 : decode cX5_init 25 = .ok (.putfield 21, 3) := by decide +kernel
theorem dX5_init_28 : decode cX5_init 28 = .ok (.aload_n 0, 1) := by decide +kernel
theorem dX5_init_29 : decode cX5_init 29 = .ok (.aload_n 1, 1) := by decide +kernel
theorem dX5_init_30 : decode cX5_init 30 = .ok (.putfield 25, 3) := by decide +kernel
theorem dX5_init_33 : decode cX5_init 33 = .ok (.aload_n 0, 1) := by decide +kernel
theorem dX5_init_34 : decode cX5_init 34 = .ok (.aload_n 2, 1) := by decide +kernel
theorem dX5_init_35 : decode cX5_init 35 = .ok (.putfield 29, 3) := by decide +kernel
theorem dX5_init_38 : decode cX5_init 38 = .ok (.aload_n 0, 1) := by decide +kernel
theorem dX5_init_39 : decode cX5_init 39 = .ok (.aload_n 3, 1) := by decide +kernel
theorem dX5_init_40 : decode cX5_init 40 = .ok (.putfield 33, 3) := by decide +kernel
theorem dX5_init_43 : decode cX5_init 43 = .ok (.return_, 1) := by decide +kernel
theorem dX6_init_0 : decode cX6_init 0 = .ok (.aload_n 0, 1) := by decide +kernel
theorem dX6_init_1 : decode cX6_init 1 = .ok (.invokespecial 3, 3) := by decide +kernel
theorem dX6_init_4 : decode cX6_init 4 = .ok (.aload_n 0, 1) := by decide +kernel
theorem dX6_init_5 : decode cX6_init 5 = .ok (.bipush 12, 2) := by decide +kernel
theorem dX6_init_7 : decode cX6_init 7 = .ok (.newarray .int, 2) := by decide +kernel
theorem dX6_init_9 : decode cX6_init 9 = .ok (.putfield 9, 3) := by decide +kernel
theorem dX6_init_12 : decode cX6_init 12 = .ok (.aload_n 0, 1) := by decide +kernel
theorem dX6_init_13 : decode cX6_init 13 = .ok (.bipush 30, 2) := by decide +kernel
theorem dX6_init_15 : decode cX6_init 15 = .ok (.newarray .boolean, 2) := by decide +kernel
theorem dX6_init_17 : decode cX6_init 17 = .ok (.putfield 15, 3) := by decide +kernel
theorem dX6_init_20 : decode cX6_init 20 = .ok (.aload_n 0, 1) := by decide +kernel
theorem dX6_init_21 : decode cX6_init 21 = .ok (.iconst 0, 1) := by decide +kernel
theorem dX6_init_22 : decode cX6_init 22 = .ok (.putfield 19, 3) := by decide +kernel
theorem dX6_init_25 : decode cX6_init 25 = .ok (.aload_n 0, 1) := by decide +kernel
theorem dX6_init_26 : decode cX6_init 26 = .ok (.sipush 6144, 3) := by decide +kernel
theorem dX6_init_29 : decode cX6_init 29 = .ok (.newarray .int, 2) := by decide +kernel
theorem dX6_init_31 : decode cX6_init 31 = .ok (.putfield 23, 3) := by decide +kernel
theorem dX6_init_34 : decode cX6_init 34 = .ok (.aload_n 0, 1) := by decide +kernel
theorem dX6_init_35 : decode cX6_init 35 = .ok (.bipush 12, 2) := by decide +kernel
theorem dX6_init_37 : decode cX6_init 37 = .ok (.newarray .int, 2) := by decide +kernel
theorem dX6_init_39 : decode cX6_init 39 = .ok (.putfield 26, 3) := by decide +kernel
theorem dX6_init_42 : decode cX6_init 42 = .ok (.aload_n 0, 1) := by decide +kernel
theorem dX6_init_43 : decode cX6_init 43 = .ok (.bipush 30, 2) := by decide +kernel
theorem dX6_init_45 : decode cX6_init 45 = .ok (.newarray .boolean, 2) := by decide +kernel
theorem dX6_init_47 : decode cX6_init 47 = .ok (.putfield 29, 3) := by decide +kernel
theorem dX6_init_50 : decode cX6_init 50 = .ok (.aload_n 0, 1) := by decide +kernel
theorem dX6_init_51 : decode cX6_init 51 = .ok (.bipush 30, 2) := by decide +kernel
theorem dX6_init_53 : decode cX6_init 53 = .ok (.newarray .boolean, 2) := by decide +kernel
theorem dX6_init_55 : decode cX6_init 55 = .ok (.putfield 32, 3) := by decide +kernel
theorem dX6_init_58 : decode cX6_init 58 = .ok (.aload_n 0, 1) := by decide +kernel
theorem dX6_init_59 : decode cX6_init 59 = .ok (.sipush 6144, 3) := by decide +kernel
theorem dX6_init_62 : decode cX6_init 62 = .ok (.newarray .boolean, 2) := by decide +kernel
theorem dX6_init_64 : decode cX6_init 64 = .ok (.putfield 35, 3) := by decide +kernel
theorem dX6_init_67 : decode cX6_init 67 = .ok (.aload_n 0, 1) := by decide +kernel
theorem dX6_init_68 : decode cX6_init 68 = .ok (.bipush 12, 2) := by decide +kernel
theorem dX6_init_70 : decode cX6_init 70 = .ok (.newarray .boolean, 2) := by decide +kernel
theorem dX6_init_72 : decode cX6_init 72 = .ok (.putfield 38, 3) := by decide +kernel
theorem dX6_init_75 : decode cX6_init 75 = .ok (.aload_n 0, 1) := by decide +kernel
theorem dX6_init_76 : decode cX6_init 76 = .ok (.bipush 12, 2) := by decide +kernel
theorem dX6_init_78 : decode cX6_init 78 = .ok (.newarray .boolean, 2) := by decide +kernel
theorem dX6_init_80 : decode cX6_init 80 = .ok (.putfield 41, 3) := by decide +kernel
theorem dX6_init_83 : decode cX6_init 83 = .ok (.aload_n 0, 1) := by decide +kernel
theorem dX6_init_84 : decode cX6_init 84 = .ok (.bipush 24, 2) := by decide +kernel
theorem dX6_init_86 : decode cX6_init 86 = .ok (.newarray .int, 2) := by decide +kernel
theorem dX6_init_88 : decode cX6_init 88 = .ok (.putfield 44, 3) := by decide +kernel
theorem dX6_init_91 : decode cX6_init 91 = .ok (.aload_n 0, 1) := by decide +kernel
theorem dX6_init_92 : decode cX6_init 92 = .ok (.bipush 90, 2) := by decide +kernel
theorem dX6_init_94 : decode cX6_init 94 = .ok (.newarray .int, 2) := by decide +kernel
theorem dX6_init_96 : decode cX6_init 96 = .ok (.putfield 47, 3) := by decide +kernel
theorem dX6_init_99 : decode cX6_init 99 = .ok (.aload_n 0, 1) := by decide +kernel
theorem dX6_init_100 : decode cX6_init 100 = .ok (.iconst 3, 1) := by decide +kernel
theorem dX6_init_101 : decode cX6_init 101 = .ok (.newarray .int, 2) := by decide +kernel
theorem dX6_init_103 : decode cX6_init 103 = .ok (.putfield 50, 3) := by decide +kernel
theorem dX6_init_106 : decode cX6_init 106 = .ok (.aload_n 0, 1) := by decide +kernel
theorem dX6_init_107 : decode cX6_init 107 = .ok (.iconst 3, 1) := by decide +kernel
theorem dX6_init_108 : decode cX6_init 108 = .ok (.newarray .int, 2) := by decide +kernel
theorem dX6_init_110 : decode cX6_init 110 = .ok (.putfield 53, 3) := by decide +kernel
theorem dX6_init_113 : decode cX6_init 113 = .ok (.aload_n 0, 1) := by decide +kernel
theorem dX6_init_114 : decode cX6_init 114 = .ok (.aload_n 1, 1) := by decide +kernel
theorem dX6_init_115 : decode cX6_init 115 = .ok (.putfield 56, 3) := by decide +kernel
theorem dX6_init_118 : decode cX6_init 118 = .ok (.return_, 1) := by decide +kernel
theorem dX7_init_0 : decode cX7_init 0 = .ok (.aload_n 0, 1) := by decide +kernel
theorem dX7_init_1 : decode cX7_init 1 = .ok (.invokespecial 3, 3) := by decide +kernel
theorem dX7_init_4 : decode cX7_init 4 = .ok (.aload_n 0, 1) := by decide +kernel
theorem dX7_init_5 : decode cX7_init 5 = .ok (.sipush 1200, 3) := by decide +kernel
theorem dX7_init_8 : decode cX7_init 8 = .ok (.newarray .int, 2) := by decide +kernel
theorem dX7_init_10 : decode cX7_init 10 = .ok (.putfield 9, 3) := by decide +kernel
theorem dX7_init_13 : decode cX7_init 13 = .ok (.aload_n 0, 1) := by decide +kernel
theorem dX7_init_14 : decode cX7_init 14 = .ok (.sipush 1200, 3) := by decide +kernel
theorem dX7_init_17 : decode cX7_init 17 = .ok (.newarray .int, 2) := by decide +kernel
theorem dX7_init_19 : decode cX7_init 19 = .ok (.putfield 15, 3) := by decide +kernel
theorem dX7_init_22 : decode cX7_init 22 = .ok (.aload_n 0, 1) := by decide +kernel
theorem dX7_init_23 : decode cX7_init 23 = .ok (.iconst 0, 1) := by decide +kernel
theorem dX7_init_24 : decode cX7_init 24 = .ok (.putfield 18, 3) := by decide +kernel
theorem dX7_init_27 : decode cX7_init 27 = .ok (.aload_n 0, 1) := by decide +kernel
theorem dX7_init_28 : decode cX7_init 28 = .ok (.sipush 1200, 3) := by decide +kernel
theorem dX7_init_31 : decode cX7_init 31 = .ok (.newarray .int, 2) := by decide +kernel
theorem dX7_init_33 : decode cX7_init 33 = .ok (.putfield 22, 3) := by decide +kernel
theorem dX7_init_36 : decode cX7_init 36 = .ok (.aload_n 0, 1) := by decide +kernel
theorem dX7_init_37 : decode cX7_init 37 = .ok (.sipush 1200, 3) := by decide +kernel
theorem dX7_init_40 : decode cX7_init 40 = .ok (.newarray .int, 2) := by decide +kernel
theorem dX7_init_42 : decode cX7_init 42 = .ok (.putfield 25, 3) := by decide +kernel
theorem dX7_init_45 : decode cX7_init 45 = .ok (.aload_n 0, 1) := by decide +kernel
theorem dX7_init_46 : decode cX7_init 46 = .ok (.sipush 1200, 3) := by decide +kernel
theorem dX7_init_49 : decode cX7_init 49 = .ok (.newarray .int, 2) := by decide +kernel
theorem dX7_init_51 : decode cX7_init 51 = .ok (.putfield 28, 3) := by decide +kernel
theorem dX7_init_54 : decode cX7_init 54 = .ok (.aload_n 0, 1) := by decide +kernel
theorem dX7_init_55 : decode cX7_init 55 = .ok (.sipush 1200, 3) := by decide +kernel
theorem dX7_init_58 : decode cX7_init 58 = .ok (.newarray .int, 2) := by decide +kernel
theorem dX7_init_60 : decode cX7_init 60 = .ok (.putfield 31, 3) := by decide +kernel
theorem dX7_init_63 : decode cX7_init 63 = .ok (.aload_n 0, 1) := by decide +kernel
theorem dX7_init_64 : decode cX7_init 64 = .ok (.sipush 1200, 3) := by decide +kernel
theorem dX7_init_67 : decode cX7_init 67 = .ok (.newarray .int, 2) := by decide +kernel
theorem dX7_init_69 : decode cX7_init 69 = .ok (.putfield 34, 3) := by decide +kernel
theorem dX7_init_72 : decode cX7_init 72 = .ok (.aload_n 0, 1) := by decide +kernel
theorem dX7_init_73 : decode cX7_init 73 = .ok (.iconst 0, 1) := by decide +kernel
theorem dX7_init_74 : decode cX7_init 74 = .ok (.putfield 37, 3) := by decide +kernel
theorem dX7_init_77 : decode cX7_init 77 = .ok (.aload_n 0, 1) := by decide +kernel
theorem dX7_init_78 : decode cX7_init 78 = .ok (.bipush 40, 2) := by decide +kernel
theorem dX7_init_80 : decode cX7_init 80 = .ok (.newarray .int, 2) := by decide +kernel
theorem dX7_init_82 : decode cX7_init 82 = .ok (.putfield 40, 3) := by decide +kernel
theorem dX7_init_85 : decode cX7_init 85 = .ok (.aload_n 0, 1) := by decide +kernel
theorem dX7_init_86 : decode cX7_init 86 = .ok (.bipush 40, 2) := by decide +kernel
theorem dX7_init_88 : decode cX7_init 88 = .ok (.newarray .boolean, 2) := by decide +kernel
theorem dX7_init_90 : decode cX7_init 90 = .ok (.putfield 43, 3) := by decide +kernel
theorem dX7_init_93 : decode cX7_init 93 = .ok (.aload_n 0, 1) := by decide +kernel
theorem dX7_init_94 : decode cX7_init 94 = .ok (.iconst 0, 1) := by decide +kernel
theorem dX7_init_95 : decode cX7_init 95 = .ok (.putfield 47, 3) := by decide +kernel
theorem dX7_init_98 : decode cX7_init 98 = .ok (.aload_n 0, 1) := by decide +kernel
theorem dX7_init_99 : decode cX7_init 99 = .ok (.aload_n 1, 1) := by decide +kernel
theorem dX7_init_100 : decode cX7_init 100 = .ok (.putfield 50, 3) := by decide +kernel
theorem dX7_init_103 : decode cX7_init 103 = .ok (.aload_n 0, 1) := by decide +kernel
theorem dX7_init_104 : decode cX7_init 104 = .ok (.aload_n 2, 1) := by decide +kernel
theorem dX7_init_105 : decode cX7_init 105 = .ok (.putfield 54, 3) := by decide +kernel
theorem dX7_init_108 : decode cX7_init 108 = .ok (.return_, 1) := by decide +kernel
theorem dX8_about_0 : decode cX8_about 0 = .ok (.iload_n 1, 1) := by decide +kernel
theorem dX8_about_1 : decode cX8_about 1 = .ok (.tableswitch 72 0 4 #[35, 40, 48, 56, 64], 35) := by decide +kernel
theorem dX8_about_36 : decode cX8_about 36 = .ok (.aload_n 0, 1) := by decide +kernel
theorem dX8_about_37 : decode cX8_about 37 = .ok (.getfield 13, 3) := by decide +kernel
theorem dX8_about_40 : decode cX8_about 40 = .ok (.ireturn, 1) := by decide +kernel
theorem dX8_about_41 : decode cX8_about 41 = .ok (.aload_n 0, 1) := by decide +kernel
theorem dX8_about_42 : decode cX8_about 42 = .ok (.getfield 20, 3) := by decide +kernel
theorem dX8_about_45 : decode cX8_about 45 = .ok (.getfield 114, 3) := by decide +kernel
theorem dX8_about_48 : decode cX8_about 48 = .ok (.ireturn, 1) := by decide +kernel
theorem dX8_about_49 : decode cX8_about 49 = .ok (.aload_n 0, 1) := by decide +kernel
theorem dX8_about_50 : decode cX8_about 50 = .ok (.getfield 20, 3) := by decide +kernel
theorem dX8_about_53 : decode cX8_about 53 = .ok (.getfield 108, 3) := by decide +kernel
theorem dX8_about_56 : decode cX8_about 56 = .ok (.ireturn, 1) := by decide +kernel
theorem dX8_about_57 : decode cX8_about 57 = .ok (.aload_n 0, 1) := by decide +kernel
theorem dX8_about_58 : decode cX8_about 58 = .ok (.getfield 30, 3) := by decide +kernel
theorem dX8_about_61 : decode cX8_about 61 = .ok (.getfield 99, 3) := by decide +kernel
theorem dX8_about_64 : decode cX8_about 64 = .ok (.ireturn, 1) := by decide +kernel
theorem dX8_about_65 : decode cX8_about 65 = .ok (.aload_n 0, 1) := by decide +kernel
theorem dX8_about_66 : decode cX8_about 66 = .ok (.getfield 78, 3) := by decide +kernel
theorem dX8_about_69 : decode cX8_about 69 = .ok (.getfield 203, 3) := by decide +kernel
theorem dX8_about_72 : decode cX8_about 72 = .ok (.ireturn, 1) := by decide +kernel
theorem dX8_about_73 : decode cX8_about 73 = .ok (.iconst (-1), 1) := by decide +kernel
theorem dX8_about_74 : decode cX8_about 74 = .ok (.ireturn, 1) := by decide +kernel
theorem dX8_demand_0 : decode cX8_demand 0 = .ok (.aload_n 0, 1) := by decide +kernel
theorem dX8_demand_1 : decode cX8_demand 1 = .ok (.iload_n 1, 1) := by decide +kernel
theorem dX8_demand_2 : decode cX8_demand 2 = .ok (.iload_n 2, 1) := by decide +kernel
theorem dX8_demand_3 : decode cX8_demand 3 = .ok (.invokevirtual 190, 3) := by decide +kernel
theorem dX8_demand_6 : decode cX8_demand 6 = .ok (.ifCond .eq 19, 3) := by decide +kernel
theorem dX8_demand_25 : decode cX8_demand 25 = .ok (.iconst (-1), 1) := by decide +kernel
theorem dX8_demand_26 : decode cX8_demand 26 = .ok (.ireturn, 1) := by decide +kernel
theorem dX8_end_0 : decode cX8_end 0 = .ok (.iload_n 1, 1) := by decide +kernel
theorem dX8_end_1 : decode cX8_end 1 = .ok (.ifCond .lt 11, 3) := by decide +kernel
theorem dX8_end_4 : decode cX8_end 4 = .ok (.iload_n 1, 1) := by decide +kernel
theorem dX8_end_5 : decode cX8_end 5 = .ok (.aload_n 0, 1) := by decide +kernel
theorem dX8_end_6 : decode cX8_end 6 = .ok (.getfield 13, 3) := by decide +kernel
theorem dX8_end_9 : decode cX8_end 9 = .ok (.if_icmp .le 5, 3) := by decide +kernel
theorem dX8_end_12 : decode cX8_end 12 = .ok (.iconst (-1), 1) := by decide +kernel
theorem dX8_end_13 : decode cX8_end 13 = .ok (.ireturn, 1) := by decide +kernel
theorem dX8_end_14 : decode cX8_end 14 = .ok (.aload_n 0, 1) := by decide +kernel
theorem dX8_end_15 : decode cX8_end 15 = .ok (.iload_n 1, 1) := by decide +kernel
theorem dX8_end_16 : decode cX8_end 16 = .ok (.putfield 13, 3) := by decide +kernel
theorem dX8_end_19 : decode cX8_end 19 = .ok (.iload_n 1, 1) := by decide +kernel
theorem dX8_end_20 : decode cX8_end 20 = .ok (.ireturn, 1) := by decide +kernel
theorem dX8_fault_0 : decode cX8_fault 0 = .ok (.iload_n 1, 1) := by decide +kernel
theorem dX8_fault_1 : decode cX8_fault 1 = .ok (.ifCond .ne 8, 3) := by decide +kernel
theorem dX8_fault_4 : decode cX8_fault 4 = .ok (.aload_n 0, 1) := by decide +kernel
theorem dX8_fault_5 : decode cX8_fault 5 = .ok (.getfield 82, 3) := by decide +kernel
theorem dX8_fault_8 : decode cX8_fault 8 = .ok (.ireturn, 1) := by decide +kernel
theorem dX8_fault_9 : decode cX8_fault 9 = .ok (.iload_n 1, 1) := by decide +kernel
theorem dX8_fault_10 : decode cX8_fault 10 = .ok (.iconst 1, 1) := by decide +kernel
theorem dX8_fault_11 : decode cX8_fault 11 = .ok (.if_icmp .ne 10, 3) := by decide +kernel
theorem dX8_fault_14 : decode cX8_fault 14 = .ok (.aload_n 0, 1) := by decide +kernel
theorem dX8_fault_15 : decode cX8_fault 15 = .ok (.getfield 85, 3) := by decide +kernel
end
section
theorem dX8_fault_18 : decode cX8_fault 18 = .ok (.goto 4, 3) := by decide +kernel
theorem dX8_fault_21 : decode cX8_fault 21 = .ok (.iconst (-1), 1) := by decide +kernel
theorem dX8_fault_22 : decode cX8_fault 22 = .ok (.ireturn, 1) := by decide +kernel
theorem dX8_feed_0 : decode cX8_feed 0 = .ok (.aload_n 0, 1) := by decide +kernel
theorem dX8_feed_1 : decode cX8_feed 1 = .ok (.getfield 13, 3) := by decide +kernel
theorem dX8_feed_4 : decode cX8_feed 4 = .ok (.sipush 2980, 3) := by decide +kernel
theorem dX8_feed_7 : decode cX8_feed 7 = .ok (.if_icmp .le 5, 3) := by decide +kernel
theorem dX8_feed_12 : decode cX8_feed 12 = .ok (.aload_n 0, 1) := by decide +kernel
theorem dX8_feed_13 : decode cX8_feed 13 = .ok (.iload_n 1, 1) := by decide +kernel
theorem dX8_feed_14 : decode cX8_feed 14 = .ok (.invokevirtual 88, 3) := by decide +kernel
theorem dX8_feed_17 : decode cX8_feed 17 = .ok (.aload_n 0, 1) := by decide +kernel
theorem dX8_feed_18 : decode cX8_feed 18 = .ok (.iload_n 2, 1) := by decide +kernel
theorem dX8_feed_19 : decode cX8_feed 19 = .ok (.invokevirtual 88, 3) := by decide +kernel
theorem dX8_feed_22 : decode cX8_feed 22 = .ok (.aload_n 0, 1) := by decide +kernel
theorem dX8_feed_23 : decode cX8_feed 23 = .ok (.iload_n 3, 1) := by decide +kernel
theorem dX8_feed_24 : decode cX8_feed 24 = .ok (.invokevirtual 88, 3) := by decide +kernel
theorem dX8_feed_27 : decode cX8_feed 27 = .ok (.aload_n 0, 1) := by decide +kernel
theorem dX8_feed_28 : decode cX8_feed 28 = .ok (.iload 4, 2) := by decide +kernel
theorem dX8_feed_30 : decode cX8_feed 30 = .ok (.invokevirtual 88, 3) := by decide +kernel
theorem dX8_feed_33 : decode cX8_feed 33 = .ok (.aload_n 0, 1) := by decide +kernel
theorem dX8_feed_34 : decode cX8_feed 34 = .ok (.iload 5, 2) := by decide +kernel
theorem dX8_feed_36 : decode cX8_feed 36 = .ok (.invokevirtual 88, 3) := by decide +kernel
theorem dX8_feed_39 : decode cX8_feed 39 = .ok (.aload_n 0, 1) := by decide +kernel
theorem dX8_feed_40 : decode cX8_feed 40 = .ok (.getfield 13, 3) := by decide +kernel
theorem dX8_feed_43 : decode cX8_feed 43 = .ok (.ireturn, 1) := by decide +kernel
theorem dX8_grammar_0 : decode cX8_grammar 0 = .ok (.aload_n 0, 1) := by decide +kernel
theorem dX8_grammar_1 : decode cX8_grammar 1 = .ok (.getfield 51, 3) := by decide +kernel
theorem dX8_grammar_4 : decode cX8_grammar 4 = .ok (.aload_n 0, 1) := by decide +kernel
theorem dX8_grammar_5 : decode cX8_grammar 5 = .ok (.getfield 24, 3) := by decide +kernel
theorem dX8_grammar_8 : decode cX8_grammar 8 = .ok (.aload_n 0, 1) := by decide +kernel
theorem dX8_grammar_9 : decode cX8_grammar 9 = .ok (.getfield 13, 3) := by decide +kernel
theorem dX8_grammar_12 : decode cX8_grammar 12 = .ok (.invokevirtual 92, 3) := by decide +kernel
theorem dX8_grammar_15 : decode cX8_grammar 15 = .ok (.istore_n 1, 1) := by decide +kernel
theorem dX8_grammar_16 : decode cX8_grammar 16 = .ok (.aload_n 0, 1) := by decide +kernel
theorem dX8_grammar_17 : decode cX8_grammar 17 = .ok (.iconst 0, 1) := by decide +kernel
theorem dX8_grammar_18 : decode cX8_grammar 18 = .ok (.putfield 13, 3) := by decide +kernel
theorem dX8_grammar_21 : decode cX8_grammar 21 = .ok (.aload_n 0, 1) := by decide +kernel
theorem dX8_grammar_22 : decode cX8_grammar 22 = .ok (.iload_n 1, 1) := by decide +kernel
theorem dX8_grammar_23 : decode cX8_grammar 23 = .ok (.invokevirtual 96, 3) := by decide +kernel
theorem dX8_grammar_26 : decode cX8_grammar 26 = .ok (.iload_n 1, 1) := by decide +kernel
theorem dX8_grammar_27 : decode cX8_grammar 27 = .ok (.ifCond .eq 5, 3) := by decide +kernel
theorem dX8_grammar_30 : decode cX8_grammar 30 = .ok (.iconst (-1), 1) := by decide +kernel
theorem dX8_grammar_31 : decode cX8_grammar 31 = .ok (.ireturn, 1) := by decide +kernel
theorem dX8_graph_0 : decode cX8_graph 0 = .ok (.iload_n 1, 1) := by decide +kernel
theorem dX8_graph_1 : decode cX8_graph 1 = .ok (.ifCond .lt 41, 3) := by decide +kernel
theorem dX8_graph_4 : decode cX8_graph 4 = .ok (.iload_n 1, 1) := by decide +kernel
theorem dX8_graph_5 : decode cX8_graph 5 = .ok (.aload_n 0, 1) := by decide +kernel
theorem dX8_graph_6 : decode cX8_graph 6 = .ok (.getfield 20, 3) := by decide +kernel
theorem dX8_graph_9 : decode cX8_graph 9 = .ok (.getfield 114, 3) := by decide +kernel
theorem dX8_graph_12 : decode cX8_graph 12 = .ok (.if_icmp .ge 30, 3) := by decide +kernel
theorem dX8_graph_42 : decode cX8_graph 42 = .ok (.iconst (-1), 1) := by decide +kernel
theorem dX8_graph_43 : decode cX8_graph 43 = .ok (.ireturn, 1) := by decide +kernel
theorem dX8_init_0 : decode cX8_init 0 = .ok (.aload_n 0, 1) := by decide +kernel
theorem dX8_init_1 : decode cX8_init 1 = .ok (.invokespecial 3, 3) := by decide +kernel
theorem dX8_init_4 : decode cX8_init 4 = .ok (.aload_n 0, 1) := by decide +kernel
theorem dX8_init_5 : decode cX8_init 5 = .ok (.sipush 3000, 3) := by decide +kernel
theorem dX8_init_8 : decode cX8_init 8 = .ok (.newarray .byte, 2) := by decide +kernel
theorem dX8_init_10 : decode cX8_init 10 = .ok (.putfield 9, 3) := by decide +kernel
theorem dX8_init_13 : decode cX8_init 13 = .ok (.aload_n 0, 1) := by decide +kernel
theorem dX8_init_14 : decode cX8_init 14 = .ok (.iconst 0, 1) := by decide +kernel
theorem dX8_init_15 : decode cX8_init 15 = .ok (.putfield 13, 3) := by decide +kernel
theorem dX8_init_18 : decode cX8_init 18 = .ok (.aload_n 0, 1) := by decide +kernel
theorem dX8_init_19 : decode cX8_init 19 = .ok (.new 17, 3) := by decide +kernel
theorem dX8_init_22 : decode cX8_init 22 = .ok (.dup, 1) := by decide +kernel
theorem dX8_init_23 : decode cX8_init 23 = .ok (.invokespecial 19, 3) := by decide +kernel
theorem dX8_init_26 : decode cX8_init 26 = .ok (.putfield 20, 3) := by decide +kernel
theorem dX8_init_29 : decode cX8_init 29 = .ok (.aload_n 0, 1) := by decide +kernel
theorem dX8_init_30 : decode cX8_init 30 = .ok (.new 17, 3) := by decide +kernel
theorem dX8_init_33 : decode cX8_init 33 = .ok (.dup, 1) := by decide +kernel
theorem dX8_init_34 : decode cX8_init 34 = .ok (.invokespecial 19, 3) := by decide +kernel
theorem dX8_init_37 : decode cX8_init 37 = .ok (.putfield 24, 3) := by decide +kernel
theorem dX8_init_40 : decode cX8_init 40 = .ok (.aload_n 0, 1) := by decide +kernel
theorem dX8_init_41 : decode cX8_init 41 = .ok (.new 27, 3) := by decide +kernel
theorem dX8_init_44 : decode cX8_init 44 = .ok (.dup, 1) := by decide +kernel
theorem dX8_init_45 : decode cX8_init 45 = .ok (.invokespecial 29, 3) := by decide +kernel
theorem dX8_init_48 : decode cX8_init 48 = .ok (.putfield 30, 3) := by decide +kernel
theorem dX8_init_51 : decode cX8_init 51 = .ok (.aload_n 0, 1) := by decide +kernel
theorem dX8_init_52 : decode cX8_init 52 = .ok (.new 27, 3) := by decide +kernel
theorem dX8_init_55 : decode cX8_init 55 = .ok (.dup, 1) := by decide +kernel
theorem dX8_init_56 : decode cX8_init 56 = .ok (.invokespecial 29, 3) := by decide +kernel
theorem dX8_init_59 : decode cX8_init 59 = .ok (.putfield 34, 3) := by decide +kernel
theorem dX8_init_62 : decode cX8_init 62 = .ok (.aload_n 0, 1) := by decide +kernel
theorem dX8_init_63 : decode cX8_init 63 = .ok (.new 37, 3) := by decide +kernel
theorem dX8_init_66 : decode cX8_init 66 = .ok (.dup, 1) := by decide +kernel
theorem dX8_init_67 : decode cX8_init 67 = .ok (.aload_n 0, 1) := by decide +kernel
theorem dX8_init_68 : decode cX8_init 68 = .ok (.getfield 9, 3) := by decide +kernel
theorem dX8_init_71 : decode cX8_init 71 = .ok (.invokespecial 39, 3) := by decide +kernel
theorem dX8_init_74 : decode cX8_init 74 = .ok (.putfield 42, 3) := by decide +kernel
theorem dX8_init_77 : decode cX8_init 77 = .ok (.aload_n 0, 1) := by decide +kernel
theorem dX8_init_78 : decode cX8_init 78 = .ok (.new 46, 3) := by decide +kernel
theorem dX8_init_81 : decode cX8_init 81 = .ok (.dup, 1) := by decide +kernel
theorem dX8_init_82 : decode cX8_init 82 = .ok (.aload_n 0, 1) := by decide +kernel
theorem dX8_init_83 : decode cX8_init 83 = .ok (.getfield 42, 3) := by decide +kernel
theorem dX8_init_86 : decode cX8_init 86 = .ok (.aload_n 0, 1) := by decide +kernel
theorem dX8_init_87 : decode cX8_init 87 = .ok (.getfield 24, 3) := by decide +kernel
theorem dX8_init_90 : decode cX8_init 90 = .ok (.invokespecial 48, 3) := by decide +kernel
theorem dX8_init_93 : decode cX8_init 93 = .ok (.putfield 51, 3) := by decide +kernel
theorem dX8_init_96 : decode cX8_init 96 = .ok (.aload_n 0, 1) := by decide +kernel
theorem dX8_init_97 : decode cX8_init 97 = .ok (.new 55, 3) := by decide +kernel
theorem dX8_init_100 : decode cX8_init 100 = .ok (.dup, 1) := by decide +kernel
theorem dX8_init_101 : decode cX8_init 101 = .ok (.aload_n 0, 1) := by decide +kernel
theorem dX8_init_102 : decode cX8_init 102 = .ok (.getfield 42, 3) := by decide +kernel
theorem dX8_init_105 : decode cX8_init 105 = .ok (.aload_n 0, 1) := by decide +kernel
theorem dX8_init_106 : decode cX8_init 106 = .ok (.getfield 20, 3) := by decide +kernel
theorem dX8_init_109 : decode cX8_init 109 = .ok (.aload_n 0, 1) := by decide +kernel
theorem dX8_init_110 : decode cX8_init 110 = .ok (.getfield 34, 3) := by decide +kernel
theorem dX8_init_113 : decode cX8_init 113 = .ok (.invokespecial 57, 3) := by decide +kernel
theorem dX8_init_116 : decode cX8_init 116 = .ok (.putfield 60, 3) := by decide +kernel
theorem dX8_init_119 : decode cX8_init 119 = .ok (.aload_n 0, 1) := by decide +kernel
theorem dX8_init_120 : decode cX8_init 120 = .ok (.new 64, 3) := by decide +kernel
theorem dX8_init_123 : decode cX8_init 123 = .ok (.dup, 1) := by decide +kernel
theorem dX8_init_124 : decode cX8_init 124 = .ok (.aload_n 0, 1) := by decide +kernel
theorem dX8_init_125 : decode cX8_init 125 = .ok (.getfield 20, 3) := by decide +kernel
theorem dX8_init_128 : decode cX8_init 128 = .ok (.invokespecial 66, 3) := by decide +kernel
theorem dX8_init_131 : decode cX8_init 131 = .ok (.putfield 69, 3) := by decide +kernel
theorem dX8_init_134 : decode cX8_init 134 = .ok (.aload_n 0, 1) := by decide +kernel
theorem dX8_init_135 : decode cX8_init 135 = .ok (.new 73, 3) := by decide +kernel
theorem dX8_init_138 : decode cX8_init 138 = .ok (.dup, 1) := by decide +kernel
theorem dX8_init_139 : decode cX8_init 139 = .ok (.aload_n 0, 1) := by decide +kernel
theorem dX8_init_140 : decode cX8_init 140 = .ok (.getfield 20, 3) := by decide +kernel
theorem dX8_init_143 : decode cX8_init 143 = .ok (.aload_n 0, 1) := by decide +kernel
theorem dX8_init_144 : decode cX8_init 144 = .ok (.getfield 30, 3) := by decide +kernel
theorem dX8_init_147 : decode cX8_init 147 = .ok (.invokespecial 75, 3) := by decide +kernel
theorem dX8_init_150 : decode cX8_init 150 = .ok (.putfield 78, 3) := by decide +kernel
theorem dX8_init_153 : decode cX8_init 153 = .ok (.aload_n 0, 1) := by decide +kernel
theorem dX8_init_154 : decode cX8_init 154 = .ok (.iconst (-1), 1) := by decide +kernel
theorem dX8_init_155 : decode cX8_init 155 = .ok (.putfield 82, 3) := by decide +kernel
theorem dX8_init_158 : decode cX8_init 158 = .ok (.aload_n 0, 1) := by decide +kernel
theorem dX8_init_159 : decode cX8_init 159 = .ok (.iconst (-1), 1) := by decide +kernel
theorem dX8_init_160 : decode cX8_init 160 = .ok (.putfield 85, 3) := by decide +kernel
theorem dX8_init_163 : decode cX8_init 163 = .ok (.return_, 1) := by decide +kernel
theorem dX8_isItem_0 : decode cX8_isItem 0 = .ok (.aload_n 0, 1) := by decide +kernel
theorem dX8_isItem_1 : decode cX8_isItem 1 = .ok (.iload_n 1, 1) := by decide +kernel
theorem dX8_isItem_2 : decode cX8_isItem 2 = .ok (.invokevirtual 167, 3) := by decide +kernel
theorem dX8_isItem_5 : decode cX8_isItem 5 = .ok (.ifCond .eq 28, 3) := by decide +kernel
theorem dX8_isItem_33 : decode cX8_isItem 33 = .ok (.iconst 0, 1) := by decide +kernel
theorem dX8_isItem_34 : decode cX8_isItem 34 = .ok (.ireturn, 1) := by decide +kernel
theorem dX8_isNode_0 : decode cX8_isNode 0 = .ok (.iload_n 1, 1) := by decide +kernel
theorem dX8_isNode_1 : decode cX8_isNode 1 = .ok (.ifCond .lt 18, 3) := by decide +kernel
theorem dX8_isNode_4 : decode cX8_isNode 4 = .ok (.iload_n 1, 1) := by decide +kernel
theorem dX8_isNode_5 : decode cX8_isNode 5 = .ok (.aload_n 0, 1) := by decide +kernel
theorem dX8_isNode_6 : decode cX8_isNode 6 = .ok (.getfield 30, 3) := by decide +kernel
theorem dX8_isNode_9 : decode cX8_isNode 9 = .ok (.getfield 99, 3) := by decide +kernel
theorem dX8_isNode_12 : decode cX8_isNode 12 = .ok (.if_icmp .ge 7, 3) := by decide +kernel
theorem dX8_isNode_19 : decode cX8_isNode 19 = .ok (.iconst 0, 1) := by decide +kernel
theorem dX8_isNode_20 : decode cX8_isNode 20 = .ok (.ireturn, 1) := by decide +kernel
theorem dX8_keepFault_0 : decode cX8_keepFault 0 = .ok (.aload_n 0, 1) := by decide +kernel
theorem dX8_keepFault_1 : decode cX8_keepFault 1 = .ok (.iload_n 1, 1) := by decide +kernel
theorem dX8_keepFault_2 : decode cX8_keepFault 2 = .ok (.putfield 82, 3) := by decide +kernel
theorem dX8_keepFault_5 : decode cX8_keepFault 5 = .ok (.aload_n 0, 1) := by decide +kernel
theorem dX8_keepFault_6 : decode cX8_keepFault 6 = .ok (.iload_n 1, 1) := by decide +kernel
theorem dX8_keepFault_7 : decode cX8_keepFault 7 = .ok (.ifCond .ne 7, 3) := by decide +kernel
theorem dX8_keepFault_14 : decode cX8_keepFault 14 = .ok (.aload_n 0, 1) := by decide +kernel
theorem dX8_keepFault_15 : decode cX8_keepFault 15 = .ok (.getfield 42, 3) := by decide +kernel
theorem dX8_keepFault_18 : decode cX8_keepFault 18 = .ok (.getfield 209, 3) := by decide +kernel
theorem dX8_keepFault_21 : decode cX8_keepFault 21 = .ok (.putfield 85, 3) := by decide +kernel
theorem dX8_keepFault_24 : decode cX8_keepFault 24 = .ok (.return_, 1) := by decide +kernel
theorem dX8_node_0 : decode cX8_node 0 = .ok (.aload_n 0, 1) := by decide +kernel
theorem dX8_node_1 : decode cX8_node 1 = .ok (.iload_n 1, 1) := by decide +kernel
theorem dX8_node_2 : decode cX8_node 2 = .ok (.invokevirtual 167, 3) := by decide +kernel
theorem dX8_node_5 : decode cX8_node 5 = .ok (.ifCond .ne 5, 3) := by decide +kernel
theorem dX8_node_8 : decode cX8_node 8 = .ok (.iconst (-1), 1) := by decide +kernel
theorem dX8_node_9 : decode cX8_node 9 = .ok (.ireturn, 1) := by decide +kernel
theorem dX8_order_0 : decode cX8_order 0 = .ok (.iload_n 1, 1) := by decide +kernel
theorem dX8_order_1 : decode cX8_order 1 = .ok (.ifCond .lt 14, 3) := by decide +kernel
theorem dX8_order_4 : decode cX8_order 4 = .ok (.iload_n 1, 1) := by decide +kernel
theorem dX8_order_5 : decode cX8_order 5 = .ok (.aload_n 0, 1) := by decide +kernel
theorem dX8_order_6 : decode cX8_order 6 = .ok (.getfield 78, 3) := by decide +kernel
theorem dX8_order_9 : decode cX8_order 9 = .ok (.getfield 203, 3) := by decide +kernel
theorem dX8_order_12 : decode cX8_order 12 = .ok (.if_icmp .lt 7, 3) := by decide +kernel
theorem dX8_order_15 : decode cX8_order 15 = .ok (.iconst (-1), 1) := by decide +kernel
theorem dX8_order_16 : decode cX8_order 16 = .ok (.goto 12, 3) := by decide +kernel
theorem dX8_order_28 : decode cX8_order 28 = .ok (.ireturn, 1) := by decide +kernel
theorem dX8_own_0 : decode cX8_own 0 = .ok (.aload_n 0, 1) := by decide +kernel
theorem dX8_own_1 : decode cX8_own 1 = .ok (.iload_n 1, 1) := by decide +kernel
theorem dX8_own_2 : decode cX8_own 2 = .ok (.invokevirtual 167, 3) := by decide +kernel
theorem dX8_own_5 : decode cX8_own 5 = .ok (.ifCond .ne 5, 3) := by decide +kernel
theorem dX8_own_8 : decode cX8_own 8 = .ok (.iconst 0, 1) := by decide +kernel
theorem dX8_own_9 : decode cX8_own 9 = .ok (.ireturn, 1) := by decide +kernel
theorem dX8_putWord_0 : decode cX8_putWord 0 = .ok (.bipush 24, 2) := by decide +kernel
theorem dX8_putWord_2 : decode cX8_putWord 2 = .ok (.istore_n 2, 1) := by decide +kernel
theorem dX8_putWord_3 : decode cX8_putWord 3 = .ok (.iload_n 2, 1) := by decide +kernel
theorem dX8_putWord_4 : decode cX8_putWord 4 = .ok (.ifCond .lt 42, 3) := by decide +kernel
theorem dX8_putWord_7 : decode cX8_putWord 7 = .ok (.aload_n 0, 1) := by decide +kernel
theorem dX8_putWord_8 : decode cX8_putWord 8 = .ok (.getfield 13, 3) := by decide +kernel
theorem dX8_putWord_11 : decode cX8_putWord 11 = .ok (.sipush 3000, 3) := by decide +kernel
theorem dX8_putWord_14 : decode cX8_putWord 14 = .ok (.if_icmp .ge 32, 3) := by decide +kernel
theorem dX8_putWord_17 : decode cX8_putWord 17 = .ok (.aload_n 0, 1) := by decide +kernel
theorem dX8_putWord_18 : decode cX8_putWord 18 = .ok (.getfield 9, 3) := by decide +kernel
theorem dX8_putWord_21 : decode cX8_putWord 21 = .ok (.aload_n 0, 1) := by decide +kernel
theorem dX8_putWord_22 : decode cX8_putWord 22 = .ok (.getfield 13, 3) := by decide +kernel
theorem dX8_putWord_25 : decode cX8_putWord 25 = .ok (.iload_n 1, 1) := by decide +kernel
theorem dX8_putWord_26 : decode cX8_putWord 26 = .ok (.iload_n 2, 1) := by decide +kernel
theorem dX8_putWord_27 : decode cX8_putWord 27 = .ok (.ishr, 1) := by decide +kernel
theorem dX8_putWord_28 : decode cX8_putWord 28 = .ok (.i2b, 1) := by decide +kernel
theorem dX8_putWord_29 : decode cX8_putWord 29 = .ok (.bastore, 1) := by decide +kernel
theorem dX8_putWord_30 : decode cX8_putWord 30 = .ok (.aload_n 0, 1) := by decide +kernel
theorem dX8_putWord_31 : decode cX8_putWord 31 = .ok (.dup, 1) := by decide +kernel
theorem dX8_putWord_32 : decode cX8_putWord 32 = .ok (.getfield 13, 3) := by decide +kernel
theorem dX8_putWord_35 : decode cX8_putWord 35 = .ok (.iconst 1, 1) := by decide +kernel
theorem dX8_putWord_36 : decode cX8_putWord 36 = .ok (.iadd, 1) := by decide +kernel
theorem dX8_putWord_37 : decode cX8_putWord 37 = .ok (.putfield 13, 3) := by decide +kernel
theorem dX8_putWord_40 : decode cX8_putWord 40 = .ok (.iinc 2 (-8), 3) := by decide +kernel
theorem dX8_putWord_43 : decode cX8_putWord 43 = .ok (.goto (-40), 3) := by decide +kernel
theorem dX8_putWord_46 : decode cX8_putWord 46 = .ok (.return_, 1) := by decide +kernel
theorem dX8_rule_0 : decode cX8_rule 0 = .ok (.iload_n 1, 1) := by decide +kernel
theorem dX8_rule_1 : decode cX8_rule 1 = .ok (.ifCond .lt 14, 3) := by decide +kernel
theorem dX8_rule_4 : decode cX8_rule 4 = .ok (.iload_n 1, 1) := by decide +kernel
theorem dX8_rule_5 : decode cX8_rule 5 = .ok (.aload_n 0, 1) := by decide +kernel
theorem dX8_rule_6 : decode cX8_rule 6 = .ok (.getfield 20, 3) := by decide +kernel
theorem dX8_rule_9 : decode cX8_rule 9 = .ok (.getfield 108, 3) := by decide +kernel
theorem dX8_rule_12 : decode cX8_rule 12 = .ok (.if_icmp .lt 5, 3) := by decide +kernel
theorem dX8_rule_15 : decode cX8_rule 15 = .ok (.iconst (-1), 1) := by decide +kernel
theorem dX8_rule_16 : decode cX8_rule 16 = .ok (.ireturn, 1) := by decide +kernel
theorem dX8_symbol_0 : decode cX8_symbol 0 = .ok (.iload_n 1, 1) := by decide +kernel
theorem dX8_symbol_1 : decode cX8_symbol 1 = .ok (.ifCond .lt 14, 3) := by decide +kernel
theorem dX8_symbol_4 : decode cX8_symbol 4 = .ok (.iload_n 1, 1) := by decide +kernel
theorem dX8_symbol_5 : decode cX8_symbol 5 = .ok (.aload_n 0, 1) := by decide +kernel
theorem dX8_symbol_6 : decode cX8_symbol 6 = .ok (.getfield 20, 3) := by decide +kernel
theorem dX8_symbol_9 : decode cX8_symbol 9 = .ok (.getfield 114, 3) := by decide +kernel
theorem dX8_symbol_12 : decode cX8_symbol 12 = .ok (.if_icmp .lt 5, 3) := by decide +kernel
theorem dX8_symbol_15 : decode cX8_symbol 15 = .ok (.iconst (-1), 1) := by decide +kernel
theorem dX8_symbol_16 : decode cX8_symbol 16 = .ok (.ireturn, 1) := by decide +kernel
theorem dX8_test_0 : decode cX8_test 0 = .ok (.aload_n 0, 1) := by decide +kernel
theorem dX8_test_1 : decode cX8_test 1 = .ok (.getfield 20, 3) := by decide +kernel
theorem dX8_test_4 : decode cX8_test 4 = .ok (.getfield 108, 3) := by decide +kernel
theorem dX8_test_7 : decode cX8_test 7 = .ok (.ifCond .eq 12, 3) := by decide +kernel
theorem dX8_test_19 : decode cX8_test 19 = .ok (.iconst (-1), 1) := by decide +kernel
theorem dX8_test_20 : decode cX8_test 20 = .ok (.ireturn, 1) := by decide +kernel
theorem dX8_tree_0 : decode cX8_tree 0 = .ok (.aload_n 0, 1) := by decide +kernel
theorem dX8_tree_1 : decode cX8_tree 1 = .ok (.getfield 20, 3) := by decide +kernel
theorem dX8_tree_4 : decode cX8_tree 4 = .ok (.getfield 108, 3) := by decide +kernel
theorem dX8_tree_7 : decode cX8_tree 7 = .ok (.ifCond .ne 6, 3) := by decide +kernel
theorem dX8_tree_10 : decode cX8_tree 10 = .ok (.bipush (-2), 2) := by decide +kernel
theorem dX8_tree_12 : decode cX8_tree 12 = .ok (.ireturn, 1) := by decide +kernel
theorem dX8_value_0 : decode cX8_value 0 = .ok (.aload_n 0, 1) := by decide +kernel
theorem dX8_value_1 : decode cX8_value 1 = .ok (.iload_n 1, 1) := by decide +kernel
theorem dX8_value_2 : decode cX8_value 2 = .ok (.iload_n 2, 1) := by decide +kernel
theorem dX8_value_3 : decode cX8_value 3 = .ok (.invokevirtual 190, 3) := by decide +kernel
theorem dX8_value_6 : decode cX8_value 6 = .ok (.ifCond .eq 12, 3) := by decide +kernel
theorem dX8_value_18 : decode cX8_value 18 = .ok (.iconst (-1), 1) := by decide +kernel
theorem dX8_value_19 : decode cX8_value 19 = .ok (.ireturn, 1) := by decide +kernel
theorem dX9_about_0 : decode cX9_about 0 = .ok (.iload_n 1, 1) := by decide +kernel
theorem dX9_about_1 : decode cX9_about 1 = .ok (.tableswitch 60 0 4 #[35, 40, 45, 50, 55], 35) := by decide +kernel
theorem dX9_about_36 : decode cX9_about 36 = .ok (.aload_n 0, 1) := by decide +kernel
theorem dX9_about_37 : decode cX9_about 37 = .ok (.getfield 173, 3) := by decide +kernel
theorem dX9_about_40 : decode cX9_about 40 = .ok (.ireturn, 1) := by decide +kernel
theorem dX9_about_41 : decode cX9_about 41 = .ok (.aload_n 0, 1) := by decide +kernel
theorem dX9_about_42 : decode cX9_about 42 = .ok (.getfield 248, 3) := by decide +kernel
theorem dX9_about_45 : decode cX9_about 45 = .ok (.ireturn, 1) := by decide +kernel
theorem dX9_about_46 : decode cX9_about 46 = .ok (.aload_n 0, 1) := by decide +kernel
theorem dX9_about_47 : decode cX9_about 47 = .ok (.getfield 272, 3) := by decide +kernel
theorem dX9_about_50 : decode cX9_about 50 = .ok (.ireturn, 1) := by decide +kernel
theorem dX9_about_51 : decode cX9_about 51 = .ok (.aload_n 0, 1) := by decide +kernel
theorem dX9_about_52 : decode cX9_about 52 = .ok (.getfield 396, 3) := by decide +kernel
theorem dX9_about_55 : decode cX9_about 55 = .ok (.ireturn, 1) := by decide +kernel
theorem dX9_about_56 : decode cX9_about 56 = .ok (.aload_n 0, 1) := by decide +kernel
theorem dX9_about_57 : decode cX9_about 57 = .ok (.getfield 399, 3) := by decide +kernel
theorem dX9_about_60 : decode cX9_about 60 = .ok (.ireturn, 1) := by decide +kernel
theorem dX9_about_61 : decode cX9_about 61 = .ok (.iconst (-1), 1) := by decide +kernel
theorem dX9_about_62 : decode cX9_about 62 = .ok (.ireturn, 1) := by decide +kernel
theorem dX9_blanks_0 : decode cX9_blanks 0 = .ok (.aload_n 0, 1) := by decide +kernel
theorem dX9_blanks_1 : decode cX9_blanks 1 = .ok (.getfield 197, 3) := by decide +kernel
theorem dX9_blanks_4 : decode cX9_blanks 4 = .ok (.aload_n 0, 1) := by decide +kernel
theorem dX9_blanks_5 : decode cX9_blanks 5 = .ok (.getfield 200, 3) := by decide +kernel
theorem dX9_blanks_8 : decode cX9_blanks 8 = .ok (.if_icmp .ge 44, 3) := by decide +kernel
theorem dX9_blanks_52 : decode cX9_blanks 52 = .ok (.return_, 1) := by decide +kernel
theorem dX9_demand_0 : decode cX9_demand 0 = .ok (.aload_n 0, 1) := by decide +kernel
theorem dX9_demand_1 : decode cX9_demand 1 = .ok (.iload_n 1, 1) := by decide +kernel
theorem dX9_demand_2 : decode cX9_demand 2 = .ok (.iload_n 2, 1) := by decide +kernel
theorem dX9_demand_3 : decode cX9_demand 3 = .ok (.invokevirtual 473, 3) := by decide +kernel
theorem dX9_demand_6 : decode cX9_demand 6 = .ok (.ifCond .ne 5, 3) := by decide +kernel
theorem dX9_demand_9 : decode cX9_demand 9 = .ok (.iconst (-1), 1) := by decide +kernel
theorem dX9_demand_10 : decode cX9_demand 10 = .ok (.ireturn, 1) := by decide +kernel
theorem dX9_end_0 : decode cX9_end 0 = .ok (.iload_n 1, 1) := by decide +kernel
theorem dX9_end_1 : decode cX9_end 1 = .ok (.iconst 0, 1) := by decide +kernel
theorem dX9_end_2 : decode cX9_end 2 = .ok (.aload_n 0, 1) := by decide +kernel
theorem dX9_end_3 : decode cX9_end 3 = .ok (.getfield 173, 3) := by decide +kernel
theorem dX9_end_6 : decode cX9_end 6 = .ok (.invokestatic 180, 3) := by decide +kernel
theorem dX9_end_9 : decode cX9_end 9 = .ok (.ifCond .ne 5, 3) := by decide +kernel
theorem dX9_end_12 : decode cX9_end 12 = .ok (.iconst (-1), 1) := by decide +kernel
theorem dX9_end_13 : decode cX9_end 13 = .ok (.ireturn, 1) := by decide +kernel
theorem dX9_end_14 : decode cX9_end 14 = .ok (.aload_n 0, 1) := by decide +kernel
theorem dX9_end_15 : decode cX9_end 15 = .ok (.iload_n 1, 1) := by decide +kernel
theorem dX9_end_16 : decode cX9_end 16 = .ok (.putfield 173, 3) := by decide +kernel
theorem dX9_end_19 : decode cX9_end 19 = .ok (.iload_n 1, 1) := by decide +kernel
theorem dX9_end_20 : decode cX9_end 20 = .ok (.ireturn, 1) := by decide +kernel
theorem dX9_fails_0 : decode cX9_fails 0 = .ok (.aload_n 0, 1) := by decide +kernel
theorem dX9_fails_1 : decode cX9_fails 1 = .ok (.getfield 184, 3) := by decide +kernel
theorem dX9_fails_4 : decode cX9_fails 4 = .ok (.ifCond .ne 13, 3) := by decide +kernel
theorem dX9_fails_7 : decode cX9_fails 7 = .ok (.aload_n 0, 1) := by decide +kernel
theorem dX9_fails_8 : decode cX9_fails 8 = .ok (.iload_n 1, 1) := by decide +kernel
theorem dX9_fails_9 : decode cX9_fails 9 = .ok (.putfield 184, 3) := by decide +kernel
theorem dX9_fails_12 : decode cX9_fails 12 = .ok (.aload_n 0, 1) := by decide +kernel
theorem dX9_fails_13 : decode cX9_fails 13 = .ok (.iload_n 2, 1) := by decide +kernel
theorem dX9_fails_14 : decode cX9_fails 14 = .ok (.putfield 187, 3) := by decide +kernel
theorem dX9_fails_17 : decode cX9_fails 17 = .ok (.return_, 1) := by decide +kernel
theorem dX9_fault_0 : decode cX9_fault 0 = .ok (.iload_n 1, 1) := by decide +kernel
theorem dX9_fault_1 : decode cX9_fault 1 = .ok (.ifCond .ne 10, 3) := by decide +kernel
theorem dX9_fault_4 : decode cX9_fault 4 = .ok (.aload_n 0, 1) := by decide +kernel
theorem dX9_fault_5 : decode cX9_fault 5 = .ok (.getfield 19, 3) := by decide +kernel
theorem dX9_fault_8 : decode cX9_fault 8 = .ok (.goto 16, 3) := by decide +kernel
theorem dX9_fault_11 : decode cX9_fault 11 = .ok (.iload_n 1, 1) := by decide +kernel
theorem dX9_fault_12 : decode cX9_fault 12 = .ok (.iconst 1, 1) := by decide +kernel
theorem dX9_fault_13 : decode cX9_fault 13 = .ok (.if_icmp .ne 10, 3) := by decide +kernel
theorem dX9_fault_16 : decode cX9_fault 16 = .ok (.aload_n 0, 1) := by decide +kernel
theorem dX9_fault_17 : decode cX9_fault 17 = .ok (.getfield 23, 3) := by decide +kernel
theorem dX9_fault_20 : decode cX9_fault 20 = .ok (.goto 4, 3) := by decide +kernel
theorem dX9_fault_23 : decode cX9_fault 23 = .ok (.iconst (-1), 1) := by decide +kernel
theorem dX9_fault_24 : decode cX9_fault 24 = .ok (.ireturn, 1) := by decide +kernel
theorem dX9_feed_0 : decode cX9_feed 0 = .ok (.aload_n 0, 1) := by decide +kernel
theorem dX9_feed_1 : decode cX9_feed 1 = .ok (.getfield 173, 3) := by decide +kernel
theorem dX9_feed_4 : decode cX9_feed 4 = .ok (.bipush 20, 2) := by decide +kernel
theorem dX9_feed_6 : decode cX9_feed 6 = .ok (.iadd, 1) := by decide +kernel
theorem dX9_feed_7 : decode cX9_feed 7 = .ok (.sipush 3000, 3) := by decide +kernel
theorem dX9_feed_10 : decode cX9_feed 10 = .ok (.if_icmp .le 5, 3) := by decide +kernel
theorem dX9_feed_15 : decode cX9_feed 15 = .ok (.aload_n 0, 1) := by decide +kernel
theorem dX9_feed_16 : decode cX9_feed 16 = .ok (.iload_n 1, 1) := by decide +kernel
theorem dX9_feed_17 : decode cX9_feed 17 = .ok (.invokevirtual 176, 3) := by decide +kernel
theorem dX9_feed_20 : decode cX9_feed 20 = .ok (.aload_n 0, 1) := by decide +kernel
theorem dX9_feed_21 : decode cX9_feed 21 = .ok (.iload_n 2, 1) := by decide +kernel
theorem dX9_feed_22 : decode cX9_feed 22 = .ok (.invokevirtual 176, 3) := by decide +kernel
theorem dX9_feed_25 : decode cX9_feed 25 = .ok (.aload_n 0, 1) := by decide +kernel
theorem dX9_feed_26 : decode cX9_feed 26 = .ok (.iload_n 3, 1) := by decide +kernel
theorem dX9_feed_27 : decode cX9_feed 27 = .ok (.invokevirtual 176, 3) := by decide +kernel
theorem dX9_feed_30 : decode cX9_feed 30 = .ok (.aload_n 0, 1) := by decide +kernel
theorem dX9_feed_31 : decode cX9_feed 31 = .ok (.iload 4, 2) := by decide +kernel
theorem dX9_feed_33 : decode cX9_feed 33 = .ok (.invokevirtual 176, 3) := by decide +kernel
theorem dX9_feed_36 : decode cX9_feed 36 = .ok (.aload_n 0, 1) := by decide +kernel
theorem dX9_feed_37 : decode cX9_feed 37 = .ok (.iload 5, 2) := by decide +kernel
theorem dX9_feed_39 : decode cX9_feed 39 = .ok (.invokevirtual 176, 3) := by decide +kernel
theorem dX9_feed_42 : decode cX9_feed 42 = .ok (.aload_n 0, 1) := by decide +kernel
theorem dX9_feed_43 : decode cX9_feed 43 = .ok (.getfield 173, 3) := by decide +kernel
theorem dX9_feed_46 : decode cX9_feed 46 = .ok (.ireturn, 1) := by decide +kernel
theorem dX9_grammar_0 : decode cX9_grammar 0 = .ok (.aload_n 0, 1) := by decide +kernel
theorem dX9_grammar_1 : decode cX9_grammar 1 = .ok (.invokevirtual 383, 3) := by decide +kernel
theorem dX9_grammar_4 : decode cX9_grammar 4 = .ok (.aload_n 0, 1) := by decide +kernel
theorem dX9_grammar_5 : decode cX9_grammar 5 = .ok (.invokevirtual 386, 3) := by decide +kernel
theorem dX9_grammar_8 : decode cX9_grammar 8 = .ok (.aload_n 0, 1) := by decide +kernel
theorem dX9_grammar_9 : decode cX9_grammar 9 = .ok (.aload_n 0, 1) := by decide +kernel
theorem dX9_grammar_10 : decode cX9_grammar 10 = .ok (.getfield 184, 3) := by decide +kernel
theorem dX9_grammar_13 : decode cX9_grammar 13 = .ok (.putfield 19, 3) := by decide +kernel
theorem dX9_grammar_16 : decode cX9_grammar 16 = .ok (.aload_n 0, 1) := by decide +kernel
theorem dX9_grammar_17 : decode cX9_grammar 17 = .ok (.aload_n 0, 1) := by decide +kernel
theorem dX9_grammar_18 : decode cX9_grammar 18 = .ok (.getfield 187, 3) := by decide +kernel
theorem dX9_grammar_21 : decode cX9_grammar 21 = .ok (.putfield 23, 3) := by decide +kernel
theorem dX9_grammar_24 : decode cX9_grammar 24 = .ok (.aload_n 0, 1) := by decide +kernel
theorem dX9_grammar_25 : decode cX9_grammar 25 = .ok (.getfield 184, 3) := by decide +kernel
theorem dX9_grammar_28 : decode cX9_grammar 28 = .ok (.ifCond .le 73, 3) := by decide +kernel
theorem dX9_grammar_31 : decode cX9_grammar 31 = .ok (.aload_n 0, 1) := by decide +kernel
theorem dX9_grammar_32 : decode cX9_grammar 32 = .ok (.aload_n 0, 1) := by decide +kernel
theorem dX9_grammar_33 : decode cX9_grammar 33 = .ok (.getfield 389, 3) := by decide +kernel
theorem dX9_grammar_36 : decode cX9_grammar 36 = .ok (.ifCond .eq 10, 3) := by decide +kernel
theorem dX9_grammar_46 : decode cX9_grammar 46 = .ok (.iconst 0, 1) := by decide +kernel
theorem dX9_grammar_47 : decode cX9_grammar 47 = .ok (.putfield 200, 3) := by decide +kernel
theorem dX9_grammar_50 : decode cX9_grammar 50 = .ok (.iconst 0, 1) := by decide +kernel
theorem dX9_grammar_51 : decode cX9_grammar 51 = .ok (.istore_n 1, 1) := by decide +kernel
theorem dX9_grammar_52 : decode cX9_grammar 52 = .ok (.iload_n 1, 1) := by decide +kernel
theorem dX9_grammar_53 : decode cX9_grammar 53 = .ok (.aload_n 0, 1) := by decide +kernel
theorem dX9_grammar_54 : decode cX9_grammar 54 = .ok (.getfield 200, 3) := by decide +kernel
theorem dX9_grammar_57 : decode cX9_grammar 57 = .ok (.if_icmp .ge 21, 3) := by decide +kernel
theorem dX9_grammar_78 : decode cX9_grammar 78 = .ok (.aload_n 0, 1) := by decide +kernel
theorem dX9_grammar_79 : decode cX9_grammar 79 = .ok (.iconst 0, 1) := by decide +kernel
theorem dX9_grammar_80 : decode cX9_grammar 80 = .ok (.putfield 248, 3) := by decide +kernel
theorem dX9_grammar_83 : decode cX9_grammar 83 = .ok (.aload_n 0, 1) := by decide +kernel
theorem dX9_grammar_84 : decode cX9_grammar 84 = .ok (.iconst 0, 1) := by decide +kernel
theorem dX9_grammar_85 : decode cX9_grammar 85 = .ok (.putfield 272, 3) := by decide +kernel
theorem dX9_grammar_88 : decode cX9_grammar 88 = .ok (.aload_n 0, 1) := by decide +kernel
theorem dX9_grammar_89 : decode cX9_grammar 89 = .ok (.getfield 389, 3) := by decide +kernel
theorem dX9_grammar_92 : decode cX9_grammar 92 = .ok (.ifCond .eq 7, 3) := by decide +kernel
theorem dX9_grammar_99 : decode cX9_grammar 99 = .ok (.iconst (-1), 1) := by decide +kernel
theorem dX9_grammar_100 : decode cX9_grammar 100 = .ok (.ireturn, 1) := by decide +kernel
theorem dX9_graph_0 : decode cX9_graph 0 = .ok (.iload_n 1, 1) := by decide +kernel
theorem dX9_graph_1 : decode cX9_graph 1 = .ok (.iconst 0, 1) := by decide +kernel
theorem dX9_graph_2 : decode cX9_graph 2 = .ok (.aload_n 0, 1) := by decide +kernel
theorem dX9_graph_3 : decode cX9_graph 3 = .ok (.getfield 248, 3) := by decide +kernel
theorem dX9_graph_6 : decode cX9_graph 6 = .ok (.iconst 1, 1) := by decide +kernel
theorem dX9_graph_7 : decode cX9_graph 7 = .ok (.isub, 1) := by decide +kernel
theorem dX9_graph_8 : decode cX9_graph 8 = .ok (.invokestatic 180, 3) := by decide +kernel
theorem dX9_graph_11 : decode cX9_graph 11 = .ok (.ifCond .eq 23, 3) := by decide +kernel
theorem dX9_graph_34 : decode cX9_graph 34 = .ok (.iconst (-1), 1) := by decide +kernel
theorem dX9_graph_35 : decode cX9_graph 35 = .ok (.ireturn, 1) := by decide +kernel
theorem dX9_in_0 : decode cX9_in 0 = .ok (.iload_n 0, 1) := by decide +kernel
theorem dX9_in_1 : decode cX9_in 1 = .ok (.iload_n 1, 1) := by decide +kernel
theorem dX9_in_2 : decode cX9_in 2 = .ok (.if_icmp .lt 12, 3) := by decide +kernel
theorem dX9_in_5 : decode cX9_in 5 = .ok (.iload_n 0, 1) := by decide +kernel
theorem dX9_in_6 : decode cX9_in 6 = .ok (.iload_n 2, 1) := by decide +kernel
theorem dX9_in_7 : decode cX9_in 7 = .ok (.if_icmp .gt 7, 3) := by decide +kernel
theorem dX9_in_10 : decode cX9_in 10 = .ok (.iconst 1, 1) := by decide +kernel
theorem dX9_in_11 : decode cX9_in 11 = .ok (.goto 4, 3) := by decide +kernel
theorem dX9_in_14 : decode cX9_in 14 = .ok (.iconst 0, 1) := by decide +kernel
theorem dX9_in_15 : decode cX9_in 15 = .ok (.ireturn, 1) := by decide +kernel
theorem dX9_init_0 : decode cX9_init 0 = .ok (.aload_n 0, 1) := by decide +kernel
theorem dX9_init_1 : decode cX9_init 1 = .ok (.invokespecial 1, 3) := by decide +kernel
theorem dX9_init_4 : decode cX9_init 4 = .ok (.aload_n 0, 1) := by decide +kernel
theorem dX9_init_5 : decode cX9_init 5 = .ok (.sipush 3000, 3) := by decide +kernel
theorem dX9_init_8 : decode cX9_init 8 = .ok (.newarray .byte, 2) := by decide +kernel
theorem dX9_init_10 : decode cX9_init 10 = .ok (.putfield 7, 3) := by decide +kernel
theorem dX9_init_13 : decode cX9_init 13 = .ok (.aload_n 0, 1) := by decide +kernel
theorem dX9_init_14 : decode cX9_init 14 = .ok (.sipush 3000, 3) := by decide +kernel
theorem dX9_init_17 : decode cX9_init 17 = .ok (.newarray .byte, 2) := by decide +kernel
theorem dX9_init_19 : decode cX9_init 19 = .ok (.putfield 13, 3) := by decide +kernel
theorem dX9_init_22 : decode cX9_init 22 = .ok (.aload_n 0, 1) := by decide +kernel
theorem dX9_init_23 : decode cX9_init 23 = .ok (.sipush 3000, 3) := by decide +kernel
theorem dX9_init_26 : decode cX9_init 26 = .ok (.newarray .byte, 2) := by decide +kernel
theorem dX9_init_28 : decode cX9_init 28 = .ok (.putfield 16, 3) := by decide +kernel
theorem dX9_init_31 : decode cX9_init 31 = .ok (.aload_n 0, 1) := by decide +kernel
theorem dX9_init_32 : decode cX9_init 32 = .ok (.iconst (-1), 1) := by decide +kernel
theorem dX9_init_33 : decode cX9_init 33 = .ok (.putfield 19, 3) := by decide +kernel
theorem dX9_init_36 : decode cX9_init 36 = .ok (.aload_n 0, 1) := by decide +kernel
theorem dX9_init_37 : decode cX9_init 37 = .ok (.iconst (-1), 1) := by decide +kernel
theorem dX9_init_38 : decode cX9_init 38 = .ok (.putfield 23, 3) := by decide +kernel
theorem dX9_init_41 : decode cX9_init 41 = .ok (.aload_n 0, 1) := by decide +kernel
theorem dX9_init_42 : decode cX9_init 42 = .ok (.bipush 12, 2) := by decide +kernel
theorem dX9_init_44 : decode cX9_init 44 = .ok (.newarray .long, 2) := by decide +kernel
theorem dX9_init_46 : decode cX9_init 46 = .ok (.putfield 26, 3) := by decide +kernel
theorem dX9_init_49 : decode cX9_init 49 = .ok (.aload_n 0, 1) := by decide +kernel
theorem dX9_init_50 : decode cX9_init 50 = .ok (.bipush 12, 2) := by decide +kernel
theorem dX9_init_52 : decode cX9_init 52 = .ok (.newarray .int, 2) := by decide +kernel
theorem dX9_init_54 : decode cX9_init 54 = .ok (.putfield 30, 3) := by decide +kernel
theorem dX9_init_57 : decode cX9_init 57 = .ok (.aload_n 0, 1) := by decide +kernel
theorem dX9_init_58 : decode cX9_init 58 = .ok (.bipush 72, 2) := by decide +kernel
theorem dX9_init_60 : decode cX9_init 60 = .ok (.newarray .long, 2) := by decide +kernel
theorem dX9_init_62 : decode cX9_init 62 = .ok (.putfield 34, 3) := by decide +kernel
theorem dX9_init_65 : decode cX9_init 65 = .ok (.aload_n 0, 1) := by decide +kernel
theorem dX9_init_66 : decode cX9_init 66 = .ok (.bipush 72, 2) := by decide +kernel
theorem dX9_init_68 : decode cX9_init 68 = .ok (.newarray .boolean, 2) := by decide +kernel
theorem dX9_init_70 : decode cX9_init 70 = .ok (.putfield 37, 3) := by decide +kernel
theorem dX9_init_73 : decode cX9_init 73 = .ok (.aload_n 0, 1) := by decide +kernel
theorem dX9_init_74 : decode cX9_init 74 = .ok (.bipush 30, 2) := by decide +kernel
theorem dX9_init_76 : decode cX9_init 76 = .ok (.newarray .long, 2) := by decide +kernel
theorem dX9_init_78 : decode cX9_init 78 = .ok (.putfield 41, 3) := by decide +kernel
theorem dX9_init_81 : decode cX9_init 81 = .ok (.aload_n 0, 1) := by decide +kernel
theorem dX9_init_82 : decode cX9_init 82 = .ok (.bipush 30, 2) := by decide +kernel
theorem dX9_init_84 : decode cX9_init 84 = .ok (.newarray .int, 2) := by decide +kernel
theorem dX9_init_86 : decode cX9_init 86 = .ok (.putfield 44, 3) := by decide +kernel
theorem dX9_init_89 : decode cX9_init 89 = .ok (.aload_n 0, 1) := by decide +kernel
theorem dX9_init_90 : decode cX9_init 90 = .ok (.bipush 120, 2) := by decide +kernel
theorem dX9_init_92 : decode cX9_init 92 = .ok (.newarray .int, 2) := by decide +kernel
theorem dX9_init_94 : decode cX9_init 94 = .ok (.putfield 47, 3) := by decide +kernel
theorem dX9_init_97 : decode cX9_init 97 = .ok (.aload_n 0, 1) := by decide +kernel
theorem dX9_init_98 : decode cX9_init 98 = .ok (.bipush 30, 2) := by decide +kernel
theorem dX9_init_100 : decode cX9_init 100 = .ok (.newarray .int, 2) := by decide +kernel
theorem dX9_init_102 : decode cX9_init 102 = .ok (.putfield 50, 3) := by decide +kernel
theorem dX9_init_105 : decode cX9_init 105 = .ok (.aload_n 0, 1) := by decide +kernel
theorem dX9_init_106 : decode cX9_init 106 = .ok (.sipush 720, 3) := by decide +kernel
theorem dX9_init_109 : decode cX9_init 109 = .ok (.newarray .int, 2) := by decide +kernel
theorem dX9_init_111 : decode cX9_init 111 = .ok (.putfield 53, 3) := by decide +kernel
theorem dX9_init_114 : decode cX9_init 114 = .ok (.aload_n 0, 1) := by decide +kernel
theorem dX9_init_115 : decode cX9_init 115 = .ok (.sipush 720, 3) := by decide +kernel
theorem dX9_init_118 : decode cX9_init 118 = .ok (.newarray .int, 2) := by decide +kernel
theorem dX9_init_120 : decode cX9_init 120 = .ok (.putfield 56, 3) := by decide +kernel
theorem dX9_init_123 : decode cX9_init 123 = .ok (.aload_n 0, 1) := by decide +kernel
theorem dX9_init_124 : decode cX9_init 124 = .ok (.sipush 720, 3) := by decide +kernel
theorem dX9_init_127 : decode cX9_init 127 = .ok (.newarray .int, 2) := by decide +kernel
theorem dX9_init_129 : decode cX9_init 129 = .ok (.putfield 59, 3) := by decide +kernel
theorem dX9_init_132 : decode cX9_init 132 = .ok (.aload_n 0, 1) := by decide +kernel
theorem dX9_init_133 : decode cX9_init 133 = .ok (.sipush 4000, 3) := by decide +kernel
theorem dX9_init_136 : decode cX9_init 136 = .ok (.newarray .int, 2) := by decide +kernel
theorem dX9_init_138 : decode cX9_init 138 = .ok (.putfield 62, 3) := by decide +kernel
theorem dX9_init_141 : decode cX9_init 141 = .ok (.aload_n 0, 1) := by decide +kernel
theorem dX9_init_142 : decode cX9_init 142 = .ok (.sipush 4000, 3) := by decide +kernel
theorem dX9_init_145 : decode cX9_init 145 = .ok (.newarray .int, 2) := by decide +kernel
theorem dX9_init_147 : decode cX9_init 147 = .ok (.putfield 65, 3) := by decide +kernel
theorem dX9_init_150 : decode cX9_init 150 = .ok (.aload_n 0, 1) := by decide +kernel
theorem dX9_init_151 : decode cX9_init 151 = .ok (.sipush 3000, 3) := by decide +kernel
theorem dX9_init_154 : decode cX9_init 154 = .ok (.newarray .int, 2) := by decide +kernel
theorem dX9_init_156 : decode cX9_init 156 = .ok (.putfield 68, 3) := by decide +kernel
theorem dX9_init_159 : decode cX9_init 159 = .ok (.aload_n 0, 1) := by decide +kernel
theorem dX9_init_160 : decode cX9_init 160 = .ok (.sipush 3000, 3) := by decide +kernel
theorem dX9_init_163 : decode cX9_init 163 = .ok (.newarray .int, 2) := by decide +kernel
theorem dX9_init_165 : decode cX9_init 165 = .ok (.putfield 71, 3) := by decide +kernel
theorem dX9_init_168 : decode cX9_init 168 = .ok (.aload_n 0, 1) := by decide +kernel
theorem dX9_init_169 : decode cX9_init 169 = .ok (.bipush 120, 2) := by decide +kernel
theorem dX9_init_171 : decode cX9_init 171 = .ok (.newarray .int, 2) := by decide +kernel
theorem dX9_init_173 : decode cX9_init 173 = .ok (.putfield 74, 3) := by decide +kernel
theorem dX9_init_176 : decode cX9_init 176 = .ok (.aload_n 0, 1) := by decide +kernel
theorem dX9_init_177 : decode cX9_init 177 = .ok (.bipush 120, 2) := by decide +kernel
theorem dX9_init_179 : decode cX9_init 179 = .ok (.newarray .int, 2) := by decide +kernel
theorem dX9_init_181 : decode cX9_init 181 = .ok (.putfield 77, 3) := by decide +kernel
theorem dX9_init_184 : decode cX9_init 184 = .ok (.aload_n 0, 1) := by decide +kernel
theorem dX9_init_185 : decode cX9_init 185 = .ok (.sipush 200, 3) := by decide +kernel
theorem dX9_init_188 : decode cX9_init 188 = .ok (.newarray .int, 2) := by decide +kernel
theorem dX9_init_190 : decode cX9_init 190 = .ok (.putfield 80, 3) := by decide +kernel
theorem dX9_init_193 : decode cX9_init 193 = .ok (.aload_n 0, 1) := by decide +kernel
theorem dX9_init_194 : decode cX9_init 194 = .ok (.sipush 200, 3) := by decide +kernel
theorem dX9_init_197 : decode cX9_init 197 = .ok (.newarray .int, 2) := by decide +kernel
theorem dX9_init_199 : decode cX9_init 199 = .ok (.putfield 83, 3) := by decide +kernel
theorem dX9_init_202 : decode cX9_init 202 = .ok (.aload_n 0, 1) := by decide +kernel
theorem dX9_init_203 : decode cX9_init 203 = .ok (.sipush 200, 3) := by decide +kernel
theorem dX9_init_206 : decode cX9_init 206 = .ok (.newarray .int, 2) := by decide +kernel
theorem dX9_init_208 : decode cX9_init 208 = .ok (.putfield 86, 3) := by decide +kernel
theorem dX9_init_211 : decode cX9_init 211 = .ok (.aload_n 0, 1) := by decide +kernel
theorem dX9_init_212 : decode cX9_init 212 = .ok (.sipush 200, 3) := by decide +kernel
theorem dX9_init_215 : decode cX9_init 215 = .ok (.newarray .int, 2) := by decide +kernel
theorem dX9_init_217 : decode cX9_init 217 = .ok (.putfield 89, 3) := by decide +kernel
theorem dX9_init_220 : decode cX9_init 220 = .ok (.aload_n 0, 1) := by decide +kernel
theorem dX9_init_221 : decode cX9_init 221 = .ok (.sipush 800, 3) := by decide +kernel
theorem dX9_init_224 : decode cX9_init 224 = .ok (.newarray .int, 2) := by decide +kernel
theorem dX9_init_226 : decode cX9_init 226 = .ok (.putfield 92, 3) := by decide +kernel
theorem dX9_init_229 : decode cX9_init 229 = .ok (.aload_n 0, 1) := by decide +kernel
theorem dX9_init_230 : decode cX9_init 230 = .ok (.sipush 200, 3) := by decide +kernel
theorem dX9_init_233 : decode cX9_init 233 = .ok (.newarray .int, 2) := by decide +kernel
theorem dX9_init_235 : decode cX9_init 235 = .ok (.putfield 95, 3) := by decide +kernel
theorem dX9_init_238 : decode cX9_init 238 = .ok (.aload_n 0, 1) := by decide +kernel
theorem dX9_init_239 : decode cX9_init 239 = .ok (.sipush 200, 3) := by decide +kernel
theorem dX9_init_242 : decode cX9_init 242 = .ok (.newarray .int, 2) := by decide +kernel
theorem dX9_init_244 : decode cX9_init 244 = .ok (.putfield 98, 3) := by decide +kernel
theorem dX9_init_247 : decode cX9_init 247 = .ok (.aload_n 0, 1) := by decide +kernel
theorem dX9_init_248 : decode cX9_init 248 = .ok (.sipush 200, 3) := by decide +kernel
theorem dX9_init_251 : decode cX9_init 251 = .ok (.newarray .int, 2) := by decide +kernel
theorem dX9_init_253 : decode cX9_init 253 = .ok (.putfield 101, 3) := by decide +kernel
theorem dX9_init_256 : decode cX9_init 256 = .ok (.aload_n 0, 1) := by decide +kernel
theorem dX9_init_257 : decode cX9_init 257 = .ok (.sipush 200, 3) := by decide +kernel
theorem dX9_init_260 : decode cX9_init 260 = .ok (.newarray .int, 2) := by decide +kernel
theorem dX9_init_262 : decode cX9_init 262 = .ok (.putfield 104, 3) := by decide +kernel
theorem dX9_init_265 : decode cX9_init 265 = .ok (.aload_n 0, 1) := by decide +kernel
theorem dX9_init_266 : decode cX9_init 266 = .ok (.sipush 200, 3) := by decide +kernel
theorem dX9_init_269 : decode cX9_init 269 = .ok (.newarray .int, 2) := by decide +kernel
theorem dX9_init_271 : decode cX9_init 271 = .ok (.putfield 107, 3) := by decide +kernel
theorem dX9_init_274 : decode cX9_init 274 = .ok (.aload_n 0, 1) := by decide +kernel
theorem dX9_init_275 : decode cX9_init 275 = .ok (.sipush 800, 3) := by decide +kernel
theorem dX9_init_278 : decode cX9_init 278 = .ok (.newarray .int, 2) := by decide +kernel
theorem dX9_init_280 : decode cX9_init 280 = .ok (.putfield 110, 3) := by decide +kernel
theorem dX9_init_283 : decode cX9_init 283 = .ok (.aload_n 0, 1) := by decide +kernel
theorem dX9_init_284 : decode cX9_init 284 = .ok (.bipush 12, 2) := by decide +kernel
theorem dX9_init_286 : decode cX9_init 286 = .ok (.newarray .boolean, 2) := by decide +kernel
theorem dX9_init_288 : decode cX9_init 288 = .ok (.putfield 113, 3) := by decide +kernel
theorem dX9_init_291 : decode cX9_init 291 = .ok (.aload_n 0, 1) := by decide +kernel
theorem dX9_init_292 : decode cX9_init 292 = .ok (.bipush 30, 2) := by decide +kernel
theorem dX9_init_294 : decode cX9_init 294 = .ok (.newarray .boolean, 2) := by decide +kernel
theorem dX9_init_296 : decode cX9_init 296 = .ok (.putfield 116, 3) := by decide +kernel
theorem dX9_init_299 : decode cX9_init 299 = .ok (.aload_n 0, 1) := by decide +kernel
theorem dX9_init_300 : decode cX9_init 300 = .ok (.bipush 12, 2) := by decide +kernel
theorem dX9_init_302 : decode cX9_init 302 = .ok (.newarray .boolean, 2) := by decide +kernel
theorem dX9_init_304 : decode cX9_init 304 = .ok (.putfield 119, 3) := by decide +kernel
theorem dX9_init_307 : decode cX9_init 307 = .ok (.aload_n 0, 1) := by decide +kernel
theorem dX9_init_308 : decode cX9_init 308 = .ok (.sipush 6144, 3) := by decide +kernel
theorem dX9_init_311 : decode cX9_init 311 = .ok (.newarray .boolean, 2) := by decide +kernel
theorem dX9_init_313 : decode cX9_init 313 = .ok (.putfield 122, 3) := by decide +kernel
theorem dX9_init_316 : decode cX9_init 316 = .ok (.aload_n 0, 1) := by decide +kernel
theorem dX9_init_317 : decode cX9_init 317 = .ok (.bipush 12, 2) := by decide +kernel
theorem dX9_init_319 : decode cX9_init 319 = .ok (.newarray .int, 2) := by decide +kernel
theorem dX9_init_321 : decode cX9_init 321 = .ok (.putfield 125, 3) := by decide +kernel
theorem dX9_init_324 : decode cX9_init 324 = .ok (.aload_n 0, 1) := by decide +kernel
theorem dX9_init_325 : decode cX9_init 325 = .ok (.bipush 12, 2) := by decide +kernel
theorem dX9_init_327 : decode cX9_init 327 = .ok (.newarray .int, 2) := by decide +kernel
theorem dX9_init_329 : decode cX9_init 329 = .ok (.putfield 128, 3) := by decide +kernel
theorem dX9_init_332 : decode cX9_init 332 = .ok (.aload_n 0, 1) := by decide +kernel
theorem dX9_init_333 : decode cX9_init 333 = .ok (.bipush 30, 2) := by decide +kernel
theorem dX9_init_335 : decode cX9_init 335 = .ok (.newarray .boolean, 2) := by decide +kernel
theorem dX9_init_337 : decode cX9_init 337 = .ok (.putfield 131, 3) := by decide +kernel
theorem dX9_init_340 : decode cX9_init 340 = .ok (.aload_n 0, 1) := by decide +kernel
theorem dX9_init_341 : decode cX9_init 341 = .ok (.bipush 30, 2) := by decide +kernel
theorem dX9_init_343 : decode cX9_init 343 = .ok (.newarray .boolean, 2) := by decide +kernel
theorem dX9_init_345 : decode cX9_init 345 = .ok (.putfield 134, 3) := by decide +kernel
theorem dX9_init_348 : decode cX9_init 348 = .ok (.aload_n 0, 1) := by decide +kernel
theorem dX9_init_349 : decode cX9_init 349 = .ok (.bipush 24, 2) := by decide +kernel
theorem dX9_init_351 : decode cX9_init 351 = .ok (.newarray .int, 2) := by decide +kernel
theorem dX9_init_353 : decode cX9_init 353 = .ok (.putfield 137, 3) := by decide +kernel
theorem dX9_init_356 : decode cX9_init 356 = .ok (.aload_n 0, 1) := by decide +kernel
theorem dX9_init_357 : decode cX9_init 357 = .ok (.iconst 4, 1) := by decide +kernel
theorem dX9_init_358 : decode cX9_init 358 = .ok (.newarray .int, 2) := by decide +kernel
theorem dX9_init_360 : decode cX9_init 360 = .ok (.putfield 140, 3) := by decide +kernel
theorem dX9_init_363 : decode cX9_init 363 = .ok (.aload_n 0, 1) := by decide +kernel
theorem dX9_init_364 : decode cX9_init 364 = .ok (.sipush 2100, 3) := by decide +kernel
theorem dX9_init_367 : decode cX9_init 367 = .ok (.newarray .int, 2) := by decide +kernel
theorem dX9_init_369 : decode cX9_init 369 = .ok (.putfield 143, 3) := by decide +kernel
theorem dX9_init_372 : decode cX9_init 372 = .ok (.aload_n 0, 1) := by decide +kernel
theorem dX9_init_373 : decode cX9_init 373 = .ok (.sipush 1200, 3) := by decide +kernel
theorem dX9_init_376 : decode cX9_init 376 = .ok (.newarray .int, 2) := by decide +kernel
theorem dX9_init_378 : decode cX9_init 378 = .ok (.putfield 146, 3) := by decide +kernel
theorem dX9_init_381 : decode cX9_init 381 = .ok (.aload_n 0, 1) := by decide +kernel
theorem dX9_init_382 : decode cX9_init 382 = .ok (.sipush 1200, 3) := by decide +kernel
theorem dX9_init_385 : decode cX9_init 385 = .ok (.newarray .boolean, 2) := by decide +kernel
theorem dX9_init_387 : decode cX9_init 387 = .ok (.putfield 149, 3) := by decide +kernel
theorem dX9_init_390 : decode cX9_init 390 = .ok (.aload_n 0, 1) := by decide +kernel
theorem dX9_init_391 : decode cX9_init 391 = .ok (.sipush 1200, 3) := by decide +kernel
theorem dX9_init_394 : decode cX9_init 394 = .ok (.newarray .boolean, 2) := by decide +kernel
theorem dX9_init_396 : decode cX9_init 396 = .ok (.putfield 152, 3) := by decide +kernel
theorem dX9_init_399 : decode cX9_init 399 = .ok (.aload_n 0, 1) := by decide +kernel
theorem dX9_init_400 : decode cX9_init 400 = .ok (.sipush 1200, 3) := by decide +kernel
theorem dX9_init_403 : decode cX9_init 403 = .ok (.newarray .int, 2) := by decide +kernel
theorem dX9_init_405 : decode cX9_init 405 = .ok (.putfield 155, 3) := by decide +kernel
theorem dX9_init_408 : decode cX9_init 408 = .ok (.aload_n 0, 1) := by decide +kernel
theorem dX9_init_409 : decode cX9_init 409 = .ok (.sipush 1200, 3) := by decide +kernel
theorem dX9_init_412 : decode cX9_init 412 = .ok (.newarray .boolean, 2) := by decide +kernel
theorem dX9_init_414 : decode cX9_init 414 = .ok (.putfield 158, 3) := by decide +kernel
theorem dX9_init_417 : decode cX9_init 417 = .ok (.aload_n 0, 1) := by decide +kernel
theorem dX9_init_418 : decode cX9_init 418 = .ok (.sipush 1200, 3) := by decide +kernel
theorem dX9_init_421 : decode cX9_init 421 = .ok (.newarray .int, 2) := by decide +kernel
theorem dX9_init_423 : decode cX9_init 423 = .ok (.putfield 161, 3) := by decide +kernel
theorem dX9_init_426 : decode cX9_init 426 = .ok (.aload_n 0, 1) := by decide +kernel
theorem dX9_init_427 : decode cX9_init 427 = .ok (.sipush 1200, 3) := by decide +kernel
theorem dX9_init_430 : decode cX9_init 430 = .ok (.newarray .int, 2) := by decide +kernel
theorem dX9_init_432 : decode cX9_init 432 = .ok (.putfield 164, 3) := by decide +kernel
theorem dX9_init_435 : decode cX9_init 435 = .ok (.aload_n 0, 1) := by decide +kernel
theorem dX9_init_436 : decode cX9_init 436 = .ok (.bipush 60, 2) := by decide +kernel
theorem dX9_init_438 : decode cX9_init 438 = .ok (.newarray .int, 2) := by decide +kernel
theorem dX9_init_440 : decode cX9_init 440 = .ok (.putfield 167, 3) := by decide +kernel
theorem dX9_init_443 : decode cX9_init 443 = .ok (.aload_n 0, 1) := by decide +kernel
theorem dX9_init_444 : decode cX9_init 444 = .ok (.bipush 60, 2) := by decide +kernel
theorem dX9_init_446 : decode cX9_init 446 = .ok (.newarray .boolean, 2) := by decide +kernel
theorem dX9_init_448 : decode cX9_init 448 = .ok (.putfield 170, 3) := by decide +kernel
theorem dX9_init_451 : decode cX9_init 451 = .ok (.return_, 1) := by decide +kernel
theorem dX9_isAttribute_0 : decode cX9_isAttribute 0 = .ok (.iload_n 1, 1) := by decide +kernel
theorem dX9_isAttribute_1 : decode cX9_isAttribute 1 = .ok (.iconst 0, 1) := by decide +kernel
theorem dX9_isAttribute_2 : decode cX9_isAttribute 2 = .ok (.aload_n 0, 1) := by decide +kernel
theorem dX9_isAttribute_3 : decode cX9_isAttribute 3 = .ok (.getfield 396, 3) := by decide +kernel
theorem dX9_isAttribute_6 : decode cX9_isAttribute 6 = .ok (.iconst 1, 1) := by decide +kernel
theorem dX9_isAttribute_7 : decode cX9_isAttribute 7 = .ok (.isub, 1) := by decide +kernel
theorem dX9_isAttribute_8 : decode cX9_isAttribute 8 = .ok (.invokestatic 180, 3) := by decide +kernel
theorem dX9_isAttribute_11 : decode cX9_isAttribute 11 = .ok (.ifCond .eq 35, 3) := by decide +kernel
theorem dX9_isAttribute_46 : decode cX9_isAttribute 46 = .ok (.iconst 0, 1) := by decide +kernel
theorem dX9_isAttribute_47 : decode cX9_isAttribute 47 = .ok (.ireturn, 1) := by decide +kernel
theorem dX9_isWell_0 : decode cX9_isWell 0 = .ok (.aload_n 0, 1) := by decide +kernel
theorem dX9_isWell_1 : decode cX9_isWell 1 = .ok (.getfield 184, 3) := by decide +kernel
theorem dX9_isWell_4 : decode cX9_isWell 4 = .ok (.ifCond .ne 7, 3) := by decide +kernel
theorem dX9_isWell_7 : decode cX9_isWell 7 = .ok (.iconst 1, 1) := by decide +kernel
theorem dX9_isWell_8 : decode cX9_isWell 8 = .ok (.goto 4, 3) := by decide +kernel
theorem dX9_isWell_11 : decode cX9_isWell 11 = .ok (.iconst 0, 1) := by decide +kernel
theorem dX9_isWell_12 : decode cX9_isWell 12 = .ok (.ireturn, 1) := by decide +kernel
theorem dX9_isWord_0 : decode cX9_isWord 0 = .ok (.aload_n 0, 1) := by decide +kernel
theorem dX9_isWord_1 : decode cX9_isWord 1 = .ok (.invokevirtual 234, 3) := by decide +kernel
theorem dX9_isWord_4 : decode cX9_isWord 4 = .ok (.ifCond .eq 25, 3) := by decide +kernel
theorem dX9_isWord_7 : decode cX9_isWord 7 = .ok (.aload_n 0, 1) := by decide +kernel
theorem dX9_isWord_8 : decode cX9_isWord 8 = .ok (.getfield 210, 3) := by decide +kernel
theorem dX9_isWord_11 : decode cX9_isWord 11 = .ok (.iconst 2, 1) := by decide +kernel
theorem dX9_isWord_12 : decode cX9_isWord 12 = .ok (.if_icmp .ne 17, 3) := by decide +kernel
theorem dX9_isWord_29 : decode cX9_isWord 29 = .ok (.iconst 0, 1) := by decide +kernel
theorem dX9_isWord_30 : decode cX9_isWord 30 = .ok (.ireturn, 1) := by decide +kernel
theorem dX9_next_0 : decode cX9_next 0 = .ok (.aload_n 0, 1) := by decide +kernel
theorem dX9_next_1 : decode cX9_next 1 = .ok (.invokevirtual 203, 3) := by decide +kernel
theorem dX9_next_4 : decode cX9_next 4 = .ok (.aload_n 0, 1) := by decide +kernel
theorem dX9_next_5 : decode cX9_next 5 = .ok (.aload_n 0, 1) := by decide +kernel
theorem dX9_next_6 : decode cX9_next 6 = .ok (.getfield 197, 3) := by decide +kernel
theorem dX9_next_9 : decode cX9_next 9 = .ok (.putfield 190, 3) := by decide +kernel
theorem dX9_next_12 : decode cX9_next 12 = .ok (.aload_n 0, 1) := by decide +kernel
theorem dX9_next_13 : decode cX9_next 13 = .ok (.lconst 0, 1) := by decide +kernel
theorem dX9_next_14 : decode cX9_next 14 = .ok (.putfield 206, 3) := by decide +kernel
theorem dX9_next_17 : decode cX9_next 17 = .ok (.aload_n 0, 1) := by decide +kernel
theorem dX9_next_18 : decode cX9_next 18 = .ok (.getfield 197, 3) := by decide +kernel
theorem dX9_next_21 : decode cX9_next 21 = .ok (.aload_n 0, 1) := by decide +kernel
theorem dX9_next_22 : decode cX9_next 22 = .ok (.getfield 200, 3) := by decide +kernel
theorem dX9_next_25 : decode cX9_next 25 = .ok (.if_icmp .ne 9, 3) := by decide +kernel
theorem dX9_next_28 : decode cX9_next 28 = .ok (.aload_n 0, 1) := by decide +kernel
theorem dX9_next_29 : decode cX9_next 29 = .ok (.iconst 0, 1) := by decide +kernel
theorem dX9_next_30 : decode cX9_next 30 = .ok (.putfield 210, 3) := by decide +kernel
theorem dX9_next_33 : decode cX9_next 33 = .ok (.return_, 1) := by decide +kernel
theorem dX9_node_0 : decode cX9_node 0 = .ok (.iload_n 1, 1) := by decide +kernel
theorem dX9_node_1 : decode cX9_node 1 = .ok (.iconst 0, 1) := by decide +kernel
theorem dX9_node_2 : decode cX9_node 2 = .ok (.aload_n 0, 1) := by decide +kernel
theorem dX9_node_3 : decode cX9_node 3 = .ok (.getfield 396, 3) := by decide +kernel
theorem dX9_node_6 : decode cX9_node 6 = .ok (.iconst 1, 1) := by decide +kernel
theorem dX9_node_7 : decode cX9_node 7 = .ok (.isub, 1) := by decide +kernel
theorem dX9_node_8 : decode cX9_node 8 = .ok (.invokestatic 180, 3) := by decide +kernel
theorem dX9_node_11 : decode cX9_node 11 = .ok (.ifCond .ne 5, 3) := by decide +kernel
theorem dX9_node_14 : decode cX9_node 14 = .ok (.iconst (-1), 1) := by decide +kernel
theorem dX9_node_15 : decode cX9_node 15 = .ok (.ireturn, 1) := by decide +kernel
theorem dX9_order__0 : decode cX9_order_ 0 = .ok (.iload_n 1, 1) := by decide +kernel
theorem dX9_order__1 : decode cX9_order_ 1 = .ok (.iconst 0, 1) := by decide +kernel
theorem dX9_order__2 : decode cX9_order_ 2 = .ok (.aload_n 0, 1) := by decide +kernel
theorem dX9_order__3 : decode cX9_order_ 3 = .ok (.getfield 399, 3) := by decide +kernel
theorem dX9_order__6 : decode cX9_order_ 6 = .ok (.iconst 1, 1) := by decide +kernel
theorem dX9_order__7 : decode cX9_order_ 7 = .ok (.isub, 1) := by decide +kernel
theorem dX9_order__8 : decode cX9_order_ 8 = .ok (.invokestatic 180, 3) := by decide +kernel
theorem dX9_order__11 : decode cX9_order_ 11 = .ok (.ifCond .eq 12, 3) := by decide +kernel
theorem dX9_order__23 : decode cX9_order_ 23 = .ok (.iconst (-1), 1) := by decide +kernel
theorem dX9_order__24 : decode cX9_order_ 24 = .ok (.ireturn, 1) := by decide +kernel
theorem dX9_own_0 : decode cX9_own 0 = .ok (.iload_n 1, 1) := by decide +kernel
theorem dX9_own_1 : decode cX9_own 1 = .ok (.iconst 0, 1) := by decide +kernel
theorem dX9_own_2 : decode cX9_own 2 = .ok (.aload_n 0, 1) := by decide +kernel
theorem dX9_own_3 : decode cX9_own 3 = .ok (.getfield 396, 3) := by decide +kernel
theorem dX9_own_6 : decode cX9_own 6 = .ok (.iconst 1, 1) := by decide +kernel
theorem dX9_own_7 : decode cX9_own 7 = .ok (.isub, 1) := by decide +kernel
theorem dX9_own_8 : decode cX9_own 8 = .ok (.invokestatic 180, 3) := by decide +kernel
theorem dX9_own_11 : decode cX9_own 11 = .ok (.ifCond .ne 5, 3) := by decide +kernel
theorem dX9_own_14 : decode cX9_own 14 = .ok (.iconst 0, 1) := by decide +kernel
theorem dX9_own_15 : decode cX9_own 15 = .ok (.ireturn, 1) := by decide +kernel
theorem dX9_put_0 : decode cX9_put 0 = .ok (.aload_n 0, 1) := by decide +kernel
theorem dX9_put_1 : decode cX9_put 1 = .ok (.getfield 7, 3) := by decide +kernel
theorem dX9_put_4 : decode cX9_put 4 = .ok (.aload_n 0, 1) := by decide +kernel
theorem dX9_put_5 : decode cX9_put 5 = .ok (.getfield 173, 3) := by decide +kernel
theorem dX9_put_8 : decode cX9_put 8 = .ok (.iload_n 1, 1) := by decide +kernel
theorem dX9_put_9 : decode cX9_put 9 = .ok (.bipush 24, 2) := by decide +kernel
theorem dX9_put_11 : decode cX9_put 11 = .ok (.ishr, 1) := by decide +kernel
theorem dX9_put_12 : decode cX9_put 12 = .ok (.i2b, 1) := by decide +kernel
theorem dX9_put_13 : decode cX9_put 13 = .ok (.bastore, 1) := by decide +kernel
theorem dX9_put_14 : decode cX9_put 14 = .ok (.aload_n 0, 1) := by decide +kernel
theorem dX9_put_15 : decode cX9_put 15 = .ok (.getfield 7, 3) := by decide +kernel
theorem dX9_put_18 : decode cX9_put 18 = .ok (.aload_n 0, 1) := by decide +kernel
theorem dX9_put_19 : decode cX9_put 19 = .ok (.getfield 173, 3) := by decide +kernel
theorem dX9_put_22 : decode cX9_put 22 = .ok (.iconst 1, 1) := by decide +kernel
theorem dX9_put_23 : decode cX9_put 23 = .ok (.iadd, 1) := by decide +kernel
theorem dX9_put_24 : decode cX9_put 24 = .ok (.iload_n 1, 1) := by decide +kernel
theorem dX9_put_25 : decode cX9_put 25 = .ok (.bipush 16, 2) := by decide +kernel
theorem dX9_put_27 : decode cX9_put 27 = .ok (.ishr, 1) := by decide +kernel
theorem dX9_put_28 : decode cX9_put 28 = .ok (.i2b, 1) := by decide +kernel
theorem dX9_put_29 : decode cX9_put 29 = .ok (.bastore, 1) := by decide +kernel
theorem dX9_put_30 : decode cX9_put 30 = .ok (.aload_n 0, 1) := by decide +kernel
theorem dX9_put_31 : decode cX9_put 31 = .ok (.getfield 7, 3) := by decide +kernel
theorem dX9_put_34 : decode cX9_put 34 = .ok (.aload_n 0, 1) := by decide +kernel
theorem dX9_put_35 : decode cX9_put 35 = .ok (.getfield 173, 3) := by decide +kernel
theorem dX9_put_38 : decode cX9_put 38 = .ok (.iconst 2, 1) := by decide +kernel
theorem dX9_put_39 : decode cX9_put 39 = .ok (.iadd, 1) := by decide +kernel
theorem dX9_put_40 : decode cX9_put 40 = .ok (.iload_n 1, 1) := by decide +kernel
theorem dX9_put_41 : decode cX9_put 41 = .ok (.bipush 8, 2) := by decide +kernel
theorem dX9_put_43 : decode cX9_put 43 = .ok (.ishr, 1) := by decide +kernel
theorem dX9_put_44 : decode cX9_put 44 = .ok (.i2b, 1) := by decide +kernel
theorem dX9_put_45 : decode cX9_put 45 = .ok (.bastore, 1) := by decide +kernel
theorem dX9_put_46 : decode cX9_put 46 = .ok (.aload_n 0, 1) := by decide +kernel
theorem dX9_put_47 : decode cX9_put 47 = .ok (.getfield 7, 3) := by decide +kernel
theorem dX9_put_50 : decode cX9_put 50 = .ok (.aload_n 0, 1) := by decide +kernel
theorem dX9_put_51 : decode cX9_put 51 = .ok (.getfield 173, 3) := by decide +kernel
theorem dX9_put_54 : decode cX9_put 54 = .ok (.iconst 3, 1) := by decide +kernel
theorem dX9_put_55 : decode cX9_put 55 = .ok (.iadd, 1) := by decide +kernel
theorem dX9_put_56 : decode cX9_put 56 = .ok (.iload_n 1, 1) := by decide +kernel
theorem dX9_put_57 : decode cX9_put 57 = .ok (.i2b, 1) := by decide +kernel
theorem dX9_put_58 : decode cX9_put 58 = .ok (.bastore, 1) := by decide +kernel
theorem dX9_put_59 : decode cX9_put 59 = .ok (.aload_n 0, 1) := by decide +kernel
theorem dX9_put_60 : decode cX9_put 60 = .ok (.dup, 1) := by decide +kernel
theorem dX9_put_61 : decode cX9_put 61 = .ok (.getfield 173, 3) := by decide +kernel
theorem dX9_put_64 : decode cX9_put 64 = .ok (.iconst 4, 1) := by decide +kernel
theorem dX9_put_65 : decode cX9_put 65 = .ok (.iadd, 1) := by decide +kernel
theorem dX9_put_66 : decode cX9_put 66 = .ok (.putfield 173, 3) := by decide +kernel
theorem dX9_put_69 : decode cX9_put 69 = .ok (.return_, 1) := by decide +kernel
theorem dX9_reads_0 : decode cX9_reads 0 = .ok (.aload_n 0, 1) := by decide +kernel
theorem dX9_reads_1 : decode cX9_reads 1 = .ok (.iconst 0, 1) := by decide +kernel
theorem dX9_reads_2 : decode cX9_reads 2 = .ok (.putfield 197, 3) := by decide +kernel
theorem dX9_reads_5 : decode cX9_reads 5 = .ok (.aload_n 0, 1) := by decide +kernel
theorem dX9_reads_6 : decode cX9_reads 6 = .ok (.iconst 0, 1) := by decide +kernel
theorem dX9_reads_7 : decode cX9_reads 7 = .ok (.putfield 184, 3) := by decide +kernel
theorem dX9_reads_10 : decode cX9_reads 10 = .ok (.aload_n 0, 1) := by decide +kernel
theorem dX9_reads_11 : decode cX9_reads 11 = .ok (.iconst (-1), 1) := by decide +kernel
theorem dX9_reads_12 : decode cX9_reads 12 = .ok (.putfield 187, 3) := by decide +kernel
theorem dX9_reads_15 : decode cX9_reads 15 = .ok (.aload_n 0, 1) := by decide +kernel
theorem dX9_reads_16 : decode cX9_reads 16 = .ok (.iconst 0, 1) := by decide +kernel
theorem dX9_reads_17 : decode cX9_reads 17 = .ok (.putfield 248, 3) := by decide +kernel
theorem dX9_reads_20 : decode cX9_reads 20 = .ok (.aload_n 0, 1) := by decide +kernel
theorem dX9_reads_21 : decode cX9_reads 21 = .ok (.iconst 0, 1) := by decide +kernel
theorem dX9_reads_22 : decode cX9_reads 22 = .ok (.putfield 272, 3) := by decide +kernel
theorem dX9_reads_25 : decode cX9_reads 25 = .ok (.aload_n 0, 1) := by decide +kernel
theorem dX9_reads_26 : decode cX9_reads 26 = .ok (.iconst 0, 1) := by decide +kernel
theorem dX9_reads_27 : decode cX9_reads 27 = .ok (.putfield 302, 3) := by decide +kernel
theorem dX9_reads_30 : decode cX9_reads 30 = .ok (.aload_n 0, 1) := by decide +kernel
theorem dX9_reads_31 : decode cX9_reads 31 = .ok (.iconst 0, 1) := by decide +kernel
theorem dX9_reads_32 : decode cX9_reads 32 = .ok (.putfield 305, 3) := by decide +kernel
theorem dX9_reads_35 : decode cX9_reads 35 = .ok (.aload_n 0, 1) := by decide +kernel
theorem dX9_reads_36 : decode cX9_reads 36 = .ok (.invokevirtual 242, 3) := by decide +kernel
theorem dX9_reads_39 : decode cX9_reads 39 = .ok (.aload_n 0, 1) := by decide +kernel
theorem dX9_reads_40 : decode cX9_reads 40 = .ok (.iconst 0, 1) := by decide +kernel
theorem dX9_reads_41 : decode cX9_reads 41 = .ok (.invokevirtual 258, 3) := by decide +kernel
theorem dX9_reads_44 : decode cX9_reads 44 = .ok (.ifCond .ne 7, 3) := by decide +kernel
theorem dX9_reads_47 : decode cX9_reads 47 = .ok (.aload_n 0, 1) := by decide +kernel
theorem dX9_reads_48 : decode cX9_reads 48 = .ok (.invokevirtual 245, 3) := by decide +kernel
theorem dX9_reads_51 : decode cX9_reads 51 = .ok (.aload_n 0, 1) := by decide +kernel
theorem dX9_reads_52 : decode cX9_reads 52 = .ok (.iconst 0, 1) := by decide +kernel
theorem dX9_reads_53 : decode cX9_reads 53 = .ok (.invokevirtual 258, 3) := by decide +kernel
theorem dX9_reads_56 : decode cX9_reads 56 = .ok (.ifCond .eq 10, 3) := by decide +kernel
theorem dX9_reads_66 : decode cX9_reads 66 = .ok (.aload_n 0, 1) := by decide +kernel
theorem dX9_reads_67 : decode cX9_reads 67 = .ok (.iconst 3, 1) := by decide +kernel
theorem dX9_reads_68 : decode cX9_reads 68 = .ok (.invokevirtual 258, 3) := by decide +kernel
theorem dX9_reads_71 : decode cX9_reads 71 = .ok (.ifCond .ne 7, 3) := by decide +kernel
theorem dX9_reads_74 : decode cX9_reads 74 = .ok (.aload_n 0, 1) := by decide +kernel
theorem dX9_reads_75 : decode cX9_reads 75 = .ok (.invokevirtual 245, 3) := by decide +kernel
theorem dX9_reads_78 : decode cX9_reads 78 = .ok (.aload_n 0, 1) := by decide +kernel
theorem dX9_reads_79 : decode cX9_reads 79 = .ok (.iconst 3, 1) := by decide +kernel
theorem dX9_reads_80 : decode cX9_reads 80 = .ok (.invokevirtual 258, 3) := by decide +kernel
theorem dX9_reads_83 : decode cX9_reads 83 = .ok (.ifCond .eq 10, 3) := by decide +kernel
theorem dX9_reads_93 : decode cX9_reads 93 = .ok (.aload_n 0, 1) := by decide +kernel
theorem dX9_reads_94 : decode cX9_reads 94 = .ok (.invokevirtual 234, 3) := by decide +kernel
theorem dX9_reads_97 : decode cX9_reads 97 = .ok (.ifCond .eq 14, 3) := by decide +kernel
theorem dX9_reads_111 : decode cX9_reads 111 = .ok (.iconst 0, 1) := by decide +kernel
theorem dX9_reads_112 : decode cX9_reads 112 = .ok (.istore_n 1, 1) := by decide +kernel
theorem dX9_reads_113 : decode cX9_reads 113 = .ok (.iconst 0, 1) := by decide +kernel
theorem dX9_reads_114 : decode cX9_reads 114 = .ok (.istore_n 2, 1) := by decide +kernel
theorem dX9_reads_115 : decode cX9_reads 115 = .ok (.iload_n 2, 1) := by decide +kernel
theorem dX9_reads_116 : decode cX9_reads 116 = .ok (.aload_n 0, 1) := by decide +kernel
theorem dX9_reads_117 : decode cX9_reads 117 = .ok (.getfield 30, 3) := by decide +kernel
theorem dX9_reads_120 : decode cX9_reads 120 = .ok (.iconst 0, 1) := by decide +kernel
theorem dX9_reads_121 : decode cX9_reads 121 = .ok (.iaload, 1) := by decide +kernel
theorem dX9_reads_122 : decode cX9_reads 122 = .ok (.if_icmp .ge 35, 3) := by decide +kernel
theorem dX9_reads_157 : decode cX9_reads 157 = .ok (.iload_n 1, 1) := by decide +kernel
theorem dX9_reads_158 : decode cX9_reads 158 = .ok (.ifCond .eq 13, 3) := by decide +kernel
theorem dX9_reads_171 : decode cX9_reads 171 = .ok (.return_, 1) := by decide +kernel
theorem dX9_rule__0 : decode cX9_rule_ 0 = .ok (.iload_n 1, 1) := by decide +kernel
theorem dX9_rule__1 : decode cX9_rule_ 1 = .ok (.iconst 0, 1) := by decide +kernel
theorem dX9_rule__2 : decode cX9_rule_ 2 = .ok (.aload_n 0, 1) := by decide +kernel
theorem dX9_rule__3 : decode cX9_rule_ 3 = .ok (.getfield 272, 3) := by decide +kernel
theorem dX9_rule__6 : decode cX9_rule_ 6 = .ok (.iconst 1, 1) := by decide +kernel
theorem dX9_rule__7 : decode cX9_rule_ 7 = .ok (.isub, 1) := by decide +kernel
theorem dX9_rule__8 : decode cX9_rule_ 8 = .ok (.invokestatic 180, 3) := by decide +kernel
theorem dX9_rule__11 : decode cX9_rule_ 11 = .ok (.ifCond .ne 5, 3) := by decide +kernel
theorem dX9_rule__14 : decode cX9_rule_ 14 = .ok (.iconst (-1), 1) := by decide +kernel
theorem dX9_rule__15 : decode cX9_rule_ 15 = .ok (.ireturn, 1) := by decide +kernel
theorem dX9_stray_0 : decode cX9_stray 0 = .ok (.aload_n 0, 1) := by decide +kernel
theorem dX9_stray_1 : decode cX9_stray 1 = .ok (.iconst 1, 1) := by decide +kernel
theorem dX9_stray_2 : decode cX9_stray 2 = .ok (.aload_n 0, 1) := by decide +kernel
theorem dX9_stray_3 : decode cX9_stray 3 = .ok (.getfield 190, 3) := by decide +kernel
theorem dX9_stray_6 : decode cX9_stray 6 = .ok (.invokevirtual 193, 3) := by decide +kernel
theorem dX9_stray_9 : decode cX9_stray 9 = .ok (.return_, 1) := by decide +kernel
theorem dX9_symbol__0 : decode cX9_symbol_ 0 = .ok (.iload_n 1, 1) := by decide +kernel
theorem dX9_symbol__1 : decode cX9_symbol_ 1 = .ok (.iconst 0, 1) := by decide +kernel
theorem dX9_symbol__2 : decode cX9_symbol_ 2 = .ok (.aload_n 0, 1) := by decide +kernel
theorem dX9_symbol__3 : decode cX9_symbol_ 3 = .ok (.getfield 248, 3) := by decide +kernel
theorem dX9_symbol__6 : decode cX9_symbol_ 6 = .ok (.iconst 1, 1) := by decide +kernel
theorem dX9_symbol__7 : decode cX9_symbol_ 7 = .ok (.isub, 1) := by decide +kernel
theorem dX9_symbol__8 : decode cX9_symbol_ 8 = .ok (.invokestatic 180, 3) := by decide +kernel
theorem dX9_symbol__11 : decode cX9_symbol_ 11 = .ok (.ifCond .ne 5, 3) := by decide +kernel
theorem dX9_symbol__14 : decode cX9_symbol_ 14 = .ok (.iconst (-1), 1) := by decide +kernel
theorem dX9_symbol__15 : decode cX9_symbol_ 15 = .ok (.ireturn, 1) := by decide +kernel
theorem dX9_takesTape_0 : decode cX9_takesTape 0 = .ok (.aload_n 0, 1) := by decide +kernel
theorem dX9_takesTape_1 : decode cX9_takesTape 1 = .ok (.aload_n 0, 1) := by decide +kernel
theorem dX9_takesTape_2 : decode cX9_takesTape 2 = .ok (.getfield 173, 3) := by decide +kernel
theorem dX9_takesTape_5 : decode cX9_takesTape 5 = .ok (.putfield 200, 3) := by decide +kernel
theorem dX9_takesTape_8 : decode cX9_takesTape 8 = .ok (.iconst 0, 1) := by decide +kernel
theorem dX9_takesTape_9 : decode cX9_takesTape 9 = .ok (.istore_n 1, 1) := by decide +kernel
theorem dX9_takesTape_10 : decode cX9_takesTape 10 = .ok (.iload_n 1, 1) := by decide +kernel
theorem dX9_takesTape_11 : decode cX9_takesTape 11 = .ok (.aload_n 0, 1) := by decide +kernel
theorem dX9_takesTape_12 : decode cX9_takesTape 12 = .ok (.getfield 173, 3) := by decide +kernel
theorem dX9_takesTape_15 : decode cX9_takesTape 15 = .ok (.if_icmp .ge 21, 3) := by decide +kernel
theorem dX9_takesTape_36 : decode cX9_takesTape 36 = .ok (.aload_n 0, 1) := by decide +kernel
theorem dX9_takesTape_37 : decode cX9_takesTape 37 = .ok (.iconst 0, 1) := by decide +kernel
theorem dX9_takesTape_38 : decode cX9_takesTape 38 = .ok (.putfield 173, 3) := by decide +kernel
theorem dX9_takesTape_41 : decode cX9_takesTape 41 = .ok (.return_, 1) := by decide +kernel
theorem dX9_test_0 : decode cX9_test 0 = .ok (.aload_n 0, 1) := by decide +kernel
theorem dX9_test_1 : decode cX9_test 1 = .ok (.getfield 389, 3) := by decide +kernel
theorem dX9_test_4 : decode cX9_test 4 = .ok (.ifCond .eq 12, 3) := by decide +kernel
theorem dX9_test_16 : decode cX9_test 16 = .ok (.iconst (-1), 1) := by decide +kernel
theorem dX9_test_17 : decode cX9_test 17 = .ok (.ireturn, 1) := by decide +kernel
theorem dX9_tree_0 : decode cX9_tree 0 = .ok (.aload_n 0, 1) := by decide +kernel
theorem dX9_tree_1 : decode cX9_tree 1 = .ok (.getfield 389, 3) := by decide +kernel
theorem dX9_tree_4 : decode cX9_tree 4 = .ok (.ifCond .ne 6, 3) := by decide +kernel
theorem dX9_tree_7 : decode cX9_tree 7 = .ok (.bipush (-2), 2) := by decide +kernel
theorem dX9_tree_9 : decode cX9_tree 9 = .ok (.ireturn, 1) := by decide +kernel
theorem dX9_value__0 : decode cX9_value_ 0 = .ok (.aload_n 0, 1) := by decide +kernel
theorem dX9_value__1 : decode cX9_value_ 1 = .ok (.iload_n 1, 1) := by decide +kernel
theorem dX9_value__2 : decode cX9_value_ 2 = .ok (.iload_n 2, 1) := by decide +kernel
theorem dX9_value__3 : decode cX9_value_ 3 = .ok (.invokevirtual 473, 3) := by decide +kernel
theorem dX9_value__6 : decode cX9_value_ 6 = .ok (.ifCond .eq 12, 3) := by decide +kernel
theorem dX9_value__18 : decode cX9_value_ 18 = .ok (.iconst (-1), 1) := by decide +kernel
theorem dX9_value__19 : decode cX9_value_ 19 = .ok (.ireturn, 1) := by decide +kernel
end
section
/-! plain facts: what a fresh object's calls answer -/
theorem nnF {x : Int32} (a : ¬ x < 0) (b : ¬ 0 ≤ x) : False := by
  rw [Int32.lt_iff_toInt_lt] at a
  rw [Int32.le_iff_toInt_le] at b
  omega
def inI (v l h : Int32) : Int32 := if l ≤ v ∧ v ≤ h then 1 else 0
theorem inI_a {v l h : Int32} (c : v < l) : (0 : Int32) = inI v l h := by
  unfold inI
  rw [if_neg]
  rintro ⟨a, _⟩
  rw [Int32.lt_iff_toInt_lt] at c
  rw [Int32.le_iff_toInt_le] at a
  omega
theorem inI_b {v l h : Int32} (c : h < v) : (0 : Int32) = inI v l h := by
  unfold inI
  rw [if_neg]
  rintro ⟨_, a⟩
  rw [Int32.lt_iff_toInt_lt] at c
  rw [Int32.le_iff_toInt_le] at a
  omega
theorem inI_t {v l h : Int32} (c : ¬ v < l) (d : ¬ h < v) : (1 : Int32) = inI v l h := by
  unfold inI
  rw [if_pos]
  rw [Int32.lt_iff_toInt_lt] at c d
  rw [Int32.le_iff_toInt_le, Int32.le_iff_toInt_le]
  omega
theorem inI_e {v l h : Int32} (c : h < l) : inI v l h = 0 := by
  unfold inI
  rw [if_neg]
  rintro ⟨a, b⟩
  rw [Int32.lt_iff_toInt_lt] at c
  rw [Int32.le_iff_toInt_le] at a b
  omega
def endR (n : Int32) : Int32 := if n = 0 then 0 else -1
theorem endR_n {n : Int32} (h : n ≠ 0) : (-1 : Int32) = endR n := by
  unfold endR
  rw [if_neg h]
theorem endR_a {n : Int32} (c : n < 0) : (-1 : Int32) = endR n := endR_n (fun h => absurd (h ▸ c) (by decide))
theorem endR_0 {n : Int32} (a : ¬ n < 0) (b : n ≤ 0) : n = 0 := by
  rw [Int32.lt_iff_toInt_lt] at a
  rw [Int32.le_iff_toInt_le] at b
  have z : (0 : Int32).toInt = 0 := by decide
  exact Int32.toInt_inj.mp (by omega)
theorem endR_b {n : Int32} (b : ¬ n ≤ 0) : (-1 : Int32) = endR n := endR_n (fun h => by subst h; exact b (by decide))
theorem endM_0 {n r : Int32} (hw : r = inI n 0 0) (c : ¬ r = 0) : n = 0 := by
  subst hw
  unfold inI at c
  by_cases h : 0 ≤ n ∧ n ≤ 0
  · exact endR_0 (fun q => by rw [Int32.lt_iff_toInt_lt] at q; have h1 := Int32.le_iff_toInt_le.mp h.1; omega) h.2
  · rw [if_neg h] at c
    exact absurd rfl c
theorem endM_a {n r : Int32} (hw : r = inI n 0 0) (c : r = 0) : (-1 : Int32) = endR n := by
  refine endR_n (fun h => ?_)
  subst h
  rw [hw] at c
  exact absurd c (by decide)
def aboutR (n : Int32) : Int32 := if n = 0 ∨ n = 1 ∨ n = 2 ∨ n = 3 ∨ n = 4 then 0 else -1
theorem aboutR_n {n : Int32} (a : ¬ n = 0) (b : ¬ n = 1) (c : ¬ n = 2) (d : ¬ n = 3) (f : ¬ n = 4) : (-1 : Int32) = aboutR n := by
  unfold aboutR
  rw [if_neg]
  rintro (h | h | h | h | h)
  · exact a h
  · exact b h
  · exact c h
  · exact d h
  · exact f h
theorem sw_0_4 {n : Int32} (a : ¬ n = 0) (b : ¬ n = 1) (c : ¬ n = 2) (d : ¬ n = 3) (f : ¬ n = 4) : n.toInt < 0 ∨ 4 < n.toInt := by
  rcases Classical.em (n.toInt < 0 ∨ 4 < n.toInt) with h | h
  · exact h
  · exfalso
    have q : n.toInt = 0 ∨ n.toInt = 1 ∨ n.toInt = 2 ∨ n.toInt = 3 ∨ n.toInt = 4 := by omega
    rcases q with q | q | q | q | q
    · exact a (Int32.toInt_inj.mp (q.trans (by decide)))
    · exact b (Int32.toInt_inj.mp (q.trans (by decide)))
    · exact c (Int32.toInt_inj.mp (q.trans (by decide)))
    · exact d (Int32.toInt_inj.mp (q.trans (by decide)))
    · exact f (Int32.toInt_inj.mp (q.trans (by decide)))
/-- a script that one call fits in, of at most six ints, has six -/
theorem six_of {L : Nat} (h : L ≤ 6) (c : ¬ Int32.ofNat L - 6 < 0) : L = 6 := by
  have q : L = 0 ∨ L = 1 ∨ L = 2 ∨ L = 3 ∨ L = 4 ∨ L = 5 ∨ L = 6 := by omega
  rcases q with rfl | rfl | rfl | rfl | rfl | rfl | rfl
  · exact absurd (by decide) c
  · exact absurd (by decide) c
  · exact absurd (by decide) c
  · exact absurd (by decide) c
  · exact absurd (by decide) c
  · exact absurd (by decide) c
  · rfl
theorem lt16 {j : Nat} (h : j < 2 ^ 4) : j = 0 ∨ j = 1 ∨ j = 2 ∨ j = 3 ∨ j = 4 ∨ j = 5 ∨ j = 6 ∨ j = 7 ∨ j = 8 ∨ j = 9 ∨ j = 10 ∨ j = 11 ∨ j = 12 ∨ j = 13 ∨ j = 14 ∨ j = 15 := by omega
theorem dflX0 : ∀ j, j < 11 → defaultValue (tyX0 j) = vp_V [.null, .null, .int 0, .int 0, .int 0, .int 0, .int 0, .null, .int 0, .int 0, .int 0] j := fun j hj => match j, hj with
  | 0, _ => rfl
  | 1, _ => rfl
  | 2, _ => rfl
  | 3, _ => rfl
  | 4, _ => rfl
  | 5, _ => rfl
  | 6, _ => rfl
  | 7, _ => rfl
  | 8, _ => rfl
  | 9, _ => rfl
  | 10, _ => rfl
  | j + 11, h => absurd h (by omega)
theorem dflX1 : ∀ j, j < 18 → defaultValue (tyX1 j) = vp_V [.int 0, .null, .null, .null, .null, .null, .null, .int 0, .null, .null, .null, .null, .null, .null, .null, .null, .null, .int 0] j := fun j hj => match j, hj with
  | 0, _ => rfl
  | 1, _ => rfl
  | 2, _ => rfl
  | 3, _ => rfl
  | 4, _ => rfl
  | 5, _ => rfl
  | 6, _ => rfl
  | 7, _ => rfl
  | 8, _ => rfl
  | 9, _ => rfl
  | 10, _ => rfl
  | 11, _ => rfl
  | 12, _ => rfl
  | 13, _ => rfl
  | 14, _ => rfl
  | 15, _ => rfl
  | 16, _ => rfl
  | 17, _ => rfl
  | j + 18, h => absurd h (by omega)
theorem dflX2 : ∀ j, j < 7 → defaultValue (tyX2 j) = vp_V [.null, .null, .null, .int 0, .int 0, .int 0, .int 0] j := fun j hj => match j, hj with
  | 0, _ => rfl
  | 1, _ => rfl
  | 2, _ => rfl
  | 3, _ => rfl
  | 4, _ => rfl
  | 5, _ => rfl
  | 6, _ => rfl
  | j + 7, h => absurd h (by omega)
theorem dflX3 : ∀ j, j < 7 → defaultValue (tyX3 j) = vp_V [.null, .int 0, .int 0, .int 0, .int 0, .long 0, .long 0] j := fun j hj => match j, hj with
  | 0, _ => rfl
  | 1, _ => rfl
  | 2, _ => rfl
  | 3, _ => rfl
  | 4, _ => rfl
  | 5, _ => rfl
  | 6, _ => rfl
  | j + 7, h => absurd h (by omega)
theorem dflX4 : ∀ j, j < 6 → defaultValue (tyX4 j) = vp_V [.int 0, .null, .null, .null, .null, .null] j := fun j hj => match j, hj with
  | 0, _ => rfl
  | 1, _ => rfl
  | 2, _ => rfl
  | 3, _ => rfl
  | 4, _ => rfl
  | 5, _ => rfl
  | j + 6, h => absurd h (by omega)
theorem dflX5 : ∀ j, j < 7 → defaultValue (tyX5 j) = vp_V [.null, .null, .null, .int 0, .int 0, .int 0, .null] j := fun j hj => match j, hj with
  | 0, _ => rfl
  | 1, _ => rfl
  | 2, _ => rfl
  | 3, _ => rfl
  | 4, _ => rfl
  | 5, _ => rfl
  | 6, _ => rfl
  | j + 7, h => absurd h (by omega)
theorem dflX6 : ∀ j, j < 15 → defaultValue (tyX6 j) = vp_V [.null, .null, .int 0, .null, .null, .null, .null, .null, .null, .null, .null, .null, .null, .null, .null] j := fun j hj => match j, hj with
  | 0, _ => rfl
  | 1, _ => rfl
  | 2, _ => rfl
  | 3, _ => rfl
  | 4, _ => rfl
  | 5, _ => rfl
  | 6, _ => rfl
  | 7, _ => rfl
  | 8, _ => rfl
  | 9, _ => rfl
  | 10, _ => rfl
  | 11, _ => rfl
  | 12, _ => rfl
  | 13, _ => rfl
  | 14, _ => rfl
  | j + 15, h => absurd h (by omega)
theorem dflX7 : ∀ j, j < 14 → defaultValue (tyX7 j) = vp_V [.null, .null, .int 0, .null, .null, .null, .null, .null, .null, .null, .int 0, .null, .null, .int 0] j := fun j hj => match j, hj with
  | 0, _ => rfl
  | 1, _ => rfl
  | 2, _ => rfl
  | 3, _ => rfl
  | 4, _ => rfl
  | 5, _ => rfl
  | 6, _ => rfl
  | 7, _ => rfl
  | 8, _ => rfl
  | 9, _ => rfl
  | 10, _ => rfl
  | 11, _ => rfl
  | 12, _ => rfl
  | 13, _ => rfl
  | j + 14, h => absurd h (by omega)
theorem dflX8 : ∀ j, j < 13 → defaultValue (tyX8 j) = vp_V [.null, .int 0, .null, .null, .null, .null, .null, .null, .null, .null, .null, .int 0, .int 0] j := fun j hj => match j, hj with
  | 0, _ => rfl
  | 1, _ => rfl
  | 2, _ => rfl
  | 3, _ => rfl
  | 4, _ => rfl
  | 5, _ => rfl
  | 6, _ => rfl
  | 7, _ => rfl
  | 8, _ => rfl
  | 9, _ => rfl
  | 10, _ => rfl
  | 11, _ => rfl
  | 12, _ => rfl
  | j + 13, h => absurd h (by omega)
theorem dflX9 : ∀ j, j < 80 → defaultValue (tyX9 j) = vp_V [.null, .int 0, .null, .int 0, .null, .int 0, .int 0, .int 0, .int 0, .int 0, .long 0, .int 0, .int 0, .int 0, .int 0, .int 0, .int 0, .null, .null, .null, .null, .int 0, .null, .null, .null, .null, .null, .null, .null, .int 0, .null, .null, .int 0, .null, .null, .int 0, .int 0, .int 0, .null, .null, .int 0, .int 0, .int 0, .null, .null, .null, .null, .null, .int 0, .null, .null, .null, .null, .null, .null, .null, .null, .null, .int 0, .null, .null, .null, .null, .null, .null, .null, .int 0, .null, .int 0, .null, .null, .null, .null, .null, .int 0, .null, .null, .int 0, .null, .null] j := fun j hj => match j, hj with
  | 0, _ => rfl
  | 1, _ => rfl
  | 2, _ => rfl
  | 3, _ => rfl
  | 4, _ => rfl
  | 5, _ => rfl
  | 6, _ => rfl
  | 7, _ => rfl
  | 8, _ => rfl
  | 9, _ => rfl
  | 10, _ => rfl
  | 11, _ => rfl
  | 12, _ => rfl
  | 13, _ => rfl
  | 14, _ => rfl
  | 15, _ => rfl
  | 16, _ => rfl
  | 17, _ => rfl
  | 18, _ => rfl
  | 19, _ => rfl
  | 20, _ => rfl
  | 21, _ => rfl
  | 22, _ => rfl
  | 23, _ => rfl
  | 24, _ => rfl
  | 25, _ => rfl
  | 26, _ => rfl
  | 27, _ => rfl
  | 28, _ => rfl
  | 29, _ => rfl
  | 30, _ => rfl
  | 31, _ => rfl
  | 32, _ => rfl
  | 33, _ => rfl
  | 34, _ => rfl
  | 35, _ => rfl
  | 36, _ => rfl
  | 37, _ => rfl
  | 38, _ => rfl
  | 39, _ => rfl
  | 40, _ => rfl
  | 41, _ => rfl
  | 42, _ => rfl
  | 43, _ => rfl
  | 44, _ => rfl
  | 45, _ => rfl
  | 46, _ => rfl
  | 47, _ => rfl
  | 48, _ => rfl
  | 49, _ => rfl
  | 50, _ => rfl
  | 51, _ => rfl
  | 52, _ => rfl
  | 53, _ => rfl
  | 54, _ => rfl
  | 55, _ => rfl
  | 56, _ => rfl
  | 57, _ => rfl
  | 58, _ => rfl
  | 59, _ => rfl
  | 60, _ => rfl
  | 61, _ => rfl
  | 62, _ => rfl
  | 63, _ => rfl
  | 64, _ => rfl
  | 65, _ => rfl
  | 66, _ => rfl
  | 67, _ => rfl
  | 68, _ => rfl
  | 69, _ => rfl
  | 70, _ => rfl
  | 71, _ => rfl
  | 72, _ => rfl
  | 73, _ => rfl
  | 74, _ => rfl
  | 75, _ => rfl
  | 76, _ => rfl
  | 77, _ => rfl
  | 78, _ => rfl
  | 79, _ => rfl
  | j + 80, h => absurd h (by omega)
end
section
set_option maxHeartbeats 4000000 in
set_option maxRecDepth 100000 in
theorem c_X1_init (l : Launch) (dC : Nat → ClassId) (dI : Nat → Nat → Nat) (h0 : Nat) (sz : Nat) : Met l yX1_init wyX1_init ({ frames := 1, cells := 15, slots := 8622, locals := 12 }) (va_Pc [.ref h0] (fun U => U.heap.size = sz ∧ va_P (dC, dI) vwCl [(h0, .inr (1, [.int 0, .null, .null, .null, .null, .null, .null, .int 0, .null, .null, .null, .null, .null, .null, .null, .null, .null, .int 0]))] U.heap ∧ va_K (dC, dI) vwCl [] U ∧ va_D (fun _ => True) [(h0, .inr (1, [.int 0, .null, .null, .null, .null, .null, .null, .int 0, .null, .null, .null, .null, .null, .null, .null, .null, .null, .int 0]))])) (va_Qv (fun _ : Unit => True) (fun _ t => ∃ (e0 : Nat), ∃ (e1 : Nat), ∃ (e2 : Nat), ∃ (e3 : Nat), ∃ (e4 : Nat), ∃ (e5 : Nat), ∃ (e6 : Nat), ∃ (e7 : Nat), ∃ (e8 : Nat), ∃ (e9 : Nat), ∃ (e10 : Nat), ∃ (e11 : Nat), ∃ (e12 : Nat), ∃ (e13 : Nat), ∃ (e14 : Nat), va_P (dC, dI) vwCl [(h0, .inr (1, [.int 0, .ref e0, .ref e1, .ref e2, .ref e3, .ref e4, .ref e5, .int 0, .ref e6, .ref e7, .ref e8, .ref e9, .ref e10, .ref e11, .ref e12, .ref e13, .ref e14, .int 0]))] t.heap ∧ va_K (dC, dI) vwCl [] t ∧ va_D (va_A [(h0, .inr (1, [.int 0, .null, .null, .null, .null, .null, .null, .int 0, .null, .null, .null, .null, .null, .null, .null, .null, .null, .int 0]))] sz) [(h0, .inr (1, [.int 0, .ref e0, .ref e1, .ref e2, .ref e3, .ref e4, .ref e5, .int 0, .ref e6, .ref e7, .ref e8, .ref e9, .ref e10, .ref e11, .ref e12, .ref e13, .ref e14, .int 0]))]) (va_A [(h0, .inr (1, [.int 0, .null, .null, .null, .null, .null, .null, .int 0, .null, .null, .null, .null, .null, .null, .null, .null, .null, .int 0]))] sz)) 15 8622 (va_A [(h0, .inr (1, [.int 0, .null, .null, .null, .null, .null, .null, .int 0, .null, .null, .null, .null, .null, .null, .null, .null, .null, .int 0]))] sz) := by
  refine Met.ofW (cc := cX1_init) (maxL := 1) (ret := none) (by decide) rfl ?_
  intro p e s m args below meth c s₁ B hml hv
  obtain ⟨rfl, hsz, hP, hK, hD0⟩ := hv
  have hx := B.exec
  have hb := B.bytes
  have hr := B.returns
  have hts := atoms_spec (ws := wyX1_init) B.pre
  have hg : ∀ w ∈ lw_G, w.before _ s = true := fun w h => hts w (List.mem_cons_of_mem _ h)
  have hown : s.vm.findClass RX1 = some m.cls := findClass_of_methodNamed B.named
  have hlocks := B.notSynchronized
  have hin : meth.name = "<init>" := (name_of_methodNamed B.named B.method).1
  subst hsz
  have hD := hD0.self (sz := s.heap.size)
  generalize hAe : va_A [(h0, .inr (1, [.int 0, .null, .null, .null, .null, .null, .null, .int 0, .null, .null, .null, .null, .null, .null, .null, .null, .null, .int 0]))] s.heap.size = A at hD ⊢
  have hA : ∀ q : Nat, s.heap.size ≤ q → A q := fun q h => by rw [← hAe]; exact Or.inr h
  have hS : va_S A s.heap s.heap [] := va_S.rf
  have hP : va_P (dC, dI) vwCl [(h0, .inr (1, [.int 0, .null, .null, .null, .null, .null, .null, .int 0, .null, .null, .null, .null, .null, .null, .null, .null, .null, .int 0]))] s.heap := hP
  have hl := lv_entry ([.ref h0]) (n := 1) (Nat.le_of_ble_eq_true rfl)
  rw [lg_entry_eq]
  generalize (lg_sl ([.ref h0]) ++ List.replicate (1 - (lg_sl ([.ref h0])).length) Slot.unset).toArray = ls at hl ⊢
  have hl : lv_has ls 1 [(0, .ref h0)] := hl
  refine lv_aload_n hx hb dX1_init_0 rfl (lv_at hl 0 rfl) ?_
  refine W.objInit hx hb hown (hg (.methodLink RX1 3 objectInit) gw_1_25) (hg (.instanceMethod objectInit) gw_1_18) (hg (.code objectInit ⟨#[0xb1]⟩ 1 none) gw_1_19) rfl (by rw [hml]; exact hl.1) rfl dX1_init_1 (Nat.le_of_ble_eq_true rfl) (Nat.le_of_ble_eq_true rfl) ?_
  refine W.eq (g2 := F0 m 4 ls []) rfl ?_
  refine lv_aload_n hx hb dX1_init_4 rfl (lv_at hl 0 rfl) ?_
  refine lv_iconst (v := 0) hx hb dX1_init_5 (by decide) ?_
  refine va_put (D := (dC, dI)) (ci := 1) (v := .int 0) (ty := .int) (C := RX1) (T := TX1) (N := 18) hx hb hg inG_X1 tyX1 tyX1_ok nmX1 hown hK hP hD hS 0 rfl rfl 0 (by decide) (hg (.fieldLink RX1 9 "AttributeDesk$Grammar" "symbolCount" "I") gw_1_26) (fun _ h9 => h9) rfl (by decide +kernel) rfl rfl (Nat.le_of_ble_eq_true rfl) dX1_init_6 (fun H locs hP hD hS => ?_)
  have hP : va_P (dC, dI) vwCl [(h0, .inr (1, [.int 0, .null, .null, .null, .null, .null, .null, .int 0, .null, .null, .null, .null, .null, .null, .null, .null, .null, .int 0]))] H := hP
  have hD : va_D A [(h0, .inr (1, [.int 0, .null, .null, .null, .null, .null, .null, .int 0, .null, .null, .null, .null, .null, .null, .null, .null, .null, .int 0]))] := hD
  refine lv_aload_n hx hb dX1_init_9 rfl (lv_at hl 0 rfl) ?_
  refine lv_bipush (v := 12) hx hb dX1_init_10 (by decide) ?_
  refine va_newa (atype := .long) (a0 := (12, .inr (.inl (fun _ => 0)))) hx hb (hg (.arrayClass .long) gw_1_111) rfl hK hP hD hS hA (fun _ => rfl) (by decide) (N' := 12) rfl (Nat.le_of_ble_eq_true rfl) (Nat.le_of_ble_eq_true rfl) (Nat.le_of_ble_eq_true rfl) dX1_init_12 (fun q12 cq12 H hK hP hD hS => ?_)
  have hK : va_K (dC, dI) vwCl [(cq12, .long)] s := hK
  have hP : va_P (dC, dI) vwCl [(h0, .inr (1, [.int 0, .null, .null, .null, .null, .null, .null, .int 0, .null, .null, .null, .null, .null, .null, .null, .null, .null, .int 0])), (q12, .inl (cq12, 12, .inr (.inl (fun _ => 0))))] H := hP
  have hD : va_D A [(h0, .inr (1, [.int 0, .null, .null, .null, .null, .null, .null, .int 0, .null, .null, .null, .null, .null, .null, .null, .null, .null, .int 0])), (q12, .inl (cq12, 12, .inr (.inl (fun _ => 0))))] := hD
  refine W.widen (k := 1) (n := 12) (Nat.le_of_ble_eq_true rfl) (Nat.le_of_ble_eq_true rfl) ?_
  refine va_putF (D := (dC, dI)) (ci := 1) (v := .ref q12) (ty := .array .long) (C := RX1) (T := TX1) (N := 18) hx hb hg inG_X1 tyX1 tyX1_ok nmX1 hown hK hP hD hS 0 rfl rfl 1 (by decide) (hg (.fieldLink RX1 15 "AttributeDesk$Grammar" "symbolNames" "[J") gw_1_30) (fun _ h9 => h9) rfl hin rfl (by decide +kernel) rfl rfl (Nat.le_of_ble_eq_true rfl) dX1_init_14 (fun H locs hP hD hS => ?_)
  have hP : va_P (dC, dI) vwCl [(h0, .inr (1, [.int 0, .ref q12, .null, .null, .null, .null, .null, .int 0, .null, .null, .null, .null, .null, .null, .null, .null, .null, .int 0])), (q12, .inl (cq12, 12, .inr (.inl (fun _ => 0))))] H := hP
  have hD : va_D A [(h0, .inr (1, [.int 0, .ref q12, .null, .null, .null, .null, .null, .int 0, .null, .null, .null, .null, .null, .null, .null, .null, .null, .int 0])), (q12, .inl (cq12, 12, .inr (.inl (fun _ => 0))))] := hD
  have hP := hP.sub (ws' := [(h0, .inr (1, [.int 0, .ref q12, .null, .null, .null, .null, .null, .int 0, .null, .null, .null, .null, .null, .null, .null, .null, .null, .int 0]))]) [0] rfl
  have hD := hD.sub (ws' := [(h0, .inr (1, [.int 0, .ref q12, .null, .null, .null, .null, .null, .int 0, .null, .null, .null, .null, .null, .null, .null, .null, .null, .int 0]))]) [0] (by decide) rfl
  have hK := hK.sub (tys' := []) [] rfl
  refine lv_aload_n hx hb dX1_init_17 rfl (lv_at hl 0 rfl) ?_
  refine lv_bipush (v := 12) hx hb dX1_init_18 (by decide) ?_
  refine va_newa (atype := .int) (a0 := (12, .inl (fun _ => 0))) hx hb (hg (.arrayClass .int) gw_1_112) rfl hK hP hD hS hA (fun _ => rfl) (by decide) (N' := 12) rfl (Nat.le_of_ble_eq_true rfl) (Nat.le_of_ble_eq_true rfl) (Nat.le_of_ble_eq_true rfl) dX1_init_20 (fun q20 cq20 H hK hP hD hS => ?_)
  have hK : va_K (dC, dI) vwCl [(cq20, .int)] s := hK
  have hP : va_P (dC, dI) vwCl [(h0, .inr (1, [.int 0, .ref q12, .null, .null, .null, .null, .null, .int 0, .null, .null, .null, .null, .null, .null, .null, .null, .null, .int 0])), (q20, .inl (cq20, 12, .inl (fun _ => 0)))] H := hP
  have hD : va_D A [(h0, .inr (1, [.int 0, .ref q12, .null, .null, .null, .null, .null, .int 0, .null, .null, .null, .null, .null, .null, .null, .null, .null, .int 0])), (q20, .inl (cq20, 12, .inl (fun _ => 0)))] := hD
  refine W.widen (k := 2) (n := 24) (Nat.le_of_ble_eq_true rfl) (Nat.le_of_ble_eq_true rfl) ?_
  refine va_putF (D := (dC, dI)) (ci := 1) (v := .ref q20) (ty := .array .int) (C := RX1) (T := TX1) (N := 18) hx hb hg inG_X1 tyX1 tyX1_ok nmX1 hown hK hP hD hS 0 rfl rfl 2 (by decide) (hg (.fieldLink RX1 19 "AttributeDesk$Grammar" "attributeCounts" "[I") gw_1_31) (fun _ h9 => h9) rfl hin rfl (by decide +kernel) rfl rfl (Nat.le_of_ble_eq_true rfl) dX1_init_22 (fun H locs hP hD hS => ?_)
  have hP : va_P (dC, dI) vwCl [(h0, .inr (1, [.int 0, .ref q12, .ref q20, .null, .null, .null, .null, .int 0, .null, .null, .null, .null, .null, .null, .null, .null, .null, .int 0])), (q20, .inl (cq20, 12, .inl (fun _ => 0)))] H := hP
  have hD : va_D A [(h0, .inr (1, [.int 0, .ref q12, .ref q20, .null, .null, .null, .null, .int 0, .null, .null, .null, .null, .null, .null, .null, .null, .null, .int 0])), (q20, .inl (cq20, 12, .inl (fun _ => 0)))] := hD
  have hP := hP.sub (ws' := [(h0, .inr (1, [.int 0, .ref q12, .ref q20, .null, .null, .null, .null, .int 0, .null, .null, .null, .null, .null, .null, .null, .null, .null, .int 0]))]) [0] rfl
  have hD := hD.sub (ws' := [(h0, .inr (1, [.int 0, .ref q12, .ref q20, .null, .null, .null, .null, .int 0, .null, .null, .null, .null, .null, .null, .null, .null, .null, .int 0]))]) [0] (by decide) rfl
  have hK := hK.sub (tys' := []) [] rfl
  refine lv_aload_n hx hb dX1_init_25 rfl (lv_at hl 0 rfl) ?_
  refine lv_bipush (v := 12) hx hb dX1_init_26 (by decide) ?_
  refine va_newa (atype := .int) (a0 := (12, .inl (fun _ => 0))) hx hb (hg (.arrayClass .int) gw_1_112) rfl hK hP hD hS hA (fun _ => rfl) (by decide) (N' := 12) rfl (Nat.le_of_ble_eq_true rfl) (Nat.le_of_ble_eq_true rfl) (Nat.le_of_ble_eq_true rfl) dX1_init_28 (fun q28 cq28 H hK hP hD hS => ?_)
  have hK : va_K (dC, dI) vwCl [(cq28, .int)] s := hK
  have hP : va_P (dC, dI) vwCl [(h0, .inr (1, [.int 0, .ref q12, .ref q20, .null, .null, .null, .null, .int 0, .null, .null, .null, .null, .null, .null, .null, .null, .null, .int 0])), (q28, .inl (cq28, 12, .inl (fun _ => 0)))] H := hP
  have hD : va_D A [(h0, .inr (1, [.int 0, .ref q12, .ref q20, .null, .null, .null, .null, .int 0, .null, .null, .null, .null, .null, .null, .null, .null, .null, .int 0])), (q28, .inl (cq28, 12, .inl (fun _ => 0)))] := hD
  refine W.widen (k := 3) (n := 36) (Nat.le_of_ble_eq_true rfl) (Nat.le_of_ble_eq_true rfl) ?_
  refine va_putF (D := (dC, dI)) (ci := 1) (v := .ref q28) (ty := .array .int) (C := RX1) (T := TX1) (N := 18) hx hb hg inG_X1 tyX1 tyX1_ok nmX1 hown hK hP hD hS 0 rfl rfl 3 (by decide) (hg (.fieldLink RX1 23 "AttributeDesk$Grammar" "inheritedCounts" "[I") gw_1_35) (fun _ h9 => h9) rfl hin rfl (by decide +kernel) rfl rfl (Nat.le_of_ble_eq_true rfl) dX1_init_30 (fun H locs hP hD hS => ?_)
  have hP : va_P (dC, dI) vwCl [(h0, .inr (1, [.int 0, .ref q12, .ref q20, .ref q28, .null, .null, .null, .int 0, .null, .null, .null, .null, .null, .null, .null, .null, .null, .int 0])), (q28, .inl (cq28, 12, .inl (fun _ => 0)))] H := hP
  have hD : va_D A [(h0, .inr (1, [.int 0, .ref q12, .ref q20, .ref q28, .null, .null, .null, .int 0, .null, .null, .null, .null, .null, .null, .null, .null, .null, .int 0])), (q28, .inl (cq28, 12, .inl (fun _ => 0)))] := hD
  have hP := hP.sub (ws' := [(h0, .inr (1, [.int 0, .ref q12, .ref q20, .ref q28, .null, .null, .null, .int 0, .null, .null, .null, .null, .null, .null, .null, .null, .null, .int 0]))]) [0] rfl
  have hD := hD.sub (ws' := [(h0, .inr (1, [.int 0, .ref q12, .ref q20, .ref q28, .null, .null, .null, .int 0, .null, .null, .null, .null, .null, .null, .null, .null, .null, .int 0]))]) [0] (by decide) rfl
  have hK := hK.sub (tys' := []) [] rfl
  refine lv_aload_n hx hb dX1_init_33 rfl (lv_at hl 0 rfl) ?_
  refine lv_bipush (v := 72) hx hb dX1_init_34 (by decide) ?_
  refine va_newa (atype := .long) (a0 := (72, .inr (.inl (fun _ => 0)))) hx hb (hg (.arrayClass .long) gw_1_111) rfl hK hP hD hS hA (fun _ => rfl) (by decide) (N' := 72) rfl (Nat.le_of_ble_eq_true rfl) (Nat.le_of_ble_eq_true rfl) (Nat.le_of_ble_eq_true rfl) dX1_init_36 (fun q36 cq36 H hK hP hD hS => ?_)
  have hK : va_K (dC, dI) vwCl [(cq36, .long)] s := hK
  have hP : va_P (dC, dI) vwCl [(h0, .inr (1, [.int 0, .ref q12, .ref q20, .ref q28, .null, .null, .null, .int 0, .null, .null, .null, .null, .null, .null, .null, .null, .null, .int 0])), (q36, .inl (cq36, 72, .inr (.inl (fun _ => 0))))] H := hP
  have hD : va_D A [(h0, .inr (1, [.int 0, .ref q12, .ref q20, .ref q28, .null, .null, .null, .int 0, .null, .null, .null, .null, .null, .null, .null, .null, .null, .int 0])), (q36, .inl (cq36, 72, .inr (.inl (fun _ => 0))))] := hD
  refine W.widen (k := 4) (n := 108) (Nat.le_of_ble_eq_true rfl) (Nat.le_of_ble_eq_true rfl) ?_
  refine va_putF (D := (dC, dI)) (ci := 1) (v := .ref q36) (ty := .array .long) (C := RX1) (T := TX1) (N := 18) hx hb hg inG_X1 tyX1 tyX1_ok nmX1 hown hK hP hD hS 0 rfl rfl 4 (by decide) (hg (.fieldLink RX1 26 "AttributeDesk$Grammar" "attributeNames" "[J") gw_1_38) (fun _ h9 => h9) rfl hin rfl (by decide +kernel) rfl rfl (Nat.le_of_ble_eq_true rfl) dX1_init_38 (fun H locs hP hD hS => ?_)
  have hP : va_P (dC, dI) vwCl [(h0, .inr (1, [.int 0, .ref q12, .ref q20, .ref q28, .ref q36, .null, .null, .int 0, .null, .null, .null, .null, .null, .null, .null, .null, .null, .int 0])), (q36, .inl (cq36, 72, .inr (.inl (fun _ => 0))))] H := hP
  have hD : va_D A [(h0, .inr (1, [.int 0, .ref q12, .ref q20, .ref q28, .ref q36, .null, .null, .int 0, .null, .null, .null, .null, .null, .null, .null, .null, .null, .int 0])), (q36, .inl (cq36, 72, .inr (.inl (fun _ => 0))))] := hD
  have hP := hP.sub (ws' := [(h0, .inr (1, [.int 0, .ref q12, .ref q20, .ref q28, .ref q36, .null, .null, .int 0, .null, .null, .null, .null, .null, .null, .null, .null, .null, .int 0]))]) [0] rfl
  have hD := hD.sub (ws' := [(h0, .inr (1, [.int 0, .ref q12, .ref q20, .ref q28, .ref q36, .null, .null, .int 0, .null, .null, .null, .null, .null, .null, .null, .null, .null, .int 0]))]) [0] (by decide) rfl
  have hK := hK.sub (tys' := []) [] rfl
  refine lv_aload_n hx hb dX1_init_41 rfl (lv_at hl 0 rfl) ?_
  refine lv_bipush (v := 72) hx hb dX1_init_42 (by decide) ?_
  refine va_newa (atype := .boolean) (a0 := (72, .inl (fun _ => 0))) hx hb (hg (.arrayClass .boolean) gw_1_113) rfl hK hP hD hS hA (fun _ => rfl) (by decide) (N' := 72) rfl (Nat.le_of_ble_eq_true rfl) (Nat.le_of_ble_eq_true rfl) (Nat.le_of_ble_eq_true rfl) dX1_init_44 (fun q44 cq44 H hK hP hD hS => ?_)
  have hK : va_K (dC, dI) vwCl [(cq44, .boolean)] s := hK
  have hP : va_P (dC, dI) vwCl [(h0, .inr (1, [.int 0, .ref q12, .ref q20, .ref q28, .ref q36, .null, .null, .int 0, .null, .null, .null, .null, .null, .null, .null, .null, .null, .int 0])), (q44, .inl (cq44, 72, .inl (fun _ => 0)))] H := hP
  have hD : va_D A [(h0, .inr (1, [.int 0, .ref q12, .ref q20, .ref q28, .ref q36, .null, .null, .int 0, .null, .null, .null, .null, .null, .null, .null, .null, .null, .int 0])), (q44, .inl (cq44, 72, .inl (fun _ => 0)))] := hD
  refine W.widen (k := 5) (n := 180) (Nat.le_of_ble_eq_true rfl) (Nat.le_of_ble_eq_true rfl) ?_
  refine va_putF (D := (dC, dI)) (ci := 1) (v := .ref q44) (ty := .array .boolean) (C := RX1) (T := TX1) (N := 18) hx hb hg inG_X1 tyX1 tyX1_ok nmX1 hown hK hP hD hS 0 rfl rfl 5 (by decide) (hg (.fieldLink RX1 29 "AttributeDesk$Grammar" "inherited" "[Z") gw_1_39) (fun _ h9 => h9) rfl hin rfl (by decide +kernel) rfl rfl (Nat.le_of_ble_eq_true rfl) dX1_init_46 (fun H locs hP hD hS => ?_)
  have hP : va_P (dC, dI) vwCl [(h0, .inr (1, [.int 0, .ref q12, .ref q20, .ref q28, .ref q36, .ref q44, .null, .int 0, .null, .null, .null, .null, .null, .null, .null, .null, .null, .int 0])), (q44, .inl (cq44, 72, .inl (fun _ => 0)))] H := hP
  have hD : va_D A [(h0, .inr (1, [.int 0, .ref q12, .ref q20, .ref q28, .ref q36, .ref q44, .null, .int 0, .null, .null, .null, .null, .null, .null, .null, .null, .null, .int 0])), (q44, .inl (cq44, 72, .inl (fun _ => 0)))] := hD
  have hP := hP.sub (ws' := [(h0, .inr (1, [.int 0, .ref q12, .ref q20, .ref q28, .ref q36, .ref q44, .null, .int 0, .null, .null, .null, .null, .null, .null, .null, .null, .null, .int 0]))]) [0] rfl
  have hD := hD.sub (ws' := [(h0, .inr (1, [.int 0, .ref q12, .ref q20, .ref q28, .ref q36, .ref q44, .null, .int 0, .null, .null, .null, .null, .null, .null, .null, .null, .null, .int 0]))]) [0] (by decide) rfl
  have hK := hK.sub (tys' := []) [] rfl
  refine lv_aload_n hx hb dX1_init_49 rfl (lv_at hl 0 rfl) ?_
  refine lv_bipush (v := 72) hx hb dX1_init_50 (by decide) ?_
  refine va_newa (atype := .int) (a0 := (72, .inl (fun _ => 0))) hx hb (hg (.arrayClass .int) gw_1_112) rfl hK hP hD hS hA (fun _ => rfl) (by decide) (N' := 72) rfl (Nat.le_of_ble_eq_true rfl) (Nat.le_of_ble_eq_true rfl) (Nat.le_of_ble_eq_true rfl) dX1_init_52 (fun q52 cq52 H hK hP hD hS => ?_)
  have hK : va_K (dC, dI) vwCl [(cq52, .int)] s := hK
  have hP : va_P (dC, dI) vwCl [(h0, .inr (1, [.int 0, .ref q12, .ref q20, .ref q28, .ref q36, .ref q44, .null, .int 0, .null, .null, .null, .null, .null, .null, .null, .null, .null, .int 0])), (q52, .inl (cq52, 72, .inl (fun _ => 0)))] H := hP
  have hD : va_D A [(h0, .inr (1, [.int 0, .ref q12, .ref q20, .ref q28, .ref q36, .ref q44, .null, .int 0, .null, .null, .null, .null, .null, .null, .null, .null, .null, .int 0])), (q52, .inl (cq52, 72, .inl (fun _ => 0)))] := hD
  refine W.widen (k := 6) (n := 252) (Nat.le_of_ble_eq_true rfl) (Nat.le_of_ble_eq_true rfl) ?_
  refine va_putF (D := (dC, dI)) (ci := 1) (v := .ref q52) (ty := .array .int) (C := RX1) (T := TX1) (N := 18) hx hb hg inG_X1 tyX1 tyX1_ok nmX1 hown hK hP hD hS 0 rfl rfl 6 (by decide) (hg (.fieldLink RX1 33 "AttributeDesk$Grammar" "ranks" "[I") gw_1_40) (fun _ h9 => h9) rfl hin rfl (by decide +kernel) rfl rfl (Nat.le_of_ble_eq_true rfl) dX1_init_54 (fun H locs hP hD hS => ?_)
  have hP : va_P (dC, dI) vwCl [(h0, .inr (1, [.int 0, .ref q12, .ref q20, .ref q28, .ref q36, .ref q44, .ref q52, .int 0, .null, .null, .null, .null, .null, .null, .null, .null, .null, .int 0])), (q52, .inl (cq52, 72, .inl (fun _ => 0)))] H := hP
  have hD : va_D A [(h0, .inr (1, [.int 0, .ref q12, .ref q20, .ref q28, .ref q36, .ref q44, .ref q52, .int 0, .null, .null, .null, .null, .null, .null, .null, .null, .null, .int 0])), (q52, .inl (cq52, 72, .inl (fun _ => 0)))] := hD
  have hP := hP.sub (ws' := [(h0, .inr (1, [.int 0, .ref q12, .ref q20, .ref q28, .ref q36, .ref q44, .ref q52, .int 0, .null, .null, .null, .null, .null, .null, .null, .null, .null, .int 0]))]) [0] rfl
  have hD := hD.sub (ws' := [(h0, .inr (1, [.int 0, .ref q12, .ref q20, .ref q28, .ref q36, .ref q44, .ref q52, .int 0, .null, .null, .null, .null, .null, .null, .null, .null, .null, .int 0]))]) [0] (by decide) rfl
  have hK := hK.sub (tys' := []) [] rfl
  refine lv_aload_n hx hb dX1_init_57 rfl (lv_at hl 0 rfl) ?_
  refine lv_iconst (v := 0) hx hb dX1_init_58 (by decide) ?_
  refine va_put (D := (dC, dI)) (ci := 1) (v := .int 0) (ty := .int) (C := RX1) (T := TX1) (N := 18) hx hb hg inG_X1 tyX1 tyX1_ok nmX1 hown hK hP hD hS 0 rfl rfl 7 (by decide) (hg (.fieldLink RX1 36 "AttributeDesk$Grammar" "ruleCount" "I") gw_1_41) (fun _ h9 => h9) rfl (by decide +kernel) rfl rfl (Nat.le_of_ble_eq_true rfl) dX1_init_59 (fun H locs hP hD hS => ?_)
  have hP : va_P (dC, dI) vwCl [(h0, .inr (1, [.int 0, .ref q12, .ref q20, .ref q28, .ref q36, .ref q44, .ref q52, .int 0, .null, .null, .null, .null, .null, .null, .null, .null, .null, .int 0]))] H := hP
  have hD : va_D A [(h0, .inr (1, [.int 0, .ref q12, .ref q20, .ref q28, .ref q36, .ref q44, .ref q52, .int 0, .null, .null, .null, .null, .null, .null, .null, .null, .null, .int 0]))] := hD
  refine lv_aload_n hx hb dX1_init_62 rfl (lv_at hl 0 rfl) ?_
  refine lv_bipush (v := 30) hx hb dX1_init_63 (by decide) ?_
  refine va_newa (atype := .long) (a0 := (30, .inr (.inl (fun _ => 0)))) hx hb (hg (.arrayClass .long) gw_1_111) rfl hK hP hD hS hA (fun _ => rfl) (by decide) (N' := 30) rfl (Nat.le_of_ble_eq_true rfl) (Nat.le_of_ble_eq_true rfl) (Nat.le_of_ble_eq_true rfl) dX1_init_65 (fun q65 cq65 H hK hP hD hS => ?_)
  have hK : va_K (dC, dI) vwCl [(cq65, .long)] s := hK
  have hP : va_P (dC, dI) vwCl [(h0, .inr (1, [.int 0, .ref q12, .ref q20, .ref q28, .ref q36, .ref q44, .ref q52, .int 0, .null, .null, .null, .null, .null, .null, .null, .null, .null, .int 0])), (q65, .inl (cq65, 30, .inr (.inl (fun _ => 0))))] H := hP
  have hD : va_D A [(h0, .inr (1, [.int 0, .ref q12, .ref q20, .ref q28, .ref q36, .ref q44, .ref q52, .int 0, .null, .null, .null, .null, .null, .null, .null, .null, .null, .int 0])), (q65, .inl (cq65, 30, .inr (.inl (fun _ => 0))))] := hD
  refine W.widen (k := 7) (n := 282) (Nat.le_of_ble_eq_true rfl) (Nat.le_of_ble_eq_true rfl) ?_
  refine va_putF (D := (dC, dI)) (ci := 1) (v := .ref q65) (ty := .array .long) (C := RX1) (T := TX1) (N := 18) hx hb hg inG_X1 tyX1 tyX1_ok nmX1 hown hK hP hD hS 0 rfl rfl 8 (by decide) (hg (.fieldLink RX1 39 "AttributeDesk$Grammar" "ruleNames" "[J") gw_1_45) (fun _ h9 => h9) rfl hin rfl (by decide +kernel) rfl rfl (Nat.le_of_ble_eq_true rfl) dX1_init_67 (fun H locs hP hD hS => ?_)
  have hP : va_P (dC, dI) vwCl [(h0, .inr (1, [.int 0, .ref q12, .ref q20, .ref q28, .ref q36, .ref q44, .ref q52, .int 0, .ref q65, .null, .null, .null, .null, .null, .null, .null, .null, .int 0])), (q65, .inl (cq65, 30, .inr (.inl (fun _ => 0))))] H := hP
  have hD : va_D A [(h0, .inr (1, [.int 0, .ref q12, .ref q20, .ref q28, .ref q36, .ref q44, .ref q52, .int 0, .ref q65, .null, .null, .null, .null, .null, .null, .null, .null, .int 0])), (q65, .inl (cq65, 30, .inr (.inl (fun _ => 0))))] := hD
  have hP := hP.sub (ws' := [(h0, .inr (1, [.int 0, .ref q12, .ref q20, .ref q28, .ref q36, .ref q44, .ref q52, .int 0, .ref q65, .null, .null, .null, .null, .null, .null, .null, .null, .int 0]))]) [0] rfl
  have hD := hD.sub (ws' := [(h0, .inr (1, [.int 0, .ref q12, .ref q20, .ref q28, .ref q36, .ref q44, .ref q52, .int 0, .ref q65, .null, .null, .null, .null, .null, .null, .null, .null, .int 0]))]) [0] (by decide) rfl
  have hK := hK.sub (tys' := []) [] rfl
  refine lv_aload_n hx hb dX1_init_70 rfl (lv_at hl 0 rfl) ?_
  refine lv_bipush (v := 120) hx hb dX1_init_71 (by decide) ?_
  refine va_newa (atype := .int) (a0 := (120, .inl (fun _ => 0))) hx hb (hg (.arrayClass .int) gw_1_112) rfl hK hP hD hS hA (fun _ => rfl) (by decide) (N' := 120) rfl (Nat.le_of_ble_eq_true rfl) (Nat.le_of_ble_eq_true rfl) (Nat.le_of_ble_eq_true rfl) dX1_init_73 (fun q73 cq73 H hK hP hD hS => ?_)
  have hK : va_K (dC, dI) vwCl [(cq73, .int)] s := hK
  have hP : va_P (dC, dI) vwCl [(h0, .inr (1, [.int 0, .ref q12, .ref q20, .ref q28, .ref q36, .ref q44, .ref q52, .int 0, .ref q65, .null, .null, .null, .null, .null, .null, .null, .null, .int 0])), (q73, .inl (cq73, 120, .inl (fun _ => 0)))] H := hP
  have hD : va_D A [(h0, .inr (1, [.int 0, .ref q12, .ref q20, .ref q28, .ref q36, .ref q44, .ref q52, .int 0, .ref q65, .null, .null, .null, .null, .null, .null, .null, .null, .int 0])), (q73, .inl (cq73, 120, .inl (fun _ => 0)))] := hD
  refine W.widen (k := 8) (n := 402) (Nat.le_of_ble_eq_true rfl) (Nat.le_of_ble_eq_true rfl) ?_
  refine va_putF (D := (dC, dI)) (ci := 1) (v := .ref q73) (ty := .array .int) (C := RX1) (T := TX1) (N := 18) hx hb hg inG_X1 tyX1 tyX1_ok nmX1 hown hK hP hD hS 0 rfl rfl 9 (by decide) (hg (.fieldLink RX1 42 "AttributeDesk$Grammar" "ruleSymbols" "[I") gw_1_46) (fun _ h9 => h9) rfl hin rfl (by decide +kernel) rfl rfl (Nat.le_of_ble_eq_true rfl) dX1_init_75 (fun H locs hP hD hS => ?_)
  have hP : va_P (dC, dI) vwCl [(h0, .inr (1, [.int 0, .ref q12, .ref q20, .ref q28, .ref q36, .ref q44, .ref q52, .int 0, .ref q65, .ref q73, .null, .null, .null, .null, .null, .null, .null, .int 0])), (q73, .inl (cq73, 120, .inl (fun _ => 0)))] H := hP
  have hD : va_D A [(h0, .inr (1, [.int 0, .ref q12, .ref q20, .ref q28, .ref q36, .ref q44, .ref q52, .int 0, .ref q65, .ref q73, .null, .null, .null, .null, .null, .null, .null, .int 0])), (q73, .inl (cq73, 120, .inl (fun _ => 0)))] := hD
  have hP := hP.sub (ws' := [(h0, .inr (1, [.int 0, .ref q12, .ref q20, .ref q28, .ref q36, .ref q44, .ref q52, .int 0, .ref q65, .ref q73, .null, .null, .null, .null, .null, .null, .null, .int 0]))]) [0] rfl
  have hD := hD.sub (ws' := [(h0, .inr (1, [.int 0, .ref q12, .ref q20, .ref q28, .ref q36, .ref q44, .ref q52, .int 0, .ref q65, .ref q73, .null, .null, .null, .null, .null, .null, .null, .int 0]))]) [0] (by decide) rfl
  have hK := hK.sub (tys' := []) [] rfl
  refine lv_aload_n hx hb dX1_init_78 rfl (lv_at hl 0 rfl) ?_
  refine lv_bipush (v := 30) hx hb dX1_init_79 (by decide) ?_
  refine va_newa (atype := .int) (a0 := (30, .inl (fun _ => 0))) hx hb (hg (.arrayClass .int) gw_1_112) rfl hK hP hD hS hA (fun _ => rfl) (by decide) (N' := 30) rfl (Nat.le_of_ble_eq_true rfl) (Nat.le_of_ble_eq_true rfl) (Nat.le_of_ble_eq_true rfl) dX1_init_81 (fun q81 cq81 H hK hP hD hS => ?_)
  have hK : va_K (dC, dI) vwCl [(cq81, .int)] s := hK
  have hP : va_P (dC, dI) vwCl [(h0, .inr (1, [.int 0, .ref q12, .ref q20, .ref q28, .ref q36, .ref q44, .ref q52, .int 0, .ref q65, .ref q73, .null, .null, .null, .null, .null, .null, .null, .int 0])), (q81, .inl (cq81, 30, .inl (fun _ => 0)))] H := hP
  have hD : va_D A [(h0, .inr (1, [.int 0, .ref q12, .ref q20, .ref q28, .ref q36, .ref q44, .ref q52, .int 0, .ref q65, .ref q73, .null, .null, .null, .null, .null, .null, .null, .int 0])), (q81, .inl (cq81, 30, .inl (fun _ => 0)))] := hD
  refine W.widen (k := 9) (n := 432) (Nat.le_of_ble_eq_true rfl) (Nat.le_of_ble_eq_true rfl) ?_
  refine va_putF (D := (dC, dI)) (ci := 1) (v := .ref q81) (ty := .array .int) (C := RX1) (T := TX1) (N := 18) hx hb hg inG_X1 tyX1 tyX1_ok nmX1 hown hK hP hD hS 0 rfl rfl 10 (by decide) (hg (.fieldLink RX1 45 "AttributeDesk$Grammar" "childCounts" "[I") gw_1_48) (fun _ h9 => h9) rfl hin rfl (by decide +kernel) rfl rfl (Nat.le_of_ble_eq_true rfl) dX1_init_83 (fun H locs hP hD hS => ?_)
  have hP : va_P (dC, dI) vwCl [(h0, .inr (1, [.int 0, .ref q12, .ref q20, .ref q28, .ref q36, .ref q44, .ref q52, .int 0, .ref q65, .ref q73, .ref q81, .null, .null, .null, .null, .null, .null, .int 0])), (q81, .inl (cq81, 30, .inl (fun _ => 0)))] H := hP
  have hD : va_D A [(h0, .inr (1, [.int 0, .ref q12, .ref q20, .ref q28, .ref q36, .ref q44, .ref q52, .int 0, .ref q65, .ref q73, .ref q81, .null, .null, .null, .null, .null, .null, .int 0])), (q81, .inl (cq81, 30, .inl (fun _ => 0)))] := hD
  have hP := hP.sub (ws' := [(h0, .inr (1, [.int 0, .ref q12, .ref q20, .ref q28, .ref q36, .ref q44, .ref q52, .int 0, .ref q65, .ref q73, .ref q81, .null, .null, .null, .null, .null, .null, .int 0]))]) [0] rfl
  have hD := hD.sub (ws' := [(h0, .inr (1, [.int 0, .ref q12, .ref q20, .ref q28, .ref q36, .ref q44, .ref q52, .int 0, .ref q65, .ref q73, .ref q81, .null, .null, .null, .null, .null, .null, .int 0]))]) [0] (by decide) rfl
  have hK := hK.sub (tys' := []) [] rfl
  refine lv_aload_n hx hb dX1_init_86 rfl (lv_at hl 0 rfl) ?_
  refine lv_bipush (v := 30) hx hb dX1_init_87 (by decide) ?_
  refine va_newa (atype := .int) (a0 := (30, .inl (fun _ => 0))) hx hb (hg (.arrayClass .int) gw_1_112) rfl hK hP hD hS hA (fun _ => rfl) (by decide) (N' := 30) rfl (Nat.le_of_ble_eq_true rfl) (Nat.le_of_ble_eq_true rfl) (Nat.le_of_ble_eq_true rfl) dX1_init_89 (fun q89 cq89 H hK hP hD hS => ?_)
  have hK : va_K (dC, dI) vwCl [(cq89, .int)] s := hK
  have hP : va_P (dC, dI) vwCl [(h0, .inr (1, [.int 0, .ref q12, .ref q20, .ref q28, .ref q36, .ref q44, .ref q52, .int 0, .ref q65, .ref q73, .ref q81, .null, .null, .null, .null, .null, .null, .int 0])), (q89, .inl (cq89, 30, .inl (fun _ => 0)))] H := hP
  have hD : va_D A [(h0, .inr (1, [.int 0, .ref q12, .ref q20, .ref q28, .ref q36, .ref q44, .ref q52, .int 0, .ref q65, .ref q73, .ref q81, .null, .null, .null, .null, .null, .null, .int 0])), (q89, .inl (cq89, 30, .inl (fun _ => 0)))] := hD
  refine W.widen (k := 10) (n := 462) (Nat.le_of_ble_eq_true rfl) (Nat.le_of_ble_eq_true rfl) ?_
  refine va_putF (D := (dC, dI)) (ci := 1) (v := .ref q89) (ty := .array .int) (C := RX1) (T := TX1) (N := 18) hx hb hg inG_X1 tyX1 tyX1_ok nmX1 hown hK hP hD hS 0 rfl rfl 11 (by decide) (hg (.fieldLink RX1 48 "AttributeDesk$Grammar" "equationCounts" "[I") gw_1_54) (fun _ h9 => h9) rfl hin rfl (by decide +kernel) rfl rfl (Nat.le_of_ble_eq_true rfl) dX1_init_91 (fun H locs hP hD hS => ?_)
  have hP : va_P (dC, dI) vwCl [(h0, .inr (1, [.int 0, .ref q12, .ref q20, .ref q28, .ref q36, .ref q44, .ref q52, .int 0, .ref q65, .ref q73, .ref q81, .ref q89, .null, .null, .null, .null, .null, .int 0])), (q89, .inl (cq89, 30, .inl (fun _ => 0)))] H := hP
  have hD : va_D A [(h0, .inr (1, [.int 0, .ref q12, .ref q20, .ref q28, .ref q36, .ref q44, .ref q52, .int 0, .ref q65, .ref q73, .ref q81, .ref q89, .null, .null, .null, .null, .null, .int 0])), (q89, .inl (cq89, 30, .inl (fun _ => 0)))] := hD
  have hP := hP.sub (ws' := [(h0, .inr (1, [.int 0, .ref q12, .ref q20, .ref q28, .ref q36, .ref q44, .ref q52, .int 0, .ref q65, .ref q73, .ref q81, .ref q89, .null, .null, .null, .null, .null, .int 0]))]) [0] rfl
  have hD := hD.sub (ws' := [(h0, .inr (1, [.int 0, .ref q12, .ref q20, .ref q28, .ref q36, .ref q44, .ref q52, .int 0, .ref q65, .ref q73, .ref q81, .ref q89, .null, .null, .null, .null, .null, .int 0]))]) [0] (by decide) rfl
  have hK := hK.sub (tys' := []) [] rfl
  refine lv_aload_n hx hb dX1_init_94 rfl (lv_at hl 0 rfl) ?_
  refine lv_sipush (v := 720) hx hb dX1_init_95 (by decide) ?_
  refine va_newa (atype := .int) (a0 := (720, .inl (fun _ => 0))) hx hb (hg (.arrayClass .int) gw_1_112) rfl hK hP hD hS hA (fun _ => rfl) (by decide) (N' := 720) rfl (Nat.le_of_ble_eq_true rfl) (Nat.le_of_ble_eq_true rfl) (Nat.le_of_ble_eq_true rfl) dX1_init_98 (fun q98 cq98 H hK hP hD hS => ?_)
  have hK : va_K (dC, dI) vwCl [(cq98, .int)] s := hK
  have hP : va_P (dC, dI) vwCl [(h0, .inr (1, [.int 0, .ref q12, .ref q20, .ref q28, .ref q36, .ref q44, .ref q52, .int 0, .ref q65, .ref q73, .ref q81, .ref q89, .null, .null, .null, .null, .null, .int 0])), (q98, .inl (cq98, 720, .inl (fun _ => 0)))] H := hP
  have hD : va_D A [(h0, .inr (1, [.int 0, .ref q12, .ref q20, .ref q28, .ref q36, .ref q44, .ref q52, .int 0, .ref q65, .ref q73, .ref q81, .ref q89, .null, .null, .null, .null, .null, .int 0])), (q98, .inl (cq98, 720, .inl (fun _ => 0)))] := hD
  refine W.widen (k := 11) (n := 1182) (Nat.le_of_ble_eq_true rfl) (Nat.le_of_ble_eq_true rfl) ?_
  refine va_putF (D := (dC, dI)) (ci := 1) (v := .ref q98) (ty := .array .int) (C := RX1) (T := TX1) (N := 18) hx hb hg inG_X1 tyX1 tyX1_ok nmX1 hown hK hP hD hS 0 rfl rfl 12 (by decide) (hg (.fieldLink RX1 51 "AttributeDesk$Grammar" "codeStarts" "[I") gw_1_57) (fun _ h9 => h9) rfl hin rfl (by decide +kernel) rfl rfl (Nat.le_of_ble_eq_true rfl) dX1_init_100 (fun H locs hP hD hS => ?_)
  have hP : va_P (dC, dI) vwCl [(h0, .inr (1, [.int 0, .ref q12, .ref q20, .ref q28, .ref q36, .ref q44, .ref q52, .int 0, .ref q65, .ref q73, .ref q81, .ref q89, .ref q98, .null, .null, .null, .null, .int 0])), (q98, .inl (cq98, 720, .inl (fun _ => 0)))] H := hP
  have hD : va_D A [(h0, .inr (1, [.int 0, .ref q12, .ref q20, .ref q28, .ref q36, .ref q44, .ref q52, .int 0, .ref q65, .ref q73, .ref q81, .ref q89, .ref q98, .null, .null, .null, .null, .int 0])), (q98, .inl (cq98, 720, .inl (fun _ => 0)))] := hD
  have hP := hP.sub (ws' := [(h0, .inr (1, [.int 0, .ref q12, .ref q20, .ref q28, .ref q36, .ref q44, .ref q52, .int 0, .ref q65, .ref q73, .ref q81, .ref q89, .ref q98, .null, .null, .null, .null, .int 0]))]) [0] rfl
  have hD := hD.sub (ws' := [(h0, .inr (1, [.int 0, .ref q12, .ref q20, .ref q28, .ref q36, .ref q44, .ref q52, .int 0, .ref q65, .ref q73, .ref q81, .ref q89, .ref q98, .null, .null, .null, .null, .int 0]))]) [0] (by decide) rfl
  have hK := hK.sub (tys' := []) [] rfl
  refine lv_aload_n hx hb dX1_init_103 rfl (lv_at hl 0 rfl) ?_
  refine lv_sipush (v := 720) hx hb dX1_init_104 (by decide) ?_
  refine va_newa (atype := .int) (a0 := (720, .inl (fun _ => 0))) hx hb (hg (.arrayClass .int) gw_1_112) rfl hK hP hD hS hA (fun _ => rfl) (by decide) (N' := 720) rfl (Nat.le_of_ble_eq_true rfl) (Nat.le_of_ble_eq_true rfl) (Nat.le_of_ble_eq_true rfl) dX1_init_107 (fun q107 cq107 H hK hP hD hS => ?_)
  have hK : va_K (dC, dI) vwCl [(cq107, .int)] s := hK
  have hP : va_P (dC, dI) vwCl [(h0, .inr (1, [.int 0, .ref q12, .ref q20, .ref q28, .ref q36, .ref q44, .ref q52, .int 0, .ref q65, .ref q73, .ref q81, .ref q89, .ref q98, .null, .null, .null, .null, .int 0])), (q107, .inl (cq107, 720, .inl (fun _ => 0)))] H := hP
  have hD : va_D A [(h0, .inr (1, [.int 0, .ref q12, .ref q20, .ref q28, .ref q36, .ref q44, .ref q52, .int 0, .ref q65, .ref q73, .ref q81, .ref q89, .ref q98, .null, .null, .null, .null, .int 0])), (q107, .inl (cq107, 720, .inl (fun _ => 0)))] := hD
  refine W.widen (k := 12) (n := 1902) (Nat.le_of_ble_eq_true rfl) (Nat.le_of_ble_eq_true rfl) ?_
  refine va_putF (D := (dC, dI)) (ci := 1) (v := .ref q107) (ty := .array .int) (C := RX1) (T := TX1) (N := 18) hx hb hg inG_X1 tyX1 tyX1_ok nmX1 hown hK hP hD hS 0 rfl rfl 13 (by decide) (hg (.fieldLink RX1 54 "AttributeDesk$Grammar" "codeEnds" "[I") gw_1_61) (fun _ h9 => h9) rfl hin rfl (by decide +kernel) rfl rfl (Nat.le_of_ble_eq_true rfl) dX1_init_109 (fun H locs hP hD hS => ?_)
  have hP : va_P (dC, dI) vwCl [(h0, .inr (1, [.int 0, .ref q12, .ref q20, .ref q28, .ref q36, .ref q44, .ref q52, .int 0, .ref q65, .ref q73, .ref q81, .ref q89, .ref q98, .ref q107, .null, .null, .null, .int 0])), (q107, .inl (cq107, 720, .inl (fun _ => 0)))] H := hP
  have hD : va_D A [(h0, .inr (1, [.int 0, .ref q12, .ref q20, .ref q28, .ref q36, .ref q44, .ref q52, .int 0, .ref q65, .ref q73, .ref q81, .ref q89, .ref q98, .ref q107, .null, .null, .null, .int 0])), (q107, .inl (cq107, 720, .inl (fun _ => 0)))] := hD
  have hP := hP.sub (ws' := [(h0, .inr (1, [.int 0, .ref q12, .ref q20, .ref q28, .ref q36, .ref q44, .ref q52, .int 0, .ref q65, .ref q73, .ref q81, .ref q89, .ref q98, .ref q107, .null, .null, .null, .int 0]))]) [0] rfl
  have hD := hD.sub (ws' := [(h0, .inr (1, [.int 0, .ref q12, .ref q20, .ref q28, .ref q36, .ref q44, .ref q52, .int 0, .ref q65, .ref q73, .ref q81, .ref q89, .ref q98, .ref q107, .null, .null, .null, .int 0]))]) [0] (by decide) rfl
  have hK := hK.sub (tys' := []) [] rfl
  refine lv_aload_n hx hb dX1_init_112 rfl (lv_at hl 0 rfl) ?_
  refine lv_sipush (v := 720) hx hb dX1_init_113 (by decide) ?_
  refine va_newa (atype := .int) (a0 := (720, .inl (fun _ => 0))) hx hb (hg (.arrayClass .int) gw_1_112) rfl hK hP hD hS hA (fun _ => rfl) (by decide) (N' := 720) rfl (Nat.le_of_ble_eq_true rfl) (Nat.le_of_ble_eq_true rfl) (Nat.le_of_ble_eq_true rfl) dX1_init_116 (fun q116 cq116 H hK hP hD hS => ?_)
  have hK : va_K (dC, dI) vwCl [(cq116, .int)] s := hK
  have hP : va_P (dC, dI) vwCl [(h0, .inr (1, [.int 0, .ref q12, .ref q20, .ref q28, .ref q36, .ref q44, .ref q52, .int 0, .ref q65, .ref q73, .ref q81, .ref q89, .ref q98, .ref q107, .null, .null, .null, .int 0])), (q116, .inl (cq116, 720, .inl (fun _ => 0)))] H := hP
  have hD : va_D A [(h0, .inr (1, [.int 0, .ref q12, .ref q20, .ref q28, .ref q36, .ref q44, .ref q52, .int 0, .ref q65, .ref q73, .ref q81, .ref q89, .ref q98, .ref q107, .null, .null, .null, .int 0])), (q116, .inl (cq116, 720, .inl (fun _ => 0)))] := hD
  refine W.widen (k := 13) (n := 2622) (Nat.le_of_ble_eq_true rfl) (Nat.le_of_ble_eq_true rfl) ?_
  refine va_putF (D := (dC, dI)) (ci := 1) (v := .ref q116) (ty := .array .int) (C := RX1) (T := TX1) (N := 18) hx hb hg inG_X1 tyX1 tyX1_ok nmX1 hown hK hP hD hS 0 rfl rfl 14 (by decide) (hg (.fieldLink RX1 57 "AttributeDesk$Grammar" "hangs" "[I") gw_1_64) (fun _ h9 => h9) rfl hin rfl (by decide +kernel) rfl rfl (Nat.le_of_ble_eq_true rfl) dX1_init_118 (fun H locs hP hD hS => ?_)
  have hP : va_P (dC, dI) vwCl [(h0, .inr (1, [.int 0, .ref q12, .ref q20, .ref q28, .ref q36, .ref q44, .ref q52, .int 0, .ref q65, .ref q73, .ref q81, .ref q89, .ref q98, .ref q107, .ref q116, .null, .null, .int 0])), (q116, .inl (cq116, 720, .inl (fun _ => 0)))] H := hP
  have hD : va_D A [(h0, .inr (1, [.int 0, .ref q12, .ref q20, .ref q28, .ref q36, .ref q44, .ref q52, .int 0, .ref q65, .ref q73, .ref q81, .ref q89, .ref q98, .ref q107, .ref q116, .null, .null, .int 0])), (q116, .inl (cq116, 720, .inl (fun _ => 0)))] := hD
  have hP := hP.sub (ws' := [(h0, .inr (1, [.int 0, .ref q12, .ref q20, .ref q28, .ref q36, .ref q44, .ref q52, .int 0, .ref q65, .ref q73, .ref q81, .ref q89, .ref q98, .ref q107, .ref q116, .null, .null, .int 0]))]) [0] rfl
  have hD := hD.sub (ws' := [(h0, .inr (1, [.int 0, .ref q12, .ref q20, .ref q28, .ref q36, .ref q44, .ref q52, .int 0, .ref q65, .ref q73, .ref q81, .ref q89, .ref q98, .ref q107, .ref q116, .null, .null, .int 0]))]) [0] (by decide) rfl
  have hK := hK.sub (tys' := []) [] rfl
  refine lv_aload_n hx hb dX1_init_121 rfl (lv_at hl 0 rfl) ?_
  refine lv_sipush (v := 3000) hx hb dX1_init_122 (by decide) ?_
  refine va_newa (atype := .int) (a0 := (3000, .inl (fun _ => 0))) hx hb (hg (.arrayClass .int) gw_1_112) rfl hK hP hD hS hA (fun _ => rfl) (by decide) (N' := 3000) rfl (Nat.le_of_ble_eq_true rfl) (Nat.le_of_ble_eq_true rfl) (Nat.le_of_ble_eq_true rfl) dX1_init_125 (fun q125 cq125 H hK hP hD hS => ?_)
  have hK : va_K (dC, dI) vwCl [(cq125, .int)] s := hK
  have hP : va_P (dC, dI) vwCl [(h0, .inr (1, [.int 0, .ref q12, .ref q20, .ref q28, .ref q36, .ref q44, .ref q52, .int 0, .ref q65, .ref q73, .ref q81, .ref q89, .ref q98, .ref q107, .ref q116, .null, .null, .int 0])), (q125, .inl (cq125, 3000, .inl (fun _ => 0)))] H := hP
  have hD : va_D A [(h0, .inr (1, [.int 0, .ref q12, .ref q20, .ref q28, .ref q36, .ref q44, .ref q52, .int 0, .ref q65, .ref q73, .ref q81, .ref q89, .ref q98, .ref q107, .ref q116, .null, .null, .int 0])), (q125, .inl (cq125, 3000, .inl (fun _ => 0)))] := hD
  refine W.widen (k := 14) (n := 5622) (Nat.le_of_ble_eq_true rfl) (Nat.le_of_ble_eq_true rfl) ?_
  refine va_putF (D := (dC, dI)) (ci := 1) (v := .ref q125) (ty := .array .int) (C := RX1) (T := TX1) (N := 18) hx hb hg inG_X1 tyX1 tyX1_ok nmX1 hown hK hP hD hS 0 rfl rfl 15 (by decide) (hg (.fieldLink RX1 60 "AttributeDesk$Grammar" "operations" "[I") gw_1_67) (fun _ h9 => h9) rfl hin rfl (by decide +kernel) rfl rfl (Nat.le_of_ble_eq_true rfl) dX1_init_127 (fun H locs hP hD hS => ?_)
  have hP : va_P (dC, dI) vwCl [(h0, .inr (1, [.int 0, .ref q12, .ref q20, .ref q28, .ref q36, .ref q44, .ref q52, .int 0, .ref q65, .ref q73, .ref q81, .ref q89, .ref q98, .ref q107, .ref q116, .ref q125, .null, .int 0])), (q125, .inl (cq125, 3000, .inl (fun _ => 0)))] H := hP
  have hD : va_D A [(h0, .inr (1, [.int 0, .ref q12, .ref q20, .ref q28, .ref q36, .ref q44, .ref q52, .int 0, .ref q65, .ref q73, .ref q81, .ref q89, .ref q98, .ref q107, .ref q116, .ref q125, .null, .int 0])), (q125, .inl (cq125, 3000, .inl (fun _ => 0)))] := hD
  have hP := hP.sub (ws' := [(h0, .inr (1, [.int 0, .ref q12, .ref q20, .ref q28, .ref q36, .ref q44, .ref q52, .int 0, .ref q65, .ref q73, .ref q81, .ref q89, .ref q98, .ref q107, .ref q116, .ref q125, .null, .int 0]))]) [0] rfl
  have hD := hD.sub (ws' := [(h0, .inr (1, [.int 0, .ref q12, .ref q20, .ref q28, .ref q36, .ref q44, .ref q52, .int 0, .ref q65, .ref q73, .ref q81, .ref q89, .ref q98, .ref q107, .ref q116, .ref q125, .null, .int 0]))]) [0] (by decide) rfl
  have hK := hK.sub (tys' := []) [] rfl
  refine lv_aload_n hx hb dX1_init_130 rfl (lv_at hl 0 rfl) ?_
  refine lv_sipush (v := 3000) hx hb dX1_init_131 (by decide) ?_
  refine va_newa (atype := .int) (a0 := (3000, .inl (fun _ => 0))) hx hb (hg (.arrayClass .int) gw_1_112) rfl hK hP hD hS hA (fun _ => rfl) (by decide) (N' := 3000) rfl (Nat.le_of_ble_eq_true rfl) (Nat.le_of_ble_eq_true rfl) (Nat.le_of_ble_eq_true rfl) dX1_init_134 (fun q134 cq134 H hK hP hD hS => ?_)
  have hK : va_K (dC, dI) vwCl [(cq134, .int)] s := hK
  have hP : va_P (dC, dI) vwCl [(h0, .inr (1, [.int 0, .ref q12, .ref q20, .ref q28, .ref q36, .ref q44, .ref q52, .int 0, .ref q65, .ref q73, .ref q81, .ref q89, .ref q98, .ref q107, .ref q116, .ref q125, .null, .int 0])), (q134, .inl (cq134, 3000, .inl (fun _ => 0)))] H := hP
  have hD : va_D A [(h0, .inr (1, [.int 0, .ref q12, .ref q20, .ref q28, .ref q36, .ref q44, .ref q52, .int 0, .ref q65, .ref q73, .ref q81, .ref q89, .ref q98, .ref q107, .ref q116, .ref q125, .null, .int 0])), (q134, .inl (cq134, 3000, .inl (fun _ => 0)))] := hD
  refine W.widen (k := 15) (n := 8622) (Nat.le_of_ble_eq_true rfl) (Nat.le_of_ble_eq_true rfl) ?_
  refine va_putF (D := (dC, dI)) (ci := 1) (v := .ref q134) (ty := .array .int) (C := RX1) (T := TX1) (N := 18) hx hb hg inG_X1 tyX1 tyX1_ok nmX1 hown hK hP hD hS 0 rfl rfl 16 (by decide) (hg (.fieldLink RX1 63 "AttributeDesk$Grammar" "operands" "[I") gw_1_69) (fun _ h9 => h9) rfl hin rfl (by decide +kernel) rfl rfl (Nat.le_of_ble_eq_true rfl) dX1_init_136 (fun H locs hP hD hS => ?_)
  have hP : va_P (dC, dI) vwCl [(h0, .inr (1, [.int 0, .ref q12, .ref q20, .ref q28, .ref q36, .ref q44, .ref q52, .int 0, .ref q65, .ref q73, .ref q81, .ref q89, .ref q98, .ref q107, .ref q116, .ref q125, .ref q134, .int 0])), (q134, .inl (cq134, 3000, .inl (fun _ => 0)))] H := hP
  have hD : va_D A [(h0, .inr (1, [.int 0, .ref q12, .ref q20, .ref q28, .ref q36, .ref q44, .ref q52, .int 0, .ref q65, .ref q73, .ref q81, .ref q89, .ref q98, .ref q107, .ref q116, .ref q125, .ref q134, .int 0])), (q134, .inl (cq134, 3000, .inl (fun _ => 0)))] := hD
  have hP := hP.sub (ws' := [(h0, .inr (1, [.int 0, .ref q12, .ref q20, .ref q28, .ref q36, .ref q44, .ref q52, .int 0, .ref q65, .ref q73, .ref q81, .ref q89, .ref q98, .ref q107, .ref q116, .ref q125, .ref q134, .int 0]))]) [0] rfl
  have hD := hD.sub (ws' := [(h0, .inr (1, [.int 0, .ref q12, .ref q20, .ref q28, .ref q36, .ref q44, .ref q52, .int 0, .ref q65, .ref q73, .ref q81, .ref q89, .ref q98, .ref q107, .ref q116, .ref q125, .ref q134, .int 0]))]) [0] (by decide) rfl
  have hK := hK.sub (tys' := []) [] rfl
  refine lv_aload_n hx hb dX1_init_139 rfl (lv_at hl 0 rfl) ?_
  refine lv_iconst (v := 0) hx hb dX1_init_140 (by decide) ?_
  refine va_put (D := (dC, dI)) (ci := 1) (v := .int 0) (ty := .int) (C := RX1) (T := TX1) (N := 18) hx hb hg inG_X1 tyX1 tyX1_ok nmX1 hown hK hP hD hS 0 rfl rfl 17 (by decide) (hg (.fieldLink RX1 66 "AttributeDesk$Grammar" "codeSize" "I") gw_1_71) (fun _ h9 => h9) rfl (by decide +kernel) rfl rfl (Nat.le_of_ble_eq_true rfl) dX1_init_141 (fun H locs hP hD hS => ?_)
  have hP : va_P (dC, dI) vwCl [(h0, .inr (1, [.int 0, .ref q12, .ref q20, .ref q28, .ref q36, .ref q44, .ref q52, .int 0, .ref q65, .ref q73, .ref q81, .ref q89, .ref q98, .ref q107, .ref q116, .ref q125, .ref q134, .int 0]))] H := hP
  have hD : va_D A [(h0, .inr (1, [.int 0, .ref q12, .ref q20, .ref q28, .ref q36, .ref q44, .ref q52, .int 0, .ref q65, .ref q73, .ref q81, .ref q89, .ref q98, .ref q107, .ref q116, .ref q125, .ref q134, .int 0]))] := hD
  have hP9 := hP.sub (ws' := [(h0, .inr (1, [.int 0, .ref q12, .ref q20, .ref q28, .ref q36, .ref q44, .ref q52, .int 0, .ref q65, .ref q73, .ref q81, .ref q89, .ref q98, .ref q107, .ref q116, .ref q125, .ref q134, .int 0]))]) [0] rfl
  have hD9 := hD.sub (ws' := [(h0, .inr (1, [.int 0, .ref q12, .ref q20, .ref q28, .ref q36, .ref q44, .ref q52, .int 0, .ref q65, .ref q73, .ref q81, .ref q89, .ref q98, .ref q107, .ref q116, .ref q125, .ref q134, .int 0]))]) [0] (by decide) rfl
  have hK9 := hK.sub (tys' := []) [] rfl
  refine W.widen (k := 15) (n := 8622) (Nat.le_of_ble_eq_true rfl) (Nat.le_of_ble_eq_true rfl) ?_
  exact W.vret hx hb hr (fun t ht hW => ⟨⟨(), rfl, trivial, q12, q20, q28, q36, q44, q52, q65, q73, q81, q89, q98, q107, q116, q125, q134, by rw [ht]; exact hP9, va_K.moved hW.alike hK9, hD9⟩, hS.F ht⟩) hS.2.2 dX1_init_144

set_option maxHeartbeats 4000000 in
set_option maxRecDepth 100000 in
theorem c_X4_init (l : Launch) (dC : Nat → ClassId) (dI : Nat → Nat → Nat) (h0 : Nat) (sz : Nat) : Met l yX4_init wyX4_init ({ frames := 1, cells := 5, slots := 1400, locals := 12 }) (va_Pc [.ref h0] (fun U => U.heap.size = sz ∧ va_P (dC, dI) vwCl [(h0, .inr (4, [.int 0, .null, .null, .null, .null, .null]))] U.heap ∧ va_K (dC, dI) vwCl [] U ∧ va_D (fun _ => True) [(h0, .inr (4, [.int 0, .null, .null, .null, .null, .null]))])) (va_Qv (fun _ : Unit => True) (fun _ t => ∃ (e0 : Nat), ∃ (e1 : Nat), ∃ (e2 : Nat), ∃ (e3 : Nat), ∃ (e4 : Nat), va_P (dC, dI) vwCl [(h0, .inr (4, [.int 0, .ref e0, .ref e1, .ref e2, .ref e3, .ref e4]))] t.heap ∧ va_K (dC, dI) vwCl [] t ∧ va_D (va_A [(h0, .inr (4, [.int 0, .null, .null, .null, .null, .null]))] sz) [(h0, .inr (4, [.int 0, .ref e0, .ref e1, .ref e2, .ref e3, .ref e4]))]) (va_A [(h0, .inr (4, [.int 0, .null, .null, .null, .null, .null]))] sz)) 5 1400 (va_A [(h0, .inr (4, [.int 0, .null, .null, .null, .null, .null]))] sz) := by
  refine Met.ofW (cc := cX4_init) (maxL := 1) (ret := none) (by decide) rfl ?_
  intro p e s m args below meth c s₁ B hml hv
  obtain ⟨rfl, hsz, hP, hK, hD0⟩ := hv
  have hx := B.exec
  have hb := B.bytes
  have hr := B.returns
  have hts := atoms_spec (ws := wyX4_init) B.pre
  have hg : ∀ w ∈ lw_G, w.before _ s = true := fun w h => hts w (List.mem_cons_of_mem _ h)
  have hown : s.vm.findClass RX4 = some m.cls := findClass_of_methodNamed B.named
  have hlocks := B.notSynchronized
  have hin : meth.name = "<init>" := (name_of_methodNamed B.named B.method).1
  subst hsz
  have hD := hD0.self (sz := s.heap.size)
  generalize hAe : va_A [(h0, .inr (4, [.int 0, .null, .null, .null, .null, .null]))] s.heap.size = A at hD ⊢
  have hA : ∀ q : Nat, s.heap.size ≤ q → A q := fun q h => by rw [← hAe]; exact Or.inr h
  have hS : va_S A s.heap s.heap [] := va_S.rf
  have hP : va_P (dC, dI) vwCl [(h0, .inr (4, [.int 0, .null, .null, .null, .null, .null]))] s.heap := hP
  have hl := lv_entry ([.ref h0]) (n := 1) (Nat.le_of_ble_eq_true rfl)
  rw [lg_entry_eq]
  generalize (lg_sl ([.ref h0]) ++ List.replicate (1 - (lg_sl ([.ref h0])).length) Slot.unset).toArray = ls at hl ⊢
  have hl : lv_has ls 1 [(0, .ref h0)] := hl
  refine lv_aload_n hx hb dX4_init_0 rfl (lv_at hl 0 rfl) ?_
  refine W.objInit hx hb hown (hg (.methodLink RX4 3 objectInit) gw_1_119) (hg (.instanceMethod objectInit) gw_1_18) (hg (.code objectInit ⟨#[0xb1]⟩ 1 none) gw_1_19) rfl (by rw [hml]; exact hl.1) rfl dX4_init_1 (Nat.le_of_ble_eq_true rfl) (Nat.le_of_ble_eq_true rfl) ?_
  refine W.eq (g2 := F0 m 4 ls []) rfl ?_
  refine lv_aload_n hx hb dX4_init_4 rfl (lv_at hl 0 rfl) ?_
  refine lv_iconst (v := 0) hx hb dX4_init_5 (by decide) ?_
  refine va_put (D := (dC, dI)) (ci := 4) (v := .int 0) (ty := .int) (C := RX4) (T := TX4) (N := 6) hx hb hg inG_X4 tyX4 tyX4_ok nmX4 hown hK hP hD hS 0 rfl rfl 0 (by decide) (hg (.fieldLink RX4 9 "AttributeDesk$Tree" "size" "I") gw_1_120) (fun _ h9 => h9) rfl (by decide +kernel) rfl rfl (Nat.le_of_ble_eq_true rfl) dX4_init_6 (fun H locs hP hD hS => ?_)
  have hP : va_P (dC, dI) vwCl [(h0, .inr (4, [.int 0, .null, .null, .null, .null, .null]))] H := hP
  have hD : va_D A [(h0, .inr (4, [.int 0, .null, .null, .null, .null, .null]))] := hD
  refine lv_aload_n hx hb dX4_init_9 rfl (lv_at hl 0 rfl) ?_
  refine lv_sipush (v := 200) hx hb dX4_init_10 (by decide) ?_
  refine va_newa (atype := .int) (a0 := (200, .inl (fun _ => 0))) hx hb (hg (.arrayClass .int) gw_1_112) rfl hK hP hD hS hA (fun _ => rfl) (by decide) (N' := 200) rfl (Nat.le_of_ble_eq_true rfl) (Nat.le_of_ble_eq_true rfl) (Nat.le_of_ble_eq_true rfl) dX4_init_13 (fun q13 cq13 H hK hP hD hS => ?_)
  have hK : va_K (dC, dI) vwCl [(cq13, .int)] s := hK
  have hP : va_P (dC, dI) vwCl [(h0, .inr (4, [.int 0, .null, .null, .null, .null, .null])), (q13, .inl (cq13, 200, .inl (fun _ => 0)))] H := hP
  have hD : va_D A [(h0, .inr (4, [.int 0, .null, .null, .null, .null, .null])), (q13, .inl (cq13, 200, .inl (fun _ => 0)))] := hD
  refine W.widen (k := 1) (n := 200) (Nat.le_of_ble_eq_true rfl) (Nat.le_of_ble_eq_true rfl) ?_
  refine va_putF (D := (dC, dI)) (ci := 4) (v := .ref q13) (ty := .array .int) (C := RX4) (T := TX4) (N := 6) hx hb hg inG_X4 tyX4 tyX4_ok nmX4 hown hK hP hD hS 0 rfl rfl 1 (by decide) (hg (.fieldLink RX4 15 "AttributeDesk$Tree" "rules" "[I") gw_1_123) (fun _ h9 => h9) rfl hin rfl (by decide +kernel) rfl rfl (Nat.le_of_ble_eq_true rfl) dX4_init_15 (fun H locs hP hD hS => ?_)
  have hP : va_P (dC, dI) vwCl [(h0, .inr (4, [.int 0, .ref q13, .null, .null, .null, .null])), (q13, .inl (cq13, 200, .inl (fun _ => 0)))] H := hP
  have hD : va_D A [(h0, .inr (4, [.int 0, .ref q13, .null, .null, .null, .null])), (q13, .inl (cq13, 200, .inl (fun _ => 0)))] := hD
  have hP := hP.sub (ws' := [(h0, .inr (4, [.int 0, .ref q13, .null, .null, .null, .null]))]) [0] rfl
  have hD := hD.sub (ws' := [(h0, .inr (4, [.int 0, .ref q13, .null, .null, .null, .null]))]) [0] (by decide) rfl
  have hK := hK.sub (tys' := []) [] rfl
  refine lv_aload_n hx hb dX4_init_18 rfl (lv_at hl 0 rfl) ?_
  refine lv_sipush (v := 200) hx hb dX4_init_19 (by decide) ?_
  refine va_newa (atype := .int) (a0 := (200, .inl (fun _ => 0))) hx hb (hg (.arrayClass .int) gw_1_112) rfl hK hP hD hS hA (fun _ => rfl) (by decide) (N' := 200) rfl (Nat.le_of_ble_eq_true rfl) (Nat.le_of_ble_eq_true rfl) (Nat.le_of_ble_eq_true rfl) dX4_init_22 (fun q22 cq22 H hK hP hD hS => ?_)
  have hK : va_K (dC, dI) vwCl [(cq22, .int)] s := hK
  have hP : va_P (dC, dI) vwCl [(h0, .inr (4, [.int 0, .ref q13, .null, .null, .null, .null])), (q22, .inl (cq22, 200, .inl (fun _ => 0)))] H := hP
  have hD : va_D A [(h0, .inr (4, [.int 0, .ref q13, .null, .null, .null, .null])), (q22, .inl (cq22, 200, .inl (fun _ => 0)))] := hD
  refine W.widen (k := 2) (n := 400) (Nat.le_of_ble_eq_true rfl) (Nat.le_of_ble_eq_true rfl) ?_
  refine va_putF (D := (dC, dI)) (ci := 4) (v := .ref q22) (ty := .array .int) (C := RX4) (T := TX4) (N := 6) hx hb hg inG_X4 tyX4 tyX4_ok nmX4 hown hK hP hD hS 0 rfl rfl 2 (by decide) (hg (.fieldLink RX4 19 "AttributeDesk$Tree" "above" "[I") gw_1_127) (fun _ h9 => h9) rfl hin rfl (by decide +kernel) rfl rfl (Nat.le_of_ble_eq_true rfl) dX4_init_24 (fun H locs hP hD hS => ?_)
  have hP : va_P (dC, dI) vwCl [(h0, .inr (4, [.int 0, .ref q13, .ref q22, .null, .null, .null])), (q22, .inl (cq22, 200, .inl (fun _ => 0)))] H := hP
  have hD : va_D A [(h0, .inr (4, [.int 0, .ref q13, .ref q22, .null, .null, .null])), (q22, .inl (cq22, 200, .inl (fun _ => 0)))] := hD
  have hP := hP.sub (ws' := [(h0, .inr (4, [.int 0, .ref q13, .ref q22, .null, .null, .null]))]) [0] rfl
  have hD := hD.sub (ws' := [(h0, .inr (4, [.int 0, .ref q13, .ref q22, .null, .null, .null]))]) [0] (by decide) rfl
  have hK := hK.sub (tys' := []) [] rfl
  refine lv_aload_n hx hb dX4_init_27 rfl (lv_at hl 0 rfl) ?_
  refine lv_sipush (v := 200) hx hb dX4_init_28 (by decide) ?_
  refine va_newa (atype := .int) (a0 := (200, .inl (fun _ => 0))) hx hb (hg (.arrayClass .int) gw_1_112) rfl hK hP hD hS hA (fun _ => rfl) (by decide) (N' := 200) rfl (Nat.le_of_ble_eq_true rfl) (Nat.le_of_ble_eq_true rfl) (Nat.le_of_ble_eq_true rfl) dX4_init_31 (fun q31 cq31 H hK hP hD hS => ?_)
  have hK : va_K (dC, dI) vwCl [(cq31, .int)] s := hK
  have hP : va_P (dC, dI) vwCl [(h0, .inr (4, [.int 0, .ref q13, .ref q22, .null, .null, .null])), (q31, .inl (cq31, 200, .inl (fun _ => 0)))] H := hP
  have hD : va_D A [(h0, .inr (4, [.int 0, .ref q13, .ref q22, .null, .null, .null])), (q31, .inl (cq31, 200, .inl (fun _ => 0)))] := hD
  refine W.widen (k := 3) (n := 600) (Nat.le_of_ble_eq_true rfl) (Nat.le_of_ble_eq_true rfl) ?_
  refine va_putF (D := (dC, dI)) (ci := 4) (v := .ref q31) (ty := .array .int) (C := RX4) (T := TX4) (N := 6) hx hb hg inG_X4 tyX4 tyX4_ok nmX4 hown hK hP hD hS 0 rfl rfl 3 (by decide) (hg (.fieldLink RX4 22 "AttributeDesk$Tree" "places" "[I") gw_1_131) (fun _ h9 => h9) rfl hin rfl (by decide +kernel) rfl rfl (Nat.le_of_ble_eq_true rfl) dX4_init_33 (fun H locs hP hD hS => ?_)
  have hP : va_P (dC, dI) vwCl [(h0, .inr (4, [.int 0, .ref q13, .ref q22, .ref q31, .null, .null])), (q31, .inl (cq31, 200, .inl (fun _ => 0)))] H := hP
  have hD : va_D A [(h0, .inr (4, [.int 0, .ref q13, .ref q22, .ref q31, .null, .null])), (q31, .inl (cq31, 200, .inl (fun _ => 0)))] := hD
  have hP := hP.sub (ws' := [(h0, .inr (4, [.int 0, .ref q13, .ref q22, .ref q31, .null, .null]))]) [0] rfl
  have hD := hD.sub (ws' := [(h0, .inr (4, [.int 0, .ref q13, .ref q22, .ref q31, .null, .null]))]) [0] (by decide) rfl
  have hK := hK.sub (tys' := []) [] rfl
  refine lv_aload_n hx hb dX4_init_36 rfl (lv_at hl 0 rfl) ?_
  refine lv_sipush (v := 200) hx hb dX4_init_37 (by decide) ?_
  refine va_newa (atype := .int) (a0 := (200, .inl (fun _ => 0))) hx hb (hg (.arrayClass .int) gw_1_112) rfl hK hP hD hS hA (fun _ => rfl) (by decide) (N' := 200) rfl (Nat.le_of_ble_eq_true rfl) (Nat.le_of_ble_eq_true rfl) (Nat.le_of_ble_eq_true rfl) dX4_init_40 (fun q40 cq40 H hK hP hD hS => ?_)
  have hK : va_K (dC, dI) vwCl [(cq40, .int)] s := hK
  have hP : va_P (dC, dI) vwCl [(h0, .inr (4, [.int 0, .ref q13, .ref q22, .ref q31, .null, .null])), (q40, .inl (cq40, 200, .inl (fun _ => 0)))] H := hP
  have hD : va_D A [(h0, .inr (4, [.int 0, .ref q13, .ref q22, .ref q31, .null, .null])), (q40, .inl (cq40, 200, .inl (fun _ => 0)))] := hD
  refine W.widen (k := 4) (n := 800) (Nat.le_of_ble_eq_true rfl) (Nat.le_of_ble_eq_true rfl) ?_
  refine va_putF (D := (dC, dI)) (ci := 4) (v := .ref q40) (ty := .array .int) (C := RX4) (T := TX4) (N := 6) hx hb hg inG_X4 tyX4 tyX4_ok nmX4 hown hK hP hD hS 0 rfl rfl 4 (by decide) (hg (.fieldLink RX4 25 "AttributeDesk$Tree" "owns" "[I") gw_1_135) (fun _ h9 => h9) rfl hin rfl (by decide +kernel) rfl rfl (Nat.le_of_ble_eq_true rfl) dX4_init_42 (fun H locs hP hD hS => ?_)
  have hP : va_P (dC, dI) vwCl [(h0, .inr (4, [.int 0, .ref q13, .ref q22, .ref q31, .ref q40, .null])), (q40, .inl (cq40, 200, .inl (fun _ => 0)))] H := hP
  have hD : va_D A [(h0, .inr (4, [.int 0, .ref q13, .ref q22, .ref q31, .ref q40, .null])), (q40, .inl (cq40, 200, .inl (fun _ => 0)))] := hD
  have hP := hP.sub (ws' := [(h0, .inr (4, [.int 0, .ref q13, .ref q22, .ref q31, .ref q40, .null]))]) [0] rfl
  have hD := hD.sub (ws' := [(h0, .inr (4, [.int 0, .ref q13, .ref q22, .ref q31, .ref q40, .null]))]) [0] (by decide) rfl
  have hK := hK.sub (tys' := []) [] rfl
  refine lv_aload_n hx hb dX4_init_45 rfl (lv_at hl 0 rfl) ?_
  refine lv_sipush (v := 600) hx hb dX4_init_46 (by decide) ?_
  refine va_newa (atype := .int) (a0 := (600, .inl (fun _ => 0))) hx hb (hg (.arrayClass .int) gw_1_112) rfl hK hP hD hS hA (fun _ => rfl) (by decide) (N' := 600) rfl (Nat.le_of_ble_eq_true rfl) (Nat.le_of_ble_eq_true rfl) (Nat.le_of_ble_eq_true rfl) dX4_init_49 (fun q49 cq49 H hK hP hD hS => ?_)
  have hK : va_K (dC, dI) vwCl [(cq49, .int)] s := hK
  have hP : va_P (dC, dI) vwCl [(h0, .inr (4, [.int 0, .ref q13, .ref q22, .ref q31, .ref q40, .null])), (q49, .inl (cq49, 600, .inl (fun _ => 0)))] H := hP
  have hD : va_D A [(h0, .inr (4, [.int 0, .ref q13, .ref q22, .ref q31, .ref q40, .null])), (q49, .inl (cq49, 600, .inl (fun _ => 0)))] := hD
  refine W.widen (k := 5) (n := 1400) (Nat.le_of_ble_eq_true rfl) (Nat.le_of_ble_eq_true rfl) ?_
  refine va_putF (D := (dC, dI)) (ci := 4) (v := .ref q49) (ty := .array .int) (C := RX4) (T := TX4) (N := 6) hx hb hg inG_X4 tyX4 tyX4_ok nmX4 hown hK hP hD hS 0 rfl rfl 5 (by decide) (hg (.fieldLink RX4 28 "AttributeDesk$Tree" "children" "[I") gw_1_139) (fun _ h9 => h9) rfl hin rfl (by decide +kernel) rfl rfl (Nat.le_of_ble_eq_true rfl) dX4_init_51 (fun H locs hP hD hS => ?_)
  have hP : va_P (dC, dI) vwCl [(h0, .inr (4, [.int 0, .ref q13, .ref q22, .ref q31, .ref q40, .ref q49])), (q49, .inl (cq49, 600, .inl (fun _ => 0)))] H := hP
  have hD : va_D A [(h0, .inr (4, [.int 0, .ref q13, .ref q22, .ref q31, .ref q40, .ref q49])), (q49, .inl (cq49, 600, .inl (fun _ => 0)))] := hD
  have hP := hP.sub (ws' := [(h0, .inr (4, [.int 0, .ref q13, .ref q22, .ref q31, .ref q40, .ref q49]))]) [0] rfl
  have hD := hD.sub (ws' := [(h0, .inr (4, [.int 0, .ref q13, .ref q22, .ref q31, .ref q40, .ref q49]))]) [0] (by decide) rfl
  have hK := hK.sub (tys' := []) [] rfl
  have hP9 := hP.sub (ws' := [(h0, .inr (4, [.int 0, .ref q13, .ref q22, .ref q31, .ref q40, .ref q49]))]) [0] rfl
  have hD9 := hD.sub (ws' := [(h0, .inr (4, [.int 0, .ref q13, .ref q22, .ref q31, .ref q40, .ref q49]))]) [0] (by decide) rfl
  have hK9 := hK.sub (tys' := []) [] rfl
  refine W.widen (k := 5) (n := 1400) (Nat.le_of_ble_eq_true rfl) (Nat.le_of_ble_eq_true rfl) ?_
  exact W.vret hx hb hr (fun t ht hW => ⟨⟨(), rfl, trivial, q13, q22, q31, q40, q49, by rw [ht]; exact hP9, va_K.moved hW.alike hK9, hD9⟩, hS.F ht⟩) hS.2.2 dX4_init_54

set_option maxHeartbeats 4000000 in
set_option maxRecDepth 100000 in
theorem c_X3_init (l : Launch) (dC : Nat → ClassId) (dI : Nat → Nat → Nat) (h0 a1 : Nat) (sz : Nat) : Met l yX3_init wyX3_init ({ frames := 1, cells := 0, slots := 0, locals := 12 }) (va_Pc [.ref h0, .ref a1] (fun U => U.heap.size = sz ∧ va_P (dC, dI) vwCl [(h0, .inr (3, [.null, .int 0, .int 0, .int 0, .int 0, .long 0, .long 0]))] U.heap ∧ va_K (dC, dI) vwCl [] U ∧ va_D (fun _ => True) [(h0, .inr (3, [.null, .int 0, .int 0, .int 0, .int 0, .long 0, .long 0]))])) (va_Qv (fun _ : Unit => True) (fun _ t => va_P (dC, dI) vwCl [(h0, .inr (3, [.ref a1, .int 0, .int 0, .int (-1), .int 0, .long 0, .long 0]))] t.heap ∧ va_K (dC, dI) vwCl [] t ∧ va_D (va_A [(h0, .inr (3, [.null, .int 0, .int 0, .int 0, .int 0, .long 0, .long 0]))] sz) [(h0, .inr (3, [.ref a1, .int 0, .int 0, .int (-1), .int 0, .long 0, .long 0]))]) (va_A [(h0, .inr (3, [.null, .int 0, .int 0, .int 0, .int 0, .long 0, .long 0]))] sz)) 0 0 (va_A [(h0, .inr (3, [.null, .int 0, .int 0, .int 0, .int 0, .long 0, .long 0]))] sz) := by
  refine Met.ofW (cc := cX3_init) (maxL := 2) (ret := none) (by decide) rfl ?_
  intro p e s m args below meth c s₁ B hml hv
  obtain ⟨rfl, hsz, hP, hK, hD0⟩ := hv
  have hx := B.exec
  have hb := B.bytes
  have hr := B.returns
  have hts := atoms_spec (ws := wyX3_init) B.pre
  have hg : ∀ w ∈ lw_G, w.before _ s = true := fun w h => hts w (List.mem_cons_of_mem _ h)
  have hown : s.vm.findClass RX3 = some m.cls := findClass_of_methodNamed B.named
  have hlocks := B.notSynchronized
  have hin : meth.name = "<init>" := (name_of_methodNamed B.named B.method).1
  subst hsz
  have hD := hD0.self (sz := s.heap.size)
  generalize hAe : va_A [(h0, .inr (3, [.null, .int 0, .int 0, .int 0, .int 0, .long 0, .long 0]))] s.heap.size = A at hD ⊢
  have hA : ∀ q : Nat, s.heap.size ≤ q → A q := fun q h => by rw [← hAe]; exact Or.inr h
  have hS : va_S A s.heap s.heap [] := va_S.rf
  have hP : va_P (dC, dI) vwCl [(h0, .inr (3, [.null, .int 0, .int 0, .int 0, .int 0, .long 0, .long 0]))] s.heap := hP
  have hl := lv_entry ([.ref h0, .ref a1]) (n := 2) (Nat.le_of_ble_eq_true rfl)
  rw [lg_entry_eq]
  generalize (lg_sl ([.ref h0, .ref a1]) ++ List.replicate (2 - (lg_sl ([.ref h0, .ref a1])).length) Slot.unset).toArray = ls at hl ⊢
  have hl : lv_has ls 2 [(0, .ref h0), (1, .ref a1)] := hl
  refine lv_aload_n hx hb dX3_init_0 rfl (lv_at hl 0 rfl) ?_
  refine W.objInit hx hb hown (hg (.methodLink RX3 3 objectInit) gw_1_159) (hg (.instanceMethod objectInit) gw_1_18) (hg (.code objectInit ⟨#[0xb1]⟩ 1 none) gw_1_19) rfl (by rw [hml]; exact hl.1) rfl dX3_init_1 (Nat.le_of_ble_eq_true rfl) (Nat.le_of_ble_eq_true rfl) ?_
  refine W.eq (g2 := F0 m 4 ls []) rfl ?_
  refine lv_aload_n hx hb dX3_init_4 rfl (lv_at hl 0 rfl) ?_
  refine lv_iconst (v := 0) hx hb dX3_init_5 (by decide) ?_
  refine va_put (D := (dC, dI)) (ci := 3) (v := .int 0) (ty := .int) (C := RX3) (T := TX3) (N := 7) hx hb hg inG_X3 tyX3 tyX3_ok nmX3 hown hK hP hD hS 0 rfl rfl 1 (by decide) (hg (.fieldLink RX3 9 "AttributeDesk$Tokens" "size" "I") gw_1_161) (fun _ h9 => h9) rfl (by decide +kernel) rfl rfl (Nat.le_of_ble_eq_true rfl) dX3_init_6 (fun H locs hP hD hS => ?_)
  have hP : va_P (dC, dI) vwCl [(h0, .inr (3, [.null, .int 0, .int 0, .int 0, .int 0, .long 0, .long 0]))] H := hP
  have hD : va_D A [(h0, .inr (3, [.null, .int 0, .int 0, .int 0, .int 0, .long 0, .long 0]))] := hD
  refine lv_aload_n hx hb dX3_init_9 rfl (lv_at hl 0 rfl) ?_
  refine lv_iconst (v := 0) hx hb dX3_init_10 (by decide) ?_
  refine va_put (D := (dC, dI)) (ci := 3) (v := .int 0) (ty := .int) (C := RX3) (T := TX3) (N := 7) hx hb hg inG_X3 tyX3 tyX3_ok nmX3 hown hK hP hD hS 0 rfl rfl 2 (by decide) (hg (.fieldLink RX3 15 "AttributeDesk$Tokens" "behind" "I") gw_1_162) (fun _ h9 => h9) rfl (by decide +kernel) rfl rfl (Nat.le_of_ble_eq_true rfl) dX3_init_11 (fun H locs hP hD hS => ?_)
  have hP : va_P (dC, dI) vwCl [(h0, .inr (3, [.null, .int 0, .int 0, .int 0, .int 0, .long 0, .long 0]))] H := hP
  have hD : va_D A [(h0, .inr (3, [.null, .int 0, .int 0, .int 0, .int 0, .long 0, .long 0]))] := hD
  refine lv_aload_n hx hb dX3_init_14 rfl (lv_at hl 0 rfl) ?_
  refine lv_iconst (v := (-1)) hx hb dX3_init_15 (by decide) ?_
  refine va_put (D := (dC, dI)) (ci := 3) (v := .int (-1)) (ty := .int) (C := RX3) (T := TX3) (N := 7) hx hb hg inG_X3 tyX3 tyX3_ok nmX3 hown hK hP hD hS 0 rfl rfl 3 (by decide) (hg (.fieldLink RX3 18 "AttributeDesk$Tokens" "kind" "I") gw_1_163) (fun _ h9 => h9) rfl (by decide +kernel) rfl rfl (Nat.le_of_ble_eq_true rfl) dX3_init_16 (fun H locs hP hD hS => ?_)
  have hP : va_P (dC, dI) vwCl [(h0, .inr (3, [.null, .int 0, .int 0, .int (-1), .int 0, .long 0, .long 0]))] H := hP
  have hD : va_D A [(h0, .inr (3, [.null, .int 0, .int 0, .int (-1), .int 0, .long 0, .long 0]))] := hD
  refine lv_aload_n hx hb dX3_init_19 rfl (lv_at hl 0 rfl) ?_
  refine lv_iconst (v := 0) hx hb dX3_init_20 (by decide) ?_
  refine va_put (D := (dC, dI)) (ci := 3) (v := .int 0) (ty := .int) (C := RX3) (T := TX3) (N := 7) hx hb hg inG_X3 tyX3 tyX3_ok nmX3 hown hK hP hD hS 0 rfl rfl 4 (by decide) (hg (.fieldLink RX3 21 "AttributeDesk$Tokens" "at" "I") gw_1_167) (fun _ h9 => h9) rfl (by decide +kernel) rfl rfl (Nat.le_of_ble_eq_true rfl) dX3_init_21 (fun H locs hP hD hS => ?_)
  have hP : va_P (dC, dI) vwCl [(h0, .inr (3, [.null, .int 0, .int 0, .int (-1), .int 0, .long 0, .long 0]))] H := hP
  have hD : va_D A [(h0, .inr (3, [.null, .int 0, .int 0, .int (-1), .int 0, .long 0, .long 0]))] := hD
  refine lv_aload_n hx hb dX3_init_24 rfl (lv_at hl 0 rfl) ?_
  refine lv_lconst (v := 0) hx hb dX3_init_25 (by decide) ?_
  refine va_put (D := (dC, dI)) (ci := 3) (v := .long 0) (ty := .long) (C := RX3) (T := TX3) (N := 7) hx hb hg inG_X3 tyX3 tyX3_ok nmX3 hown hK hP hD hS 0 rfl rfl 5 (by decide) (hg (.fieldLink RX3 24 "AttributeDesk$Tokens" "name" "J") gw_1_169) (fun _ h9 => h9) rfl (by decide +kernel) rfl rfl (Nat.le_of_ble_eq_true rfl) dX3_init_26 (fun H locs hP hD hS => ?_)
  have hP : va_P (dC, dI) vwCl [(h0, .inr (3, [.null, .int 0, .int 0, .int (-1), .int 0, .long 0, .long 0]))] H := hP
  have hD : va_D A [(h0, .inr (3, [.null, .int 0, .int 0, .int (-1), .int 0, .long 0, .long 0]))] := hD
  refine lv_aload_n hx hb dX3_init_29 rfl (lv_at hl 0 rfl) ?_
  refine lv_lconst (v := 0) hx hb dX3_init_30 (by decide) ?_
  refine va_put (D := (dC, dI)) (ci := 3) (v := .long 0) (ty := .long) (C := RX3) (T := TX3) (N := 7) hx hb hg inG_X3 tyX3 tyX3_ok nmX3 hown hK hP hD hS 0 rfl rfl 6 (by decide) (hg (.fieldLink RX3 28 "AttributeDesk$Tokens" "number" "J") gw_1_173) (fun _ h9 => h9) rfl (by decide +kernel) rfl rfl (Nat.le_of_ble_eq_true rfl) dX3_init_31 (fun H locs hP hD hS => ?_)
  have hP : va_P (dC, dI) vwCl [(h0, .inr (3, [.null, .int 0, .int 0, .int (-1), .int 0, .long 0, .long 0]))] H := hP
  have hD : va_D A [(h0, .inr (3, [.null, .int 0, .int 0, .int (-1), .int 0, .long 0, .long 0]))] := hD
  refine lv_aload_n hx hb dX3_init_34 rfl (lv_at hl 0 rfl) ?_
  refine lv_aload_n hx hb dX3_init_35 rfl (lv_at hl 1 rfl) ?_
  refine va_putF (D := (dC, dI)) (ci := 3) (v := .ref a1) (ty := .array .byte) (C := RX3) (T := TX3) (N := 7) hx hb hg inG_X3 tyX3 tyX3_ok nmX3 hown hK hP hD hS 0 rfl rfl 0 (by decide) (hg (.fieldLink RX3 31 "AttributeDesk$Tokens" "text" "[B") gw_1_160) (fun _ h9 => h9) rfl hin rfl (by decide +kernel) rfl rfl (Nat.le_of_ble_eq_true rfl) dX3_init_36 (fun H locs hP hD hS => ?_)
  have hP : va_P (dC, dI) vwCl [(h0, .inr (3, [.ref a1, .int 0, .int 0, .int (-1), .int 0, .long 0, .long 0]))] H := hP
  have hD : va_D A [(h0, .inr (3, [.ref a1, .int 0, .int 0, .int (-1), .int 0, .long 0, .long 0]))] := hD
  have hP9 := hP.sub (ws' := [(h0, .inr (3, [.ref a1, .int 0, .int 0, .int (-1), .int 0, .long 0, .long 0]))]) [0] rfl
  have hD9 := hD.sub (ws' := [(h0, .inr (3, [.ref a1, .int 0, .int 0, .int (-1), .int 0, .long 0, .long 0]))]) [0] (by decide) rfl
  have hK9 := hK.sub (tys' := []) [] rfl
  refine W.widen (k := 0) (n := 0) (Nat.le_of_ble_eq_true rfl) (Nat.le_of_ble_eq_true rfl) ?_
  exact W.vret hx hb hr (fun t ht hW => ⟨⟨(), rfl, trivial, by rw [ht]; exact hP9, va_K.moved hW.alike hK9, hD9⟩, hS.F ht⟩) hS.2.2 dX3_init_39

set_option maxHeartbeats 4000000 in
set_option maxRecDepth 100000 in
theorem c_X0_init (l : Launch) (dC : Nat → ClassId) (dI : Nat → Nat → Nat) (h0 a1 a2 : Nat) (sz : Nat) : Met l yX0_init wyX0_init ({ frames := 1, cells := 1, slots := 40, locals := 12 }) (va_Pc [.ref h0, .ref a1, .ref a2] (fun U => U.heap.size = sz ∧ va_P (dC, dI) vwCl [(h0, .inr (0, [.null, .null, .int 0, .int 0, .int 0, .int 0, .int 0, .null, .int 0, .int 0, .int 0]))] U.heap ∧ va_K (dC, dI) vwCl [] U ∧ va_D (fun _ => True) [(h0, .inr (0, [.null, .null, .int 0, .int 0, .int 0, .int 0, .int 0, .null, .int 0, .int 0, .int 0]))])) (va_Qv (fun _ : Unit => True) (fun _ t => ∃ (e0 : Nat), va_P (dC, dI) vwCl [(h0, .inr (0, [.ref a1, .ref a2, .int 0, .int 0, .int 0, .int 0, .int 0, .ref e0, .int 0, .int 0, .int 0]))] t.heap ∧ va_K (dC, dI) vwCl [] t ∧ va_D (va_A [(h0, .inr (0, [.null, .null, .int 0, .int 0, .int 0, .int 0, .int 0, .null, .int 0, .int 0, .int 0]))] sz) [(h0, .inr (0, [.ref a1, .ref a2, .int 0, .int 0, .int 0, .int 0, .int 0, .ref e0, .int 0, .int 0, .int 0]))]) (va_A [(h0, .inr (0, [.null, .null, .int 0, .int 0, .int 0, .int 0, .int 0, .null, .int 0, .int 0, .int 0]))] sz)) 1 40 (va_A [(h0, .inr (0, [.null, .null, .int 0, .int 0, .int 0, .int 0, .int 0, .null, .int 0, .int 0, .int 0]))] sz) := by
  refine Met.ofW (cc := cX0_init) (maxL := 3) (ret := none) (by decide) rfl ?_
  intro p e s m args below meth c s₁ B hml hv
  obtain ⟨rfl, hsz, hP, hK, hD0⟩ := hv
  have hx := B.exec
  have hb := B.bytes
  have hr := B.returns
  have hts := atoms_spec (ws := wyX0_init) B.pre
  have hg : ∀ w ∈ lw_G, w.before _ s = true := fun w h => hts w (List.mem_cons_of_mem _ h)
  have hown : s.vm.findClass RX0 = some m.cls := findClass_of_methodNamed B.named
  have hlocks := B.notSynchronized
  have hin : meth.name = "<init>" := (name_of_methodNamed B.named B.method).1
  subst hsz
  have hD := hD0.self (sz := s.heap.size)
  generalize hAe : va_A [(h0, .inr (0, [.null, .null, .int 0, .int 0, .int 0, .int 0, .int 0, .null, .int 0, .int 0, .int 0]))] s.heap.size = A at hD ⊢
  have hA : ∀ q : Nat, s.heap.size ≤ q → A q := fun q h => by rw [← hAe]; exact Or.inr h
  have hS : va_S A s.heap s.heap [] := va_S.rf
  have hP : va_P (dC, dI) vwCl [(h0, .inr (0, [.null, .null, .int 0, .int 0, .int 0, .int 0, .int 0, .null, .int 0, .int 0, .int 0]))] s.heap := hP
  have hl := lv_entry ([.ref h0, .ref a1, .ref a2]) (n := 3) (Nat.le_of_ble_eq_true rfl)
  rw [lg_entry_eq]
  generalize (lg_sl ([.ref h0, .ref a1, .ref a2]) ++ List.replicate (3 - (lg_sl ([.ref h0, .ref a1, .ref a2])).length) Slot.unset).toArray = ls at hl ⊢
  have hl : lv_has ls 3 [(0, .ref h0), (1, .ref a1), (2, .ref a2)] := hl
  refine lv_aload_n hx hb dX0_init_0 rfl (lv_at hl 0 rfl) ?_
  refine W.objInit hx hb hown (hg (.methodLink RX0 3 objectInit) gw_1_203) (hg (.instanceMethod objectInit) gw_1_18) (hg (.code objectInit ⟨#[0xb1]⟩ 1 none) gw_1_19) rfl (by rw [hml]; exact hl.1) rfl dX0_init_1 (Nat.le_of_ble_eq_true rfl) (Nat.le_of_ble_eq_true rfl) ?_
  refine W.eq (g2 := F0 m 4 ls []) rfl ?_
  refine lv_aload_n hx hb dX0_init_4 rfl (lv_at hl 0 rfl) ?_
  refine lv_iconst (v := 0) hx hb dX0_init_5 (by decide) ?_
  refine va_put (D := (dC, dI)) (ci := 0) (v := .int 0) (ty := .int) (C := RX0) (T := TX0) (N := 11) hx hb hg inG_X0 tyX0 tyX0_ok nmX0 hown hK hP hD hS 0 rfl rfl 2 (by decide) (hg (.fieldLink RX0 9 "AttributeDesk$ExpressionReader" "rule" "I") gw_1_206) (fun _ h9 => h9) rfl (by decide +kernel) rfl rfl (Nat.le_of_ble_eq_true rfl) dX0_init_6 (fun H locs hP hD hS => ?_)
  have hP : va_P (dC, dI) vwCl [(h0, .inr (0, [.null, .null, .int 0, .int 0, .int 0, .int 0, .int 0, .null, .int 0, .int 0, .int 0]))] H := hP
  have hD : va_D A [(h0, .inr (0, [.null, .null, .int 0, .int 0, .int 0, .int 0, .int 0, .null, .int 0, .int 0, .int 0]))] := hD
  refine lv_aload_n hx hb dX0_init_9 rfl (lv_at hl 0 rfl) ?_
  refine lv_iconst (v := 0) hx hb dX0_init_10 (by decide) ?_
  refine va_put (D := (dC, dI)) (ci := 0) (v := .int 0) (ty := .int) (C := RX0) (T := TX0) (N := 11) hx hb hg inG_X0 tyX0 tyX0_ok nmX0 hown hK hP hD hS 0 rfl rfl 3 (by decide) (hg (.fieldLink RX0 15 "AttributeDesk$ExpressionReader" "target" "I") gw_1_207) (fun _ h9 => h9) rfl (by decide +kernel) rfl rfl (Nat.le_of_ble_eq_true rfl) dX0_init_11 (fun H locs hP hD hS => ?_)
  have hP : va_P (dC, dI) vwCl [(h0, .inr (0, [.null, .null, .int 0, .int 0, .int 0, .int 0, .int 0, .null, .int 0, .int 0, .int 0]))] H := hP
  have hD : va_D A [(h0, .inr (0, [.null, .null, .int 0, .int 0, .int 0, .int 0, .int 0, .null, .int 0, .int 0, .int 0]))] := hD
  refine lv_aload_n hx hb dX0_init_14 rfl (lv_at hl 0 rfl) ?_
  refine lv_iconst (v := 0) hx hb dX0_init_15 (by decide) ?_
  refine va_put (D := (dC, dI)) (ci := 0) (v := .int 0) (ty := .int) (C := RX0) (T := TX0) (N := 11) hx hb hg inG_X0 tyX0 tyX0_ok nmX0 hown hK hP hD hS 0 rfl rfl 4 (by decide) (hg (.fieldLink RX0 18 "AttributeDesk$ExpressionReader" "state" "I") gw_1_208) (fun _ h9 => h9) rfl (by decide +kernel) rfl rfl (Nat.le_of_ble_eq_true rfl) dX0_init_16 (fun H locs hP hD hS => ?_)
  have hP : va_P (dC, dI) vwCl [(h0, .inr (0, [.null, .null, .int 0, .int 0, .int 0, .int 0, .int 0, .null, .int 0, .int 0, .int 0]))] H := hP
  have hD : va_D A [(h0, .inr (0, [.null, .null, .int 0, .int 0, .int 0, .int 0, .int 0, .null, .int 0, .int 0, .int 0]))] := hD
  refine lv_aload_n hx hb dX0_init_19 rfl (lv_at hl 0 rfl) ?_
  refine lv_iconst (v := 0) hx hb dX0_init_20 (by decide) ?_
  refine va_put (D := (dC, dI)) (ci := 0) (v := .int 0) (ty := .int) (C := RX0) (T := TX0) (N := 11) hx hb hg inG_X0 tyX0 tyX0_ok nmX0 hown hK hP hD hS 0 rfl rfl 5 (by decide) (hg (.fieldLink RX0 21 "AttributeDesk$ExpressionReader" "tokenCount" "I") gw_1_209) (fun _ h9 => h9) rfl (by decide +kernel) rfl rfl (Nat.le_of_ble_eq_true rfl) dX0_init_21 (fun H locs hP hD hS => ?_)
  have hP : va_P (dC, dI) vwCl [(h0, .inr (0, [.null, .null, .int 0, .int 0, .int 0, .int 0, .int 0, .null, .int 0, .int 0, .int 0]))] H := hP
  have hD : va_D A [(h0, .inr (0, [.null, .null, .int 0, .int 0, .int 0, .int 0, .int 0, .null, .int 0, .int 0, .int 0]))] := hD
  refine lv_aload_n hx hb dX0_init_24 rfl (lv_at hl 0 rfl) ?_
  refine lv_iconst (v := 0) hx hb dX0_init_25 (by decide) ?_
  refine va_put (D := (dC, dI)) (ci := 0) (v := .int 0) (ty := .int) (C := RX0) (T := TX0) (N := 11) hx hb hg inG_X0 tyX0 tyX0_ok nmX0 hown hK hP hD hS 0 rfl rfl 6 (by decide) (hg (.fieldLink RX0 24 "AttributeDesk$ExpressionReader" "occPlace" "I") gw_1_210) (fun _ h9 => h9) rfl (by decide +kernel) rfl rfl (Nat.le_of_ble_eq_true rfl) dX0_init_26 (fun H locs hP hD hS => ?_)
  have hP : va_P (dC, dI) vwCl [(h0, .inr (0, [.null, .null, .int 0, .int 0, .int 0, .int 0, .int 0, .null, .int 0, .int 0, .int 0]))] H := hP
  have hD : va_D A [(h0, .inr (0, [.null, .null, .int 0, .int 0, .int 0, .int 0, .int 0, .null, .int 0, .int 0, .int 0]))] := hD
  refine lv_aload_n hx hb dX0_init_29 rfl (lv_at hl 0 rfl) ?_
  refine lv_bipush (v := 40) hx hb dX0_init_30 (by decide) ?_
  refine va_newa (atype := .int) (a0 := (40, .inl (fun _ => 0))) hx hb (hg (.arrayClass .int) gw_1_112) rfl hK hP hD hS hA (fun _ => rfl) (by decide) (N' := 40) rfl (Nat.le_of_ble_eq_true rfl) (Nat.le_of_ble_eq_true rfl) (Nat.le_of_ble_eq_true rfl) dX0_init_32 (fun q32 cq32 H hK hP hD hS => ?_)
  have hK : va_K (dC, dI) vwCl [(cq32, .int)] s := hK
  have hP : va_P (dC, dI) vwCl [(h0, .inr (0, [.null, .null, .int 0, .int 0, .int 0, .int 0, .int 0, .null, .int 0, .int 0, .int 0])), (q32, .inl (cq32, 40, .inl (fun _ => 0)))] H := hP
  have hD : va_D A [(h0, .inr (0, [.null, .null, .int 0, .int 0, .int 0, .int 0, .int 0, .null, .int 0, .int 0, .int 0])), (q32, .inl (cq32, 40, .inl (fun _ => 0)))] := hD
  refine W.widen (k := 1) (n := 40) (Nat.le_of_ble_eq_true rfl) (Nat.le_of_ble_eq_true rfl) ?_
  refine va_putF (D := (dC, dI)) (ci := 0) (v := .ref q32) (ty := .array .int) (C := RX0) (T := TX0) (N := 11) hx hb hg inG_X0 tyX0 tyX0_ok nmX0 hown hK hP hD hS 0 rfl rfl 7 (by decide) (hg (.fieldLink RX0 27 "AttributeDesk$ExpressionReader" "waiting" "[I") gw_1_211) (fun _ h9 => h9) rfl hin rfl (by decide +kernel) rfl rfl (Nat.le_of_ble_eq_true rfl) dX0_init_34 (fun H locs hP hD hS => ?_)
  have hP : va_P (dC, dI) vwCl [(h0, .inr (0, [.null, .null, .int 0, .int 0, .int 0, .int 0, .int 0, .ref q32, .int 0, .int 0, .int 0])), (q32, .inl (cq32, 40, .inl (fun _ => 0)))] H := hP
  have hD : va_D A [(h0, .inr (0, [.null, .null, .int 0, .int 0, .int 0, .int 0, .int 0, .ref q32, .int 0, .int 0, .int 0])), (q32, .inl (cq32, 40, .inl (fun _ => 0)))] := hD
  have hP := hP.sub (ws' := [(h0, .inr (0, [.null, .null, .int 0, .int 0, .int 0, .int 0, .int 0, .ref q32, .int 0, .int 0, .int 0]))]) [0] rfl
  have hD := hD.sub (ws' := [(h0, .inr (0, [.null, .null, .int 0, .int 0, .int 0, .int 0, .int 0, .ref q32, .int 0, .int 0, .int 0]))]) [0] (by decide) rfl
  have hK := hK.sub (tys' := []) [] rfl
  refine lv_aload_n hx hb dX0_init_37 rfl (lv_at hl 0 rfl) ?_
  refine lv_iconst (v := 0) hx hb dX0_init_38 (by decide) ?_
  refine va_put (D := (dC, dI)) (ci := 0) (v := .int 0) (ty := .int) (C := RX0) (T := TX0) (N := 11) hx hb hg inG_X0 tyX0 tyX0_ok nmX0 hown hK hP hD hS 0 rfl rfl 8 (by decide) (hg (.fieldLink RX0 31 "AttributeDesk$ExpressionReader" "waitingCount" "I") gw_1_212) (fun _ h9 => h9) rfl (by decide +kernel) rfl rfl (Nat.le_of_ble_eq_true rfl) dX0_init_39 (fun H locs hP hD hS => ?_)
  have hP : va_P (dC, dI) vwCl [(h0, .inr (0, [.null, .null, .int 0, .int 0, .int 0, .int 0, .int 0, .ref q32, .int 0, .int 0, .int 0]))] H := hP
  have hD : va_D A [(h0, .inr (0, [.null, .null, .int 0, .int 0, .int 0, .int 0, .int 0, .ref q32, .int 0, .int 0, .int 0]))] := hD
  refine lv_aload_n hx hb dX0_init_42 rfl (lv_at hl 0 rfl) ?_
  refine lv_iconst (v := 0) hx hb dX0_init_43 (by decide) ?_
  refine va_put (D := (dC, dI)) (ci := 0) (v := .int 0) (ty := .int) (C := RX0) (T := TX0) (N := 11) hx hb hg inG_X0 tyX0 tyX0_ok nmX0 hown hK hP hD hS 0 rfl rfl 9 (by decide) (hg (.fieldLink RX0 34 "AttributeDesk$ExpressionReader" "openCount" "I") gw_1_213) (fun _ h9 => h9) rfl (by decide +kernel) rfl rfl (Nat.le_of_ble_eq_true rfl) dX0_init_44 (fun H locs hP hD hS => ?_)
  have hP : va_P (dC, dI) vwCl [(h0, .inr (0, [.null, .null, .int 0, .int 0, .int 0, .int 0, .int 0, .ref q32, .int 0, .int 0, .int 0]))] H := hP
  have hD : va_D A [(h0, .inr (0, [.null, .null, .int 0, .int 0, .int 0, .int 0, .int 0, .ref q32, .int 0, .int 0, .int 0]))] := hD
  refine lv_aload_n hx hb dX0_init_47 rfl (lv_at hl 0 rfl) ?_
  refine lv_iconst (v := 0) hx hb dX0_init_48 (by decide) ?_
  refine va_put (D := (dC, dI)) (ci := 0) (v := .int 0) (ty := .boolean) (C := RX0) (T := TX0) (N := 11) hx hb hg inG_X0 tyX0 tyX0_ok nmX0 hown hK hP hD hS 0 rfl rfl 10 (by decide) (hg (.fieldLink RX0 37 "AttributeDesk$ExpressionReader" "isComplete" "Z") gw_1_214) (fun _ h9 => h9) rfl (by decide +kernel) rfl rfl (Nat.le_of_ble_eq_true rfl) dX0_init_49 (fun H locs hP hD hS => ?_)
  have hP : va_P (dC, dI) vwCl [(h0, .inr (0, [.null, .null, .int 0, .int 0, .int 0, .int 0, .int 0, .ref q32, .int 0, .int 0, .int 0]))] H := hP
  have hD : va_D A [(h0, .inr (0, [.null, .null, .int 0, .int 0, .int 0, .int 0, .int 0, .ref q32, .int 0, .int 0, .int 0]))] := hD
  refine lv_aload_n hx hb dX0_init_52 rfl (lv_at hl 0 rfl) ?_
  refine lv_aload_n hx hb dX0_init_53 rfl (lv_at hl 1 rfl) ?_
  refine va_putF (D := (dC, dI)) (ci := 0) (v := .ref a1) (ty := .object "AttributeDesk$Tokens") (C := RX0) (T := TX0) (N := 11) hx hb hg inG_X0 tyX0 tyX0_ok nmX0 hown hK hP hD hS 0 rfl rfl 0 (by decide) (hg (.fieldLink RX0 41 "AttributeDesk$ExpressionReader" "tokens" "LAttributeDesk$Tokens;") gw_1_204) (fun _ h9 => h9) rfl hin rfl (by decide +kernel) rfl rfl (Nat.le_of_ble_eq_true rfl) dX0_init_54 (fun H locs hP hD hS => ?_)
  have hP : va_P (dC, dI) vwCl [(h0, .inr (0, [.ref a1, .null, .int 0, .int 0, .int 0, .int 0, .int 0, .ref q32, .int 0, .int 0, .int 0]))] H := hP
  have hD : va_D A [(h0, .inr (0, [.ref a1, .null, .int 0, .int 0, .int 0, .int 0, .int 0, .ref q32, .int 0, .int 0, .int 0]))] := hD
  refine lv_aload_n hx hb dX0_init_57 rfl (lv_at hl 0 rfl) ?_
  refine lv_aload_n hx hb dX0_init_58 rfl (lv_at hl 2 rfl) ?_
  refine va_put (D := (dC, dI)) (ci := 0) (v := .ref a2) (ty := .object "AttributeDesk$Grammar") (C := RX0) (T := TX0) (N := 11) hx hb hg inG_X0 tyX0 tyX0_ok nmX0 hown hK hP hD hS 0 rfl rfl 1 (by decide) (hg (.fieldLink RX0 45 "AttributeDesk$ExpressionReader" "grammar" "LAttributeDesk$Grammar;") gw_1_205) (fun _ h9 => h9) rfl (by decide +kernel) rfl rfl (Nat.le_of_ble_eq_true rfl) dX0_init_59 (fun H locs hP hD hS => ?_)
  have hP : va_P (dC, dI) vwCl [(h0, .inr (0, [.ref a1, .ref a2, .int 0, .int 0, .int 0, .int 0, .int 0, .ref q32, .int 0, .int 0, .int 0]))] H := hP
  have hD : va_D A [(h0, .inr (0, [.ref a1, .ref a2, .int 0, .int 0, .int 0, .int 0, .int 0, .ref q32, .int 0, .int 0, .int 0]))] := hD
  have hP9 := hP.sub (ws' := [(h0, .inr (0, [.ref a1, .ref a2, .int 0, .int 0, .int 0, .int 0, .int 0, .ref q32, .int 0, .int 0, .int 0]))]) [0] rfl
  have hD9 := hD.sub (ws' := [(h0, .inr (0, [.ref a1, .ref a2, .int 0, .int 0, .int 0, .int 0, .int 0, .ref q32, .int 0, .int 0, .int 0]))]) [0] (by decide) rfl
  have hK9 := hK.sub (tys' := []) [] rfl
  refine W.widen (k := 1) (n := 40) (Nat.le_of_ble_eq_true rfl) (Nat.le_of_ble_eq_true rfl) ?_
  exact W.vret hx hb hr (fun t ht hW => ⟨⟨(), rfl, trivial, q32, by rw [ht]; exact hP9, va_K.moved hW.alike hK9, hD9⟩, hS.F ht⟩) hS.2.2 dX0_init_62

set_option maxHeartbeats 4000000 in
set_option maxRecDepth 100000 in
theorem c_X2_init (l : Launch) (dC : Nat → ClassId) (dI : Nat → Nat → Nat) (h0 a1 a2 : Nat) (sz : Nat) : Met l yX2_init wyX2_init ({ frames := 2, cells := 2, slots := 51, locals := 34 }) (va_Pc [.ref h0, .ref a1, .ref a2] (fun U => U.heap.size = sz ∧ va_P (dC, dI) vwCl [(h0, .inr (2, [.null, .null, .null, .int 0, .int 0, .int 0, .int 0]))] U.heap ∧ va_K (dC, dI) vwCl [] U ∧ va_D (fun _ => True) [(h0, .inr (2, [.null, .null, .null, .int 0, .int 0, .int 0, .int 0]))])) (va_Qv (fun _ : Unit => True) (fun _ t => ∃ (e0 : Nat), va_P (dC, dI) vwCl [(h0, .inr (2, [.ref a1, .ref e0, .ref a2, .int 0, .int 0, .int 0, .int 0]))] t.heap ∧ va_K (dC, dI) vwCl [] t ∧ va_D (va_A [(h0, .inr (2, [.null, .null, .null, .int 0, .int 0, .int 0, .int 0]))] sz) [(h0, .inr (2, [.ref a1, .ref e0, .ref a2, .int 0, .int 0, .int 0, .int 0]))]) (va_A [(h0, .inr (2, [.null, .null, .null, .int 0, .int 0, .int 0, .int 0]))] sz)) 2 51 (va_A [(h0, .inr (2, [.null, .null, .null, .int 0, .int 0, .int 0, .int 0]))] sz) := by
  refine Met.ofW (cc := cX2_init) (maxL := 3) (ret := none) (by decide) rfl ?_
  intro p e s m args below meth c s₁ B hml hv
  obtain ⟨rfl, hsz, hP, hK, hD0⟩ := hv
  have hx := B.exec
  have hb := B.bytes
  have hr := B.returns
  have hts := atoms_spec (ws := wyX2_init) B.pre
  have hg : ∀ w ∈ lw_G, w.before _ s = true := fun w h => hts w (List.mem_cons_of_mem _ h)
  have hown : s.vm.findClass RX2 = some m.cls := findClass_of_methodNamed B.named
  have hlocks := B.notSynchronized
  have hin : meth.name = "<init>" := (name_of_methodNamed B.named B.method).1
  subst hsz
  have hD := hD0.self (sz := s.heap.size)
  generalize hAe : va_A [(h0, .inr (2, [.null, .null, .null, .int 0, .int 0, .int 0, .int 0]))] s.heap.size = A at hD ⊢
  have hA : ∀ q : Nat, s.heap.size ≤ q → A q := fun q h => by rw [← hAe]; exact Or.inr h
  have hS : va_S A s.heap s.heap [] := va_S.rf
  have hP : va_P (dC, dI) vwCl [(h0, .inr (2, [.null, .null, .null, .int 0, .int 0, .int 0, .int 0]))] s.heap := hP
  have hl := lv_entry ([.ref h0, .ref a1, .ref a2]) (n := 3) (Nat.le_of_ble_eq_true rfl)
  rw [lg_entry_eq]
  generalize (lg_sl ([.ref h0, .ref a1, .ref a2]) ++ List.replicate (3 - (lg_sl ([.ref h0, .ref a1, .ref a2])).length) Slot.unset).toArray = ls at hl ⊢
  have hl : lv_has ls 3 [(0, .ref h0), (1, .ref a1), (2, .ref a2)] := hl
  refine lv_aload_n hx hb dX2_init_0 rfl (lv_at hl 0 rfl) ?_
  refine W.objInit hx hb hown (hg (.methodLink RX2 3 objectInit) gw_1_197) (hg (.instanceMethod objectInit) gw_1_18) (hg (.code objectInit ⟨#[0xb1]⟩ 1 none) gw_1_19) rfl (by rw [hml]; exact hl.1) rfl dX2_init_1 (Nat.le_of_ble_eq_true rfl) (Nat.le_of_ble_eq_true rfl) ?_
  refine W.eq (g2 := F0 m 4 ls []) rfl ?_
  refine lv_aload_n hx hb dX2_init_4 rfl (lv_at hl 0 rfl) ?_
  refine lv_iconst (v := 0) hx hb dX2_init_5 (by decide) ?_
  refine va_put (D := (dC, dI)) (ci := 2) (v := .int 0) (ty := .int) (C := RX2) (T := TX2) (N := 7) hx hb hg inG_X2 tyX2 tyX2_ok nmX2 hown hK hP hD hS 0 rfl rfl 3 (by decide) (hg (.fieldLink RX2 11 "AttributeDesk$GrammarReader" "state" "I") gw_2_2) (fun _ h9 => h9) rfl (by decide +kernel) rfl rfl (Nat.le_of_ble_eq_true rfl) dX2_init_6 (fun H locs hP hD hS => ?_)
  have hP : va_P (dC, dI) vwCl [(h0, .inr (2, [.null, .null, .null, .int 0, .int 0, .int 0, .int 0]))] H := hP
  have hD : va_D A [(h0, .inr (2, [.null, .null, .null, .int 0, .int 0, .int 0, .int 0]))] := hD
  refine lv_aload_n hx hb dX2_init_9 rfl (lv_at hl 0 rfl) ?_
  refine lv_iconst (v := 0) hx hb dX2_init_10 (by decide) ?_
  refine va_put (D := (dC, dI)) (ci := 2) (v := .int 0) (ty := .boolean) (C := RX2) (T := TX2) (N := 7) hx hb hg inG_X2 tyX2 tyX2_ok nmX2 hown hK hP hD hS 0 rfl rfl 4 (by decide) (hg (.fieldLink RX2 15 "AttributeDesk$GrammarReader" "readsInherited" "Z") gw_2_3) (fun _ h9 => h9) rfl (by decide +kernel) rfl rfl (Nat.le_of_ble_eq_true rfl) dX2_init_11 (fun H locs hP hD hS => ?_)
  have hP : va_P (dC, dI) vwCl [(h0, .inr (2, [.null, .null, .null, .int 0, .int 0, .int 0, .int 0]))] H := hP
  have hD : va_D A [(h0, .inr (2, [.null, .null, .null, .int 0, .int 0, .int 0, .int 0]))] := hD
  refine lv_aload_n hx hb dX2_init_14 rfl (lv_at hl 0 rfl) ?_
  refine lv_iconst (v := 0) hx hb dX2_init_15 (by decide) ?_
  refine va_put (D := (dC, dI)) (ci := 2) (v := .int 0) (ty := .int) (C := RX2) (T := TX2) (N := 7) hx hb hg inG_X2 tyX2 tyX2_ok nmX2 hown hK hP hD hS 0 rfl rfl 5 (by decide) (hg (.fieldLink RX2 19 "AttributeDesk$GrammarReader" "targetPlace" "I") gw_2_4) (fun _ h9 => h9) rfl (by decide +kernel) rfl rfl (Nat.le_of_ble_eq_true rfl) dX2_init_16 (fun H locs hP hD hS => ?_)
  have hP : va_P (dC, dI) vwCl [(h0, .inr (2, [.null, .null, .null, .int 0, .int 0, .int 0, .int 0]))] H := hP
  have hD : va_D A [(h0, .inr (2, [.null, .null, .null, .int 0, .int 0, .int 0, .int 0]))] := hD
  refine lv_aload_n hx hb dX2_init_19 rfl (lv_at hl 0 rfl) ?_
  refine lv_iconst (v := 0) hx hb dX2_init_20 (by decide) ?_
  refine va_put (D := (dC, dI)) (ci := 2) (v := .int 0) (ty := .int) (C := RX2) (T := TX2) (N := 7) hx hb hg inG_X2 tyX2 tyX2_ok nmX2 hown hK hP hD hS 0 rfl rfl 6 (by decide) (hg (.fieldLink RX2 22 "AttributeDesk$GrammarReader" "targetSpot" "I") gw_2_5) (fun _ h9 => h9) rfl (by decide +kernel) rfl rfl (Nat.le_of_ble_eq_true rfl) dX2_init_21 (fun H locs hP hD hS => ?_)
  have hP : va_P (dC, dI) vwCl [(h0, .inr (2, [.null, .null, .null, .int 0, .int 0, .int 0, .int 0]))] H := hP
  have hD : va_D A [(h0, .inr (2, [.null, .null, .null, .int 0, .int 0, .int 0, .int 0]))] := hD
  refine lv_aload_n hx hb dX2_init_24 rfl (lv_at hl 0 rfl) ?_
  refine lv_aload_n hx hb dX2_init_25 rfl (lv_at hl 1 rfl) ?_
  refine va_putF (D := (dC, dI)) (ci := 2) (v := .ref a1) (ty := .object "AttributeDesk$Tokens") (C := RX2) (T := TX2) (N := 7) hx hb hg inG_X2 tyX2 tyX2_ok nmX2 hown hK hP hD hS 0 rfl rfl 0 (by decide) (hg (.fieldLink RX2 25 "AttributeDesk$GrammarReader" "tokens" "LAttributeDesk$Tokens;") gw_1_239) (fun _ h9 => h9) rfl hin rfl (by decide +kernel) rfl rfl (Nat.le_of_ble_eq_true rfl) dX2_init_26 (fun H locs hP hD hS => ?_)
  have hP : va_P (dC, dI) vwCl [(h0, .inr (2, [.ref a1, .null, .null, .int 0, .int 0, .int 0, .int 0]))] H := hP
  have hD : va_D A [(h0, .inr (2, [.ref a1, .null, .null, .int 0, .int 0, .int 0, .int 0]))] := hD
  refine lv_aload_n hx hb dX2_init_29 rfl (lv_at hl 0 rfl) ?_
  refine lv_aload_n hx hb dX2_init_30 rfl (lv_at hl 2 rfl) ?_
  refine va_put (D := (dC, dI)) (ci := 2) (v := .ref a2) (ty := .object "AttributeDesk$Grammar") (C := RX2) (T := TX2) (N := 7) hx hb hg inG_X2 tyX2 tyX2_ok nmX2 hown hK hP hD hS 0 rfl rfl 2 (by decide) (hg (.fieldLink RX2 29 "AttributeDesk$GrammarReader" "grammar" "LAttributeDesk$Grammar;") gw_2_1) (fun _ h9 => h9) rfl (by decide +kernel) rfl rfl (Nat.le_of_ble_eq_true rfl) dX2_init_31 (fun H locs hP hD hS => ?_)
  have hP : va_P (dC, dI) vwCl [(h0, .inr (2, [.ref a1, .null, .ref a2, .int 0, .int 0, .int 0, .int 0]))] H := hP
  have hD : va_D A [(h0, .inr (2, [.ref a1, .null, .ref a2, .int 0, .int 0, .int 0, .int 0]))] := hD
  refine lv_aload_n hx hb dX2_init_34 rfl (lv_at hl 0 rfl) ?_
  refine va_new (ci := 0) (fs := [.null, .null, .int 0, .int 0, .int 0, .int 0, .int 0, .null, .int 0, .int 0, .int 0]) (C := RX0) (T := TX0) (N := 11) hx hb hg inG_X0 tyX0 tyX0_ok hown (hg (.classLink RX2 33 RX0) gw_1_198) (hg (.instantiable RX0 11) gw_1_199) (hg (.initialized RX0) gw_1_6) hK hP hD hS hA rfl (dflX0) (Nat.le_of_ble_eq_true rfl) (Nat.le_of_ble_eq_true rfl) dX2_init_35 (fun q35 H hP hD hS => ?_)
  have hP : va_P (dC, dI) vwCl [(h0, .inr (2, [.ref a1, .null, .ref a2, .int 0, .int 0, .int 0, .int 0])), (q35, .inr (0, [.null, .null, .int 0, .int 0, .int 0, .int 0, .int 0, .null, .int 0, .int 0, .int 0]))] H := hP
  have hD : va_D A [(h0, .inr (2, [.ref a1, .null, .ref a2, .int 0, .int 0, .int 0, .int 0])), (q35, .inr (0, [.null, .null, .int 0, .int 0, .int 0, .int 0, .int 0, .null, .int 0, .int 0, .int 0]))] := hD
  refine W.widen (k := 1) (n := 11) (Nat.le_of_ble_eq_true rfl) (Nat.le_of_ble_eq_true rfl) ?_
  refine lv_dup hx hb dX2_init_38 rfl ?_
  refine lv_aload_n hx hb dX2_init_39 rfl (lv_at hl 1 rfl) ?_
  refine lv_aload_n hx hb dX2_init_40 rfl (lv_at hl 2 rfl) ?_
  have hPc := hP.sub (ws' := [(q35, .inr (0, [.null, .null, .int 0, .int 0, .int 0, .int 0, .int 0, .null, .int 0, .int 0, .int 0]))]) [1] rfl
  have hDc := hD.sub (ws' := [(q35, .inr (0, [.null, .null, .int 0, .int 0, .int 0, .int 0, .int 0, .null, .int 0, .int 0, .int 0]))]) [1] (by decide) rfl
  have hKc := hK.sub (tys' := []) [] rfl
  have hFc := va_free (wc := [(q35, .inr (0, [.null, .null, .int 0, .int 0, .int 0, .int 0, .int 0, .null, .int 0, .int 0, .int 0]))]) hD hS hA [1] rfl
  refine va_callv (va_runI (As := [.ref a1, .ref a2]) (rest := [.ref q35, .ref h0]) ⟨hx, hb, hml, hown, hg⟩ (c_X0_init l dC dI q35 a1 a2 H.size) (cwI 2 hg gy_X0_init rfl rfl rfl (hg (.initialized RX0) gw_1_6) (hg (.methodLink RX2 35 yX0_init) gw_1_200) (hg (.instanceMethod yX0_init) gw_1_201) rfl (by decide +kernel) ⟨Nat.le_of_ble_eq_true rfl, Nat.le_of_ble_eq_true rfl⟩) ⟨fun a U g mk q => by obtain ⟨q0, q1, qP, qK, qD⟩ := q; exact ⟨q0, q1, qP, va_K.moved (u := U) (U := U.calling g mk a) (Vm.Alike.refl U.vm) qK, qD⟩, fun U hU hW => ⟨rfl, by rw [hU], by rw [hU]; exact hPc, va_K.moved hW.alike hKc, hDc.weaken (fun _ _ _ _ => trivial)⟩⟩ rfl rfl hl.1 rfl (lv_room (Nat.le_of_ble_eq_true rfl)) dX2_init_41 ⟨Nat.le_of_ble_eq_true rfl, Nat.le_of_ble_eq_true rfl⟩) hS (fun q _ h => hFc q h) hFc (fun u2 t H1 locs ht hvm hw2 hB hz1 hk1 hS => ?_)
  obtain ⟨e0_3, hP1, hK1, hD1⟩ := hB
  rw [ht] at hP1
  have hK1 := va_K.moved hvm.symm hK1
  obtain ⟨hP, hD⟩ := va_join (wr := [(h0, .inr (2, [.ref a1, .null, .ref a2, .int 0, .int 0, .int 0, .int 0]))]) (w1 := [(q35, .inr (0, [.ref a1, .ref a2, .int 0, .int 0, .int 0, .int 0, .int 0, .ref e0_3, .int 0, .int 0, .int 0]))]) hP hD [1] [0] rfl rfl (by decide) (by decide) hk1 hFc hP1 hD1
  have hK := (hK.sub (tys' := []) [] rfl).app hK1
  generalize H1 = H at hP hS ⊢
  have hP : va_P (dC, dI) vwCl [(h0, .inr (2, [.ref a1, .null, .ref a2, .int 0, .int 0, .int 0, .int 0])), (q35, .inr (0, [.ref a1, .ref a2, .int 0, .int 0, .int 0, .int 0, .int 0, .ref e0_3, .int 0, .int 0, .int 0]))] H := hP
  have hD : va_D A [(h0, .inr (2, [.ref a1, .null, .ref a2, .int 0, .int 0, .int 0, .int 0])), (q35, .inr (0, [.ref a1, .ref a2, .int 0, .int 0, .int 0, .int 0, .int 0, .ref e0_3, .int 0, .int 0, .int 0]))] := hD
  have hK : va_K (dC, dI) vwCl [] s := hK
  refine W.widen (k := 2) (n := 51) (Nat.le_of_ble_eq_true rfl) (Nat.le_of_ble_eq_true rfl) ?_
  refine va_putF (D := (dC, dI)) (ci := 2) (v := .ref q35) (ty := .object "AttributeDesk$ExpressionReader") (C := RX2) (T := TX2) (N := 7) hx hb hg inG_X2 tyX2 tyX2_ok nmX2 hown hK hP hD hS 0 rfl rfl 1 (by decide) (hg (.fieldLink RX2 38 "AttributeDesk$GrammarReader" "expression" "LAttributeDesk$ExpressionReader;") gw_2_0) (fun _ h9 => h9) rfl hin rfl (by decide +kernel) rfl rfl (Nat.le_of_ble_eq_true rfl) dX2_init_44 (fun H locs hP hD hS => ?_)
  have hP : va_P (dC, dI) vwCl [(h0, .inr (2, [.ref a1, .ref q35, .ref a2, .int 0, .int 0, .int 0, .int 0])), (q35, .inr (0, [.ref a1, .ref a2, .int 0, .int 0, .int 0, .int 0, .int 0, .ref e0_3, .int 0, .int 0, .int 0]))] H := hP
  have hD : va_D A [(h0, .inr (2, [.ref a1, .ref q35, .ref a2, .int 0, .int 0, .int 0, .int 0])), (q35, .inr (0, [.ref a1, .ref a2, .int 0, .int 0, .int 0, .int 0, .int 0, .ref e0_3, .int 0, .int 0, .int 0]))] := hD
  have hP := hP.sub (ws' := [(h0, .inr (2, [.ref a1, .ref q35, .ref a2, .int 0, .int 0, .int 0, .int 0]))]) [0] rfl
  have hD := hD.sub (ws' := [(h0, .inr (2, [.ref a1, .ref q35, .ref a2, .int 0, .int 0, .int 0, .int 0]))]) [0] (by decide) rfl
  have hP9 := hP.sub (ws' := [(h0, .inr (2, [.ref a1, .ref q35, .ref a2, .int 0, .int 0, .int 0, .int 0]))]) [0] rfl
  have hD9 := hD.sub (ws' := [(h0, .inr (2, [.ref a1, .ref q35, .ref a2, .int 0, .int 0, .int 0, .int 0]))]) [0] (by decide) rfl
  have hK9 := hK.sub (tys' := []) [] rfl
  refine W.widen (k := 2) (n := 51) (Nat.le_of_ble_eq_true rfl) (Nat.le_of_ble_eq_true rfl) ?_
  exact W.vret hx hb hr (fun t ht hW => ⟨⟨(), rfl, trivial, q35, by rw [ht]; exact hP9, va_K.moved hW.alike hK9, hD9⟩, hS.F ht⟩) hS.2.2 dX2_init_47

set_option maxHeartbeats 4000000 in
set_option maxRecDepth 100000 in
theorem c_X5_init (l : Launch) (dC : Nat → ClassId) (dI : Nat → Nat → Nat) (h0 a1 a2 a3 : Nat) (sz : Nat) : Met l yX5_init wyX5_init ({ frames := 1, cells := 1, slots := 200, locals := 12 }) (va_Pc [.ref h0, .ref a1, .ref a2, .ref a3] (fun U => U.heap.size = sz ∧ va_P (dC, dI) vwCl [(h0, .inr (5, [.null, .null, .null, .int 0, .int 0, .int 0, .null]))] U.heap ∧ va_K (dC, dI) vwCl [] U ∧ va_D (fun _ => True) [(h0, .inr (5, [.null, .null, .null, .int 0, .int 0, .int 0, .null]))])) (va_Qv (fun _ : Unit => True) (fun _ t => ∃ (e0 : Nat), va_P (dC, dI) vwCl [(h0, .inr (5, [.ref a1, .ref a2, .ref a3, .int 0, .int (-1), .int 0, .ref e0]))] t.heap ∧ va_K (dC, dI) vwCl [] t ∧ va_D (va_A [(h0, .inr (5, [.null, .null, .null, .int 0, .int 0, .int 0, .null]))] sz) [(h0, .inr (5, [.ref a1, .ref a2, .ref a3, .int 0, .int (-1), .int 0, .ref e0]))]) (va_A [(h0, .inr (5, [.null, .null, .null, .int 0, .int 0, .int 0, .null]))] sz)) 1 200 (va_A [(h0, .inr (5, [.null, .null, .null, .int 0, .int 0, .int 0, .null]))] sz) := by
  refine Met.ofW (cc := cX5_init) (maxL := 4) (ret := none) (by decide) rfl ?_
  intro p e s m args below meth c s₁ B hml hv
  obtain ⟨rfl, hsz, hP, hK, hD0⟩ := hv
  have hx := B.exec
  have hb := B.bytes
  have hr := B.returns
  have hts := atoms_spec (ws := wyX5_init) B.pre
  have hg : ∀ w ∈ lw_G, w.before _ s = true := fun w h => hts w (List.mem_cons_of_mem _ h)
  have hown : s.vm.findClass RX5 = some m.cls := findClass_of_methodNamed B.named
  have hlocks := B.notSynchronized
  have hin : meth.name = "<init>" := (name_of_methodNamed B.named B.method).1
  subst hsz
  have hD := hD0.self (sz := s.heap.size)
  generalize hAe : va_A [(h0, .inr (5, [.null, .null, .null, .int 0, .int 0, .int 0, .null]))] s.heap.size = A at hD ⊢
  have hA : ∀ q : Nat, s.heap.size ≤ q → A q := fun q h => by rw [← hAe]; exact Or.inr h
  have hS : va_S A s.heap s.heap [] := va_S.rf
  have hP : va_P (dC, dI) vwCl [(h0, .inr (5, [.null, .null, .null, .int 0, .int 0, .int 0, .null]))] s.heap := hP
  have hl := lv_entry ([.ref h0, .ref a1, .ref a2, .ref a3]) (n := 4) (Nat.le_of_ble_eq_true rfl)
  rw [lg_entry_eq]
  generalize (lg_sl ([.ref h0, .ref a1, .ref a2, .ref a3]) ++ List.replicate (4 - (lg_sl ([.ref h0, .ref a1, .ref a2, .ref a3])).length) Slot.unset).toArray = ls at hl ⊢
  have hl : lv_has ls 4 [(0, .ref h0), (1, .ref a1), (2, .ref a2), (3, .ref a3)] := hl
  refine lv_aload_n hx hb dX5_init_0 rfl (lv_at hl 0 rfl) ?_
  refine W.objInit hx hb hown (hg (.methodLink RX5 3 objectInit) gw_2_26) (hg (.instanceMethod objectInit) gw_1_18) (hg (.code objectInit ⟨#[0xb1]⟩ 1 none) gw_1_19) rfl (by rw [hml]; exact hl.1) rfl dX5_init_1 (Nat.le_of_ble_eq_true rfl) (Nat.le_of_ble_eq_true rfl) ?_
  refine W.eq (g2 := F0 m 4 ls []) rfl ?_
  refine lv_aload_n hx hb dX5_init_4 rfl (lv_at hl 0 rfl) ?_
  refine lv_iconst (v := 0) hx hb dX5_init_5 (by decide) ?_
  refine va_put (D := (dC, dI)) (ci := 5) (v := .int 0) (ty := .int) (C := RX5) (T := TX5) (N := 7) hx hb hg inG_X5 tyX5 tyX5_ok nmX5 hown hK hP hD hS 0 rfl rfl 3 (by decide) (hg (.fieldLink RX5 11 "AttributeDesk$TreeReader" "state" "I") gw_2_30) (fun _ h9 => h9) rfl (by decide +kernel) rfl rfl (Nat.le_of_ble_eq_true rfl) dX5_init_6 (fun H locs hP hD hS => ?_)
  have hP : va_P (dC, dI) vwCl [(h0, .inr (5, [.null, .null, .null, .int 0, .int 0, .int 0, .null]))] H := hP
  have hD : va_D A [(h0, .inr (5, [.null, .null, .null, .int 0, .int 0, .int 0, .null]))] := hD
  refine lv_aload_n hx hb dX5_init_9 rfl (lv_at hl 0 rfl) ?_
  refine lv_iconst (v := (-1)) hx hb dX5_init_10 (by decide) ?_
  refine va_put (D := (dC, dI)) (ci := 5) (v := .int (-1)) (ty := .int) (C := RX5) (T := TX5) (N := 7) hx hb hg inG_X5 tyX5 tyX5_ok nmX5 hown hK hP hD hS 0 rfl rfl 4 (by decide) (hg (.fieldLink RX5 15 "AttributeDesk$TreeReader" "here" "I") gw_2_31) (fun _ h9 => h9) rfl (by decide +kernel) rfl rfl (Nat.le_of_ble_eq_true rfl) dX5_init_11 (fun H locs hP hD hS => ?_)
  have hP : va_P (dC, dI) vwCl [(h0, .inr (5, [.null, .null, .null, .int 0, .int (-1), .int 0, .null]))] H := hP
  have hD : va_D A [(h0, .inr (5, [.null, .null, .null, .int 0, .int (-1), .int 0, .null]))] := hD
  refine lv_aload_n hx hb dX5_init_14 rfl (lv_at hl 0 rfl) ?_
  refine lv_iconst (v := 0) hx hb dX5_init_15 (by decide) ?_
  refine va_put (D := (dC, dI)) (ci := 5) (v := .int 0) (ty := .int) (C := RX5) (T := TX5) (N := 7) hx hb hg inG_X5 tyX5 tyX5_ok nmX5 hown hK hP hD hS 0 rfl rfl 5 (by decide) (hg (.fieldLink RX5 18 "AttributeDesk$TreeReader" "depth" "I") gw_2_32) (fun _ h9 => h9) rfl (by decide +kernel) rfl rfl (Nat.le_of_ble_eq_true rfl) dX5_init_16 (fun H locs hP hD hS => ?_)
  have hP : va_P (dC, dI) vwCl [(h0, .inr (5, [.null, .null, .null, .int 0, .int (-1), .int 0, .null]))] H := hP
  have hD : va_D A [(h0, .inr (5, [.null, .null, .null, .int 0, .int (-1), .int 0, .null]))] := hD
  refine lv_aload_n hx hb dX5_init_19 rfl (lv_at hl 0 rfl) ?_
  refine lv_sipush (v := 200) hx hb dX5_init_20 (by decide) ?_
  refine va_newa (atype := .int) (a0 := (200, .inl (fun _ => 0))) hx hb (hg (.arrayClass .int) gw_1_112) rfl hK hP hD hS hA (fun _ => rfl) (by decide) (N' := 200) rfl (Nat.le_of_ble_eq_true rfl) (Nat.le_of_ble_eq_true rfl) (Nat.le_of_ble_eq_true rfl) dX5_init_23 (fun q23 cq23 H hK hP hD hS => ?_)
  have hK : va_K (dC, dI) vwCl [(cq23, .int)] s := hK
  have hP : va_P (dC, dI) vwCl [(h0, .inr (5, [.null, .null, .null, .int 0, .int (-1), .int 0, .null])), (q23, .inl (cq23, 200, .inl (fun _ => 0)))] H := hP
  have hD : va_D A [(h0, .inr (5, [.null, .null, .null, .int 0, .int (-1), .int 0, .null])), (q23, .inl (cq23, 200, .inl (fun _ => 0)))] := hD
  refine W.widen (k := 1) (n := 200) (Nat.le_of_ble_eq_true rfl) (Nat.le_of_ble_eq_true rfl) ?_
  refine va_putF (D := (dC, dI)) (ci := 5) (v := .ref q23) (ty := .array .int) (C := RX5) (T := TX5) (N := 7) hx hb hg inG_X5 tyX5 tyX5_ok nmX5 hown hK hP hD hS 0 rfl rfl 6 (by decide) (hg (.fieldLink RX5 21 "AttributeDesk$TreeReader" "filled" "[I") gw_2_33) (fun _ h9 => h9) rfl hin rfl (by decide +kernel) rfl rfl (Nat.le_of_ble_eq_true rfl) dX5_init_25 (fun H locs hP hD hS => ?_)
  have hP : va_P (dC, dI) vwCl [(h0, .inr (5, [.null, .null, .null, .int 0, .int (-1), .int 0, .ref q23])), (q23, .inl (cq23, 200, .inl (fun _ => 0)))] H := hP
  have hD : va_D A [(h0, .inr (5, [.null, .null, .null, .int 0, .int (-1), .int 0, .ref q23])), (q23, .inl (cq23, 200, .inl (fun _ => 0)))] := hD
  have hP := hP.sub (ws' := [(h0, .inr (5, [.null, .null, .null, .int 0, .int (-1), .int 0, .ref q23]))]) [0] rfl
  have hD := hD.sub (ws' := [(h0, .inr (5, [.null, .null, .null, .int 0, .int (-1), .int 0, .ref q23]))]) [0] (by decide) rfl
  have hK := hK.sub (tys' := []) [] rfl
  refine lv_aload_n hx hb dX5_init_28 rfl (lv_at hl 0 rfl) ?_
  refine lv_aload_n hx hb dX5_init_29 rfl (lv_at hl 1 rfl) ?_
  refine va_putF (D := (dC, dI)) (ci := 5) (v := .ref a1) (ty := .object "AttributeDesk$Tokens") (C := RX5) (T := TX5) (N := 7) hx hb hg inG_X5 tyX5 tyX5_ok nmX5 hown hK hP hD hS 0 rfl rfl 0 (by decide) (hg (.fieldLink RX5 25 "AttributeDesk$TreeReader" "tokens" "LAttributeDesk$Tokens;") gw_2_27) (fun _ h9 => h9) rfl hin rfl (by decide +kernel) rfl rfl (Nat.le_of_ble_eq_true rfl) dX5_init_30 (fun H locs hP hD hS => ?_)
  have hP : va_P (dC, dI) vwCl [(h0, .inr (5, [.ref a1, .null, .null, .int 0, .int (-1), .int 0, .ref q23]))] H := hP
  have hD : va_D A [(h0, .inr (5, [.ref a1, .null, .null, .int 0, .int (-1), .int 0, .ref q23]))] := hD
  refine lv_aload_n hx hb dX5_init_33 rfl (lv_at hl 0 rfl) ?_
  refine lv_aload_n hx hb dX5_init_34 rfl (lv_at hl 2 rfl) ?_
  refine va_put (D := (dC, dI)) (ci := 5) (v := .ref a2) (ty := .object "AttributeDesk$Grammar") (C := RX5) (T := TX5) (N := 7) hx hb hg inG_X5 tyX5 tyX5_ok nmX5 hown hK hP hD hS 0 rfl rfl 1 (by decide) (hg (.fieldLink RX5 29 "AttributeDesk$TreeReader" "grammar" "LAttributeDesk$Grammar;") gw_2_28) (fun _ h9 => h9) rfl (by decide +kernel) rfl rfl (Nat.le_of_ble_eq_true rfl) dX5_init_35 (fun H locs hP hD hS => ?_)
  have hP : va_P (dC, dI) vwCl [(h0, .inr (5, [.ref a1, .ref a2, .null, .int 0, .int (-1), .int 0, .ref q23]))] H := hP
  have hD : va_D A [(h0, .inr (5, [.ref a1, .ref a2, .null, .int 0, .int (-1), .int 0, .ref q23]))] := hD
  refine lv_aload_n hx hb dX5_init_38 rfl (lv_at hl 0 rfl) ?_
  refine lv_aload_n hx hb dX5_init_39 rfl (lv_at hl 3 rfl) ?_
  refine va_put (D := (dC, dI)) (ci := 5) (v := .ref a3) (ty := .object "AttributeDesk$Tree") (C := RX5) (T := TX5) (N := 7) hx hb hg inG_X5 tyX5 tyX5_ok nmX5 hown hK hP hD hS 0 rfl rfl 2 (by decide) (hg (.fieldLink RX5 33 "AttributeDesk$TreeReader" "tree" "LAttributeDesk$Tree;") gw_2_29) (fun _ h9 => h9) rfl (by decide +kernel) rfl rfl (Nat.le_of_ble_eq_true rfl) dX5_init_40 (fun H locs hP hD hS => ?_)
  have hP : va_P (dC, dI) vwCl [(h0, .inr (5, [.ref a1, .ref a2, .ref a3, .int 0, .int (-1), .int 0, .ref q23]))] H := hP
  have hD : va_D A [(h0, .inr (5, [.ref a1, .ref a2, .ref a3, .int 0, .int (-1), .int 0, .ref q23]))] := hD
  have hP9 := hP.sub (ws' := [(h0, .inr (5, [.ref a1, .ref a2, .ref a3, .int 0, .int (-1), .int 0, .ref q23]))]) [0] rfl
  have hD9 := hD.sub (ws' := [(h0, .inr (5, [.ref a1, .ref a2, .ref a3, .int 0, .int (-1), .int 0, .ref q23]))]) [0] (by decide) rfl
  have hK9 := hK.sub (tys' := []) [] rfl
  refine W.widen (k := 1) (n := 200) (Nat.le_of_ble_eq_true rfl) (Nat.le_of_ble_eq_true rfl) ?_
  exact W.vret hx hb hr (fun t ht hW => ⟨⟨(), rfl, trivial, q23, by rw [ht]; exact hP9, va_K.moved hW.alike hK9, hD9⟩, hS.F ht⟩) hS.2.2 dX5_init_43

set_option maxHeartbeats 4000000 in
set_option maxRecDepth 100000 in
theorem c_X6_init (l : Launch) (dC : Nat → ClassId) (dI : Nat → Nat → Nat) (h0 a1 : Nat) (sz : Nat) : Met l yX6_init wyX6_init ({ frames := 1, cells := 13, slots := 12546, locals := 12 }) (va_Pc [.ref h0, .ref a1] (fun U => U.heap.size = sz ∧ va_P (dC, dI) vwCl [(h0, .inr (6, [.null, .null, .int 0, .null, .null, .null, .null, .null, .null, .null, .null, .null, .null, .null, .null]))] U.heap ∧ va_K (dC, dI) vwCl [] U ∧ va_D (fun _ => True) [(h0, .inr (6, [.null, .null, .int 0, .null, .null, .null, .null, .null, .null, .null, .null, .null, .null, .null, .null]))])) (va_Qv (fun _ : Unit => True) (fun _ t => ∃ (e0 : Nat), ∃ (e1 : Nat), ∃ (e2 : Nat), ∃ (e3 : Nat), ∃ (e4 : Nat), ∃ (e5 : Nat), ∃ (e6 : Nat), ∃ (e7 : Nat), ∃ (e8 : Nat), ∃ (e9 : Nat), ∃ (e10 : Nat), ∃ (e11 : Nat), ∃ (e12 : Nat), va_P (dC, dI) vwCl [(h0, .inr (6, [.ref e0, .ref e1, .int 0, .ref e2, .ref e3, .ref e4, .ref e5, .ref a1, .ref e6, .ref e7, .ref e8, .ref e9, .ref e10, .ref e11, .ref e12]))] t.heap ∧ va_K (dC, dI) vwCl [] t ∧ va_D (va_A [(h0, .inr (6, [.null, .null, .int 0, .null, .null, .null, .null, .null, .null, .null, .null, .null, .null, .null, .null]))] sz) [(h0, .inr (6, [.ref e0, .ref e1, .int 0, .ref e2, .ref e3, .ref e4, .ref e5, .ref a1, .ref e6, .ref e7, .ref e8, .ref e9, .ref e10, .ref e11, .ref e12]))]) (va_A [(h0, .inr (6, [.null, .null, .int 0, .null, .null, .null, .null, .null, .null, .null, .null, .null, .null, .null, .null]))] sz)) 13 12546 (va_A [(h0, .inr (6, [.null, .null, .int 0, .null, .null, .null, .null, .null, .null, .null, .null, .null, .null, .null, .null]))] sz) := by
  refine Met.ofW (cc := cX6_init) (maxL := 2) (ret := none) (by decide) rfl ?_
  intro p e s m args below meth c s₁ B hml hv
  obtain ⟨rfl, hsz, hP, hK, hD0⟩ := hv
  have hx := B.exec
  have hb := B.bytes
  have hr := B.returns
  have hts := atoms_spec (ws := wyX6_init) B.pre
  have hg : ∀ w ∈ lw_G, w.before _ s = true := fun w h => hts w (List.mem_cons_of_mem _ h)
  have hown : s.vm.findClass RX6 = some m.cls := findClass_of_methodNamed B.named
  have hlocks := B.notSynchronized
  have hin : meth.name = "<init>" := (name_of_methodNamed B.named B.method).1
  subst hsz
  have hD := hD0.self (sz := s.heap.size)
  generalize hAe : va_A [(h0, .inr (6, [.null, .null, .int 0, .null, .null, .null, .null, .null, .null, .null, .null, .null, .null, .null, .null]))] s.heap.size = A at hD ⊢
  have hA : ∀ q : Nat, s.heap.size ≤ q → A q := fun q h => by rw [← hAe]; exact Or.inr h
  have hS : va_S A s.heap s.heap [] := va_S.rf
  have hP : va_P (dC, dI) vwCl [(h0, .inr (6, [.null, .null, .int 0, .null, .null, .null, .null, .null, .null, .null, .null, .null, .null, .null, .null]))] s.heap := hP
  have hl := lv_entry ([.ref h0, .ref a1]) (n := 2) (Nat.le_of_ble_eq_true rfl)
  rw [lg_entry_eq]
  generalize (lg_sl ([.ref h0, .ref a1]) ++ List.replicate (2 - (lg_sl ([.ref h0, .ref a1])).length) Slot.unset).toArray = ls at hl ⊢
  have hl : lv_has ls 2 [(0, .ref h0), (1, .ref a1)] := hl
  refine lv_aload_n hx hb dX6_init_0 rfl (lv_at hl 0 rfl) ?_
  refine W.objInit hx hb hown (hg (.methodLink RX6 3 objectInit) gw_2_54) (hg (.instanceMethod objectInit) gw_1_18) (hg (.code objectInit ⟨#[0xb1]⟩ 1 none) gw_1_19) rfl (by rw [hml]; exact hl.1) rfl dX6_init_1 (Nat.le_of_ble_eq_true rfl) (Nat.le_of_ble_eq_true rfl) ?_
  refine W.eq (g2 := F0 m 4 ls []) rfl ?_
  refine lv_aload_n hx hb dX6_init_4 rfl (lv_at hl 0 rfl) ?_
  refine lv_bipush (v := 12) hx hb dX6_init_5 (by decide) ?_
  refine va_newa (atype := .int) (a0 := (12, .inl (fun _ => 0))) hx hb (hg (.arrayClass .int) gw_1_112) rfl hK hP hD hS hA (fun _ => rfl) (by decide) (N' := 12) rfl (Nat.le_of_ble_eq_true rfl) (Nat.le_of_ble_eq_true rfl) (Nat.le_of_ble_eq_true rfl) dX6_init_7 (fun q7 cq7 H hK hP hD hS => ?_)
  have hK : va_K (dC, dI) vwCl [(cq7, .int)] s := hK
  have hP : va_P (dC, dI) vwCl [(h0, .inr (6, [.null, .null, .int 0, .null, .null, .null, .null, .null, .null, .null, .null, .null, .null, .null, .null])), (q7, .inl (cq7, 12, .inl (fun _ => 0)))] H := hP
  have hD : va_D A [(h0, .inr (6, [.null, .null, .int 0, .null, .null, .null, .null, .null, .null, .null, .null, .null, .null, .null, .null])), (q7, .inl (cq7, 12, .inl (fun _ => 0)))] := hD
  refine W.widen (k := 1) (n := 12) (Nat.le_of_ble_eq_true rfl) (Nat.le_of_ble_eq_true rfl) ?_
  refine va_putF (D := (dC, dI)) (ci := 6) (v := .ref q7) (ty := .array .int) (C := RX6) (T := TX6) (N := 15) hx hb hg inG_X6 tyX6 tyX6_ok nmX6 hown hK hP hD hS 0 rfl rfl 0 (by decide) (hg (.fieldLink RX6 9 "AttributeDesk$Ways" "plain" "[I") gw_2_55) (fun _ h9 => h9) rfl hin rfl (by decide +kernel) rfl rfl (Nat.le_of_ble_eq_true rfl) dX6_init_9 (fun H locs hP hD hS => ?_)
  have hP : va_P (dC, dI) vwCl [(h0, .inr (6, [.ref q7, .null, .int 0, .null, .null, .null, .null, .null, .null, .null, .null, .null, .null, .null, .null])), (q7, .inl (cq7, 12, .inl (fun _ => 0)))] H := hP
  have hD : va_D A [(h0, .inr (6, [.ref q7, .null, .int 0, .null, .null, .null, .null, .null, .null, .null, .null, .null, .null, .null, .null])), (q7, .inl (cq7, 12, .inl (fun _ => 0)))] := hD
  have hP := hP.sub (ws' := [(h0, .inr (6, [.ref q7, .null, .int 0, .null, .null, .null, .null, .null, .null, .null, .null, .null, .null, .null, .null]))]) [0] rfl
  have hD := hD.sub (ws' := [(h0, .inr (6, [.ref q7, .null, .int 0, .null, .null, .null, .null, .null, .null, .null, .null, .null, .null, .null, .null]))]) [0] (by decide) rfl
  have hK := hK.sub (tys' := []) [] rfl
  refine lv_aload_n hx hb dX6_init_12 rfl (lv_at hl 0 rfl) ?_
  refine lv_bipush (v := 30) hx hb dX6_init_13 (by decide) ?_
  refine va_newa (atype := .boolean) (a0 := (30, .inl (fun _ => 0))) hx hb (hg (.arrayClass .boolean) gw_1_113) rfl hK hP hD hS hA (fun _ => rfl) (by decide) (N' := 30) rfl (Nat.le_of_ble_eq_true rfl) (Nat.le_of_ble_eq_true rfl) (Nat.le_of_ble_eq_true rfl) dX6_init_15 (fun q15 cq15 H hK hP hD hS => ?_)
  have hK : va_K (dC, dI) vwCl [(cq15, .boolean)] s := hK
  have hP : va_P (dC, dI) vwCl [(h0, .inr (6, [.ref q7, .null, .int 0, .null, .null, .null, .null, .null, .null, .null, .null, .null, .null, .null, .null])), (q15, .inl (cq15, 30, .inl (fun _ => 0)))] H := hP
  have hD : va_D A [(h0, .inr (6, [.ref q7, .null, .int 0, .null, .null, .null, .null, .null, .null, .null, .null, .null, .null, .null, .null])), (q15, .inl (cq15, 30, .inl (fun _ => 0)))] := hD
  refine W.widen (k := 2) (n := 42) (Nat.le_of_ble_eq_true rfl) (Nat.le_of_ble_eq_true rfl) ?_
  refine va_putF (D := (dC, dI)) (ci := 6) (v := .ref q15) (ty := .array .boolean) (C := RX6) (T := TX6) (N := 15) hx hb hg inG_X6 tyX6 tyX6_ok nmX6 hown hK hP hD hS 0 rfl rfl 1 (by decide) (hg (.fieldLink RX6 15 "AttributeDesk$Ways" "plainRound" "[Z") gw_2_57) (fun _ h9 => h9) rfl hin rfl (by decide +kernel) rfl rfl (Nat.le_of_ble_eq_true rfl) dX6_init_17 (fun H locs hP hD hS => ?_)
  have hP : va_P (dC, dI) vwCl [(h0, .inr (6, [.ref q7, .ref q15, .int 0, .null, .null, .null, .null, .null, .null, .null, .null, .null, .null, .null, .null])), (q15, .inl (cq15, 30, .inl (fun _ => 0)))] H := hP
  have hD : va_D A [(h0, .inr (6, [.ref q7, .ref q15, .int 0, .null, .null, .null, .null, .null, .null, .null, .null, .null, .null, .null, .null])), (q15, .inl (cq15, 30, .inl (fun _ => 0)))] := hD
  have hP := hP.sub (ws' := [(h0, .inr (6, [.ref q7, .ref q15, .int 0, .null, .null, .null, .null, .null, .null, .null, .null, .null, .null, .null, .null]))]) [0] rfl
  have hD := hD.sub (ws' := [(h0, .inr (6, [.ref q7, .ref q15, .int 0, .null, .null, .null, .null, .null, .null, .null, .null, .null, .null, .null, .null]))]) [0] (by decide) rfl
  have hK := hK.sub (tys' := []) [] rfl
  refine lv_aload_n hx hb dX6_init_20 rfl (lv_at hl 0 rfl) ?_
  refine lv_iconst (v := 0) hx hb dX6_init_21 (by decide) ?_
  refine va_put (D := (dC, dI)) (ci := 6) (v := .int 0) (ty := .boolean) (C := RX6) (T := TX6) (N := 15) hx hb hg inG_X6 tyX6 tyX6_ok nmX6 hown hK hP hD hS 0 rfl rfl 2 (by decide) (hg (.fieldLink RX6 19 "AttributeDesk$Ways" "tooLarge" "Z") gw_2_59) (fun _ h9 => h9) rfl (by decide +kernel) rfl rfl (Nat.le_of_ble_eq_true rfl) dX6_init_22 (fun H locs hP hD hS => ?_)
  have hP : va_P (dC, dI) vwCl [(h0, .inr (6, [.ref q7, .ref q15, .int 0, .null, .null, .null, .null, .null, .null, .null, .null, .null, .null, .null, .null]))] H := hP
  have hD : va_D A [(h0, .inr (6, [.ref q7, .ref q15, .int 0, .null, .null, .null, .null, .null, .null, .null, .null, .null, .null, .null, .null]))] := hD
  refine lv_aload_n hx hb dX6_init_25 rfl (lv_at hl 0 rfl) ?_
  refine lv_sipush (v := 6144) hx hb dX6_init_26 (by decide) ?_
  refine va_newa (atype := .int) (a0 := (6144, .inl (fun _ => 0))) hx hb (hg (.arrayClass .int) gw_1_112) rfl hK hP hD hS hA (fun _ => rfl) (by decide) (N' := 6144) rfl (Nat.le_of_ble_eq_true rfl) (Nat.le_of_ble_eq_true rfl) (Nat.le_of_ble_eq_true rfl) dX6_init_29 (fun q29 cq29 H hK hP hD hS => ?_)
  have hK : va_K (dC, dI) vwCl [(cq29, .int)] s := hK
  have hP : va_P (dC, dI) vwCl [(h0, .inr (6, [.ref q7, .ref q15, .int 0, .null, .null, .null, .null, .null, .null, .null, .null, .null, .null, .null, .null])), (q29, .inl (cq29, 6144, .inl (fun _ => 0)))] H := hP
  have hD : va_D A [(h0, .inr (6, [.ref q7, .ref q15, .int 0, .null, .null, .null, .null, .null, .null, .null, .null, .null, .null, .null, .null])), (q29, .inl (cq29, 6144, .inl (fun _ => 0)))] := hD
  refine W.widen (k := 3) (n := 6186) (Nat.le_of_ble_eq_true rfl) (Nat.le_of_ble_eq_true rfl) ?_
  refine va_putF (D := (dC, dI)) (ci := 6) (v := .ref q29) (ty := .array .int) (C := RX6) (T := TX6) (N := 15) hx hb hg inG_X6 tyX6 tyX6_ok nmX6 hown hK hP hD hS 0 rfl rfl 3 (by decide) (hg (.fieldLink RX6 23 "AttributeDesk$Ways" "graphs" "[I") gw_2_61) (fun _ h9 => h9) rfl hin rfl (by decide +kernel) rfl rfl (Nat.le_of_ble_eq_true rfl) dX6_init_31 (fun H locs hP hD hS => ?_)
  have hP : va_P (dC, dI) vwCl [(h0, .inr (6, [.ref q7, .ref q15, .int 0, .ref q29, .null, .null, .null, .null, .null, .null, .null, .null, .null, .null, .null])), (q29, .inl (cq29, 6144, .inl (fun _ => 0)))] H := hP
  have hD : va_D A [(h0, .inr (6, [.ref q7, .ref q15, .int 0, .ref q29, .null, .null, .null, .null, .null, .null, .null, .null, .null, .null, .null])), (q29, .inl (cq29, 6144, .inl (fun _ => 0)))] := hD
  have hP := hP.sub (ws' := [(h0, .inr (6, [.ref q7, .ref q15, .int 0, .ref q29, .null, .null, .null, .null, .null, .null, .null, .null, .null, .null, .null]))]) [0] rfl
  have hD := hD.sub (ws' := [(h0, .inr (6, [.ref q7, .ref q15, .int 0, .ref q29, .null, .null, .null, .null, .null, .null, .null, .null, .null, .null, .null]))]) [0] (by decide) rfl
  have hK := hK.sub (tys' := []) [] rfl
  refine lv_aload_n hx hb dX6_init_34 rfl (lv_at hl 0 rfl) ?_
  refine lv_bipush (v := 12) hx hb dX6_init_35 (by decide) ?_
  refine va_newa (atype := .int) (a0 := (12, .inl (fun _ => 0))) hx hb (hg (.arrayClass .int) gw_1_112) rfl hK hP hD hS hA (fun _ => rfl) (by decide) (N' := 12) rfl (Nat.le_of_ble_eq_true rfl) (Nat.le_of_ble_eq_true rfl) (Nat.le_of_ble_eq_true rfl) dX6_init_37 (fun q37 cq37 H hK hP hD hS => ?_)
  have hK : va_K (dC, dI) vwCl [(cq37, .int)] s := hK
  have hP : va_P (dC, dI) vwCl [(h0, .inr (6, [.ref q7, .ref q15, .int 0, .ref q29, .null, .null, .null, .null, .null, .null, .null, .null, .null, .null, .null])), (q37, .inl (cq37, 12, .inl (fun _ => 0)))] H := hP
  have hD : va_D A [(h0, .inr (6, [.ref q7, .ref q15, .int 0, .ref q29, .null, .null, .null, .null, .null, .null, .null, .null, .null, .null, .null])), (q37, .inl (cq37, 12, .inl (fun _ => 0)))] := hD
  refine W.widen (k := 4) (n := 6198) (Nat.le_of_ble_eq_true rfl) (Nat.le_of_ble_eq_true rfl) ?_
  refine va_putF (D := (dC, dI)) (ci := 6) (v := .ref q37) (ty := .array .int) (C := RX6) (T := TX6) (N := 15) hx hb hg inG_X6 tyX6 tyX6_ok nmX6 hown hK hP hD hS 0 rfl rfl 4 (by decide) (hg (.fieldLink RX6 26 "AttributeDesk$Ways" "graphCounts" "[I") gw_2_63) (fun _ h9 => h9) rfl hin rfl (by decide +kernel) rfl rfl (Nat.le_of_ble_eq_true rfl) dX6_init_39 (fun H locs hP hD hS => ?_)
  have hP : va_P (dC, dI) vwCl [(h0, .inr (6, [.ref q7, .ref q15, .int 0, .ref q29, .ref q37, .null, .null, .null, .null, .null, .null, .null, .null, .null, .null])), (q37, .inl (cq37, 12, .inl (fun _ => 0)))] H := hP
  have hD : va_D A [(h0, .inr (6, [.ref q7, .ref q15, .int 0, .ref q29, .ref q37, .null, .null, .null, .null, .null, .null, .null, .null, .null, .null])), (q37, .inl (cq37, 12, .inl (fun _ => 0)))] := hD
  have hP := hP.sub (ws' := [(h0, .inr (6, [.ref q7, .ref q15, .int 0, .ref q29, .ref q37, .null, .null, .null, .null, .null, .null, .null, .null, .null, .null]))]) [0] rfl
  have hD := hD.sub (ws' := [(h0, .inr (6, [.ref q7, .ref q15, .int 0, .ref q29, .ref q37, .null, .null, .null, .null, .null, .null, .null, .null, .null, .null]))]) [0] (by decide) rfl
  have hK := hK.sub (tys' := []) [] rfl
  refine lv_aload_n hx hb dX6_init_42 rfl (lv_at hl 0 rfl) ?_
  refine lv_bipush (v := 30) hx hb dX6_init_43 (by decide) ?_
  refine va_newa (atype := .boolean) (a0 := (30, .inl (fun _ => 0))) hx hb (hg (.arrayClass .boolean) gw_1_113) rfl hK hP hD hS hA (fun _ => rfl) (by decide) (N' := 30) rfl (Nat.le_of_ble_eq_true rfl) (Nat.le_of_ble_eq_true rfl) (Nat.le_of_ble_eq_true rfl) dX6_init_45 (fun q45 cq45 H hK hP hD hS => ?_)
  have hK : va_K (dC, dI) vwCl [(cq45, .boolean)] s := hK
  have hP : va_P (dC, dI) vwCl [(h0, .inr (6, [.ref q7, .ref q15, .int 0, .ref q29, .ref q37, .null, .null, .null, .null, .null, .null, .null, .null, .null, .null])), (q45, .inl (cq45, 30, .inl (fun _ => 0)))] H := hP
  have hD : va_D A [(h0, .inr (6, [.ref q7, .ref q15, .int 0, .ref q29, .ref q37, .null, .null, .null, .null, .null, .null, .null, .null, .null, .null])), (q45, .inl (cq45, 30, .inl (fun _ => 0)))] := hD
  refine W.widen (k := 5) (n := 6228) (Nat.le_of_ble_eq_true rfl) (Nat.le_of_ble_eq_true rfl) ?_
  refine va_putF (D := (dC, dI)) (ci := 6) (v := .ref q45) (ty := .array .boolean) (C := RX6) (T := TX6) (N := 15) hx hb hg inG_X6 tyX6 tyX6_ok nmX6 hown hK hP hD hS 0 rfl rfl 5 (by decide) (hg (.fieldLink RX6 29 "AttributeDesk$Ways" "exactRound" "[Z") gw_2_65) (fun _ h9 => h9) rfl hin rfl (by decide +kernel) rfl rfl (Nat.le_of_ble_eq_true rfl) dX6_init_47 (fun H locs hP hD hS => ?_)
  have hP : va_P (dC, dI) vwCl [(h0, .inr (6, [.ref q7, .ref q15, .int 0, .ref q29, .ref q37, .ref q45, .null, .null, .null, .null, .null, .null, .null, .null, .null])), (q45, .inl (cq45, 30, .inl (fun _ => 0)))] H := hP
  have hD : va_D A [(h0, .inr (6, [.ref q7, .ref q15, .int 0, .ref q29, .ref q37, .ref q45, .null, .null, .null, .null, .null, .null, .null, .null, .null])), (q45, .inl (cq45, 30, .inl (fun _ => 0)))] := hD
  have hP := hP.sub (ws' := [(h0, .inr (6, [.ref q7, .ref q15, .int 0, .ref q29, .ref q37, .ref q45, .null, .null, .null, .null, .null, .null, .null, .null, .null]))]) [0] rfl
  have hD := hD.sub (ws' := [(h0, .inr (6, [.ref q7, .ref q15, .int 0, .ref q29, .ref q37, .ref q45, .null, .null, .null, .null, .null, .null, .null, .null, .null]))]) [0] (by decide) rfl
  have hK := hK.sub (tys' := []) [] rfl
  refine lv_aload_n hx hb dX6_init_50 rfl (lv_at hl 0 rfl) ?_
  refine lv_bipush (v := 30) hx hb dX6_init_51 (by decide) ?_
  refine va_newa (atype := .boolean) (a0 := (30, .inl (fun _ => 0))) hx hb (hg (.arrayClass .boolean) gw_1_113) rfl hK hP hD hS hA (fun _ => rfl) (by decide) (N' := 30) rfl (Nat.le_of_ble_eq_true rfl) (Nat.le_of_ble_eq_true rfl) (Nat.le_of_ble_eq_true rfl) dX6_init_53 (fun q53 cq53 H hK hP hD hS => ?_)
  have hK : va_K (dC, dI) vwCl [(cq53, .boolean)] s := hK
  have hP : va_P (dC, dI) vwCl [(h0, .inr (6, [.ref q7, .ref q15, .int 0, .ref q29, .ref q37, .ref q45, .null, .null, .null, .null, .null, .null, .null, .null, .null])), (q53, .inl (cq53, 30, .inl (fun _ => 0)))] H := hP
  have hD : va_D A [(h0, .inr (6, [.ref q7, .ref q15, .int 0, .ref q29, .ref q37, .ref q45, .null, .null, .null, .null, .null, .null, .null, .null, .null])), (q53, .inl (cq53, 30, .inl (fun _ => 0)))] := hD
  refine W.widen (k := 6) (n := 6258) (Nat.le_of_ble_eq_true rfl) (Nat.le_of_ble_eq_true rfl) ?_
  refine va_putF (D := (dC, dI)) (ci := 6) (v := .ref q53) (ty := .array .boolean) (C := RX6) (T := TX6) (N := 15) hx hb hg inG_X6 tyX6 tyX6_ok nmX6 hown hK hP hD hS 0 rfl rfl 6 (by decide) (hg (.fieldLink RX6 32 "AttributeDesk$Ways" "comes" "[Z") gw_2_67) (fun _ h9 => h9) rfl hin rfl (by decide +kernel) rfl rfl (Nat.le_of_ble_eq_true rfl) dX6_init_55 (fun H locs hP hD hS => ?_)
  have hP : va_P (dC, dI) vwCl [(h0, .inr (6, [.ref q7, .ref q15, .int 0, .ref q29, .ref q37, .ref q45, .ref q53, .null, .null, .null, .null, .null, .null, .null, .null])), (q53, .inl (cq53, 30, .inl (fun _ => 0)))] H := hP
  have hD : va_D A [(h0, .inr (6, [.ref q7, .ref q15, .int 0, .ref q29, .ref q37, .ref q45, .ref q53, .null, .null, .null, .null, .null, .null, .null, .null])), (q53, .inl (cq53, 30, .inl (fun _ => 0)))] := hD
  have hP := hP.sub (ws' := [(h0, .inr (6, [.ref q7, .ref q15, .int 0, .ref q29, .ref q37, .ref q45, .ref q53, .null, .null, .null, .null, .null, .null, .null, .null]))]) [0] rfl
  have hD := hD.sub (ws' := [(h0, .inr (6, [.ref q7, .ref q15, .int 0, .ref q29, .ref q37, .ref q45, .ref q53, .null, .null, .null, .null, .null, .null, .null, .null]))]) [0] (by decide) rfl
  have hK := hK.sub (tys' := []) [] rfl
  refine lv_aload_n hx hb dX6_init_58 rfl (lv_at hl 0 rfl) ?_
  refine lv_sipush (v := 6144) hx hb dX6_init_59 (by decide) ?_
  refine va_newa (atype := .boolean) (a0 := (6144, .inl (fun _ => 0))) hx hb (hg (.arrayClass .boolean) gw_1_113) rfl hK hP hD hS hA (fun _ => rfl) (by decide) (N' := 6144) rfl (Nat.le_of_ble_eq_true rfl) (Nat.le_of_ble_eq_true rfl) (Nat.le_of_ble_eq_true rfl) dX6_init_62 (fun q62 cq62 H hK hP hD hS => ?_)
  have hK : va_K (dC, dI) vwCl [(cq62, .boolean)] s := hK
  have hP : va_P (dC, dI) vwCl [(h0, .inr (6, [.ref q7, .ref q15, .int 0, .ref q29, .ref q37, .ref q45, .ref q53, .null, .null, .null, .null, .null, .null, .null, .null])), (q62, .inl (cq62, 6144, .inl (fun _ => 0)))] H := hP
  have hD : va_D A [(h0, .inr (6, [.ref q7, .ref q15, .int 0, .ref q29, .ref q37, .ref q45, .ref q53, .null, .null, .null, .null, .null, .null, .null, .null])), (q62, .inl (cq62, 6144, .inl (fun _ => 0)))] := hD
  refine W.widen (k := 7) (n := 12402) (Nat.le_of_ble_eq_true rfl) (Nat.le_of_ble_eq_true rfl) ?_
  refine va_putF (D := (dC, dI)) (ci := 6) (v := .ref q62) (ty := .array .boolean) (C := RX6) (T := TX6) (N := 15) hx hb hg inG_X6 tyX6 tyX6_ok nmX6 hown hK hP hD hS 0 rfl rfl 8 (by decide) (hg (.fieldLink RX6 35 "AttributeDesk$Ways" "hasGraph" "[Z") gw_2_70) (fun _ h9 => h9) rfl hin rfl (by decide +kernel) rfl rfl (Nat.le_of_ble_eq_true rfl) dX6_init_64 (fun H locs hP hD hS => ?_)
  have hP : va_P (dC, dI) vwCl [(h0, .inr (6, [.ref q7, .ref q15, .int 0, .ref q29, .ref q37, .ref q45, .ref q53, .null, .ref q62, .null, .null, .null, .null, .null, .null])), (q62, .inl (cq62, 6144, .inl (fun _ => 0)))] H := hP
  have hD : va_D A [(h0, .inr (6, [.ref q7, .ref q15, .int 0, .ref q29, .ref q37, .ref q45, .ref q53, .null, .ref q62, .null, .null, .null, .null, .null, .null])), (q62, .inl (cq62, 6144, .inl (fun _ => 0)))] := hD
  have hP := hP.sub (ws' := [(h0, .inr (6, [.ref q7, .ref q15, .int 0, .ref q29, .ref q37, .ref q45, .ref q53, .null, .ref q62, .null, .null, .null, .null, .null, .null]))]) [0] rfl
  have hD := hD.sub (ws' := [(h0, .inr (6, [.ref q7, .ref q15, .int 0, .ref q29, .ref q37, .ref q45, .ref q53, .null, .ref q62, .null, .null, .null, .null, .null, .null]))]) [0] (by decide) rfl
  have hK := hK.sub (tys' := []) [] rfl
  refine lv_aload_n hx hb dX6_init_67 rfl (lv_at hl 0 rfl) ?_
  refine lv_bipush (v := 12) hx hb dX6_init_68 (by decide) ?_
  refine va_newa (atype := .boolean) (a0 := (12, .inl (fun _ => 0))) hx hb (hg (.arrayClass .boolean) gw_1_113) rfl hK hP hD hS hA (fun _ => rfl) (by decide) (N' := 12) rfl (Nat.le_of_ble_eq_true rfl) (Nat.le_of_ble_eq_true rfl) (Nat.le_of_ble_eq_true rfl) dX6_init_70 (fun q70 cq70 H hK hP hD hS => ?_)
  have hK : va_K (dC, dI) vwCl [(cq70, .boolean)] s := hK
  have hP : va_P (dC, dI) vwCl [(h0, .inr (6, [.ref q7, .ref q15, .int 0, .ref q29, .ref q37, .ref q45, .ref q53, .null, .ref q62, .null, .null, .null, .null, .null, .null])), (q70, .inl (cq70, 12, .inl (fun _ => 0)))] H := hP
  have hD : va_D A [(h0, .inr (6, [.ref q7, .ref q15, .int 0, .ref q29, .ref q37, .ref q45, .ref q53, .null, .ref q62, .null, .null, .null, .null, .null, .null])), (q70, .inl (cq70, 12, .inl (fun _ => 0)))] := hD
  refine W.widen (k := 8) (n := 12414) (Nat.le_of_ble_eq_true rfl) (Nat.le_of_ble_eq_true rfl) ?_
  refine va_putF (D := (dC, dI)) (ci := 6) (v := .ref q70) (ty := .array .boolean) (C := RX6) (T := TX6) (N := 15) hx hb hg inG_X6 tyX6 tyX6_ok nmX6 hown hK hP hD hS 0 rfl rfl 9 (by decide) (hg (.fieldLink RX6 38 "AttributeDesk$Ways" "hasTree" "[Z") gw_2_71) (fun _ h9 => h9) rfl hin rfl (by decide +kernel) rfl rfl (Nat.le_of_ble_eq_true rfl) dX6_init_72 (fun H locs hP hD hS => ?_)
  have hP : va_P (dC, dI) vwCl [(h0, .inr (6, [.ref q7, .ref q15, .int 0, .ref q29, .ref q37, .ref q45, .ref q53, .null, .ref q62, .ref q70, .null, .null, .null, .null, .null])), (q70, .inl (cq70, 12, .inl (fun _ => 0)))] H := hP
  have hD : va_D A [(h0, .inr (6, [.ref q7, .ref q15, .int 0, .ref q29, .ref q37, .ref q45, .ref q53, .null, .ref q62, .ref q70, .null, .null, .null, .null, .null])), (q70, .inl (cq70, 12, .inl (fun _ => 0)))] := hD
  have hP := hP.sub (ws' := [(h0, .inr (6, [.ref q7, .ref q15, .int 0, .ref q29, .ref q37, .ref q45, .ref q53, .null, .ref q62, .ref q70, .null, .null, .null, .null, .null]))]) [0] rfl
  have hD := hD.sub (ws' := [(h0, .inr (6, [.ref q7, .ref q15, .int 0, .ref q29, .ref q37, .ref q45, .ref q53, .null, .ref q62, .ref q70, .null, .null, .null, .null, .null]))]) [0] (by decide) rfl
  have hK := hK.sub (tys' := []) [] rfl
  refine lv_aload_n hx hb dX6_init_75 rfl (lv_at hl 0 rfl) ?_
  refine lv_bipush (v := 12) hx hb dX6_init_76 (by decide) ?_
  refine va_newa (atype := .boolean) (a0 := (12, .inl (fun _ => 0))) hx hb (hg (.arrayClass .boolean) gw_1_113) rfl hK hP hD hS hA (fun _ => rfl) (by decide) (N' := 12) rfl (Nat.le_of_ble_eq_true rfl) (Nat.le_of_ble_eq_true rfl) (Nat.le_of_ble_eq_true rfl) dX6_init_78 (fun q78 cq78 H hK hP hD hS => ?_)
  have hK : va_K (dC, dI) vwCl [(cq78, .boolean)] s := hK
  have hP : va_P (dC, dI) vwCl [(h0, .inr (6, [.ref q7, .ref q15, .int 0, .ref q29, .ref q37, .ref q45, .ref q53, .null, .ref q62, .ref q70, .null, .null, .null, .null, .null])), (q78, .inl (cq78, 12, .inl (fun _ => 0)))] H := hP
  have hD : va_D A [(h0, .inr (6, [.ref q7, .ref q15, .int 0, .ref q29, .ref q37, .ref q45, .ref q53, .null, .ref q62, .ref q70, .null, .null, .null, .null, .null])), (q78, .inl (cq78, 12, .inl (fun _ => 0)))] := hD
  refine W.widen (k := 9) (n := 12426) (Nat.le_of_ble_eq_true rfl) (Nat.le_of_ble_eq_true rfl) ?_
  refine va_putF (D := (dC, dI)) (ci := 6) (v := .ref q78) (ty := .array .boolean) (C := RX6) (T := TX6) (N := 15) hx hb hg inG_X6 tyX6 tyX6_ok nmX6 hown hK hP hD hS 0 rfl rfl 10 (by decide) (hg (.fieldLink RX6 41 "AttributeDesk$Ways" "isReached" "[Z") gw_2_72) (fun _ h9 => h9) rfl hin rfl (by decide +kernel) rfl rfl (Nat.le_of_ble_eq_true rfl) dX6_init_80 (fun H locs hP hD hS => ?_)
  have hP : va_P (dC, dI) vwCl [(h0, .inr (6, [.ref q7, .ref q15, .int 0, .ref q29, .ref q37, .ref q45, .ref q53, .null, .ref q62, .ref q70, .ref q78, .null, .null, .null, .null])), (q78, .inl (cq78, 12, .inl (fun _ => 0)))] H := hP
  have hD : va_D A [(h0, .inr (6, [.ref q7, .ref q15, .int 0, .ref q29, .ref q37, .ref q45, .ref q53, .null, .ref q62, .ref q70, .ref q78, .null, .null, .null, .null])), (q78, .inl (cq78, 12, .inl (fun _ => 0)))] := hD
  have hP := hP.sub (ws' := [(h0, .inr (6, [.ref q7, .ref q15, .int 0, .ref q29, .ref q37, .ref q45, .ref q53, .null, .ref q62, .ref q70, .ref q78, .null, .null, .null, .null]))]) [0] rfl
  have hD := hD.sub (ws' := [(h0, .inr (6, [.ref q7, .ref q15, .int 0, .ref q29, .ref q37, .ref q45, .ref q53, .null, .ref q62, .ref q70, .ref q78, .null, .null, .null, .null]))]) [0] (by decide) rfl
  have hK := hK.sub (tys' := []) [] rfl
  refine lv_aload_n hx hb dX6_init_83 rfl (lv_at hl 0 rfl) ?_
  refine lv_bipush (v := 24) hx hb dX6_init_84 (by decide) ?_
  refine va_newa (atype := .int) (a0 := (24, .inl (fun _ => 0))) hx hb (hg (.arrayClass .int) gw_1_112) rfl hK hP hD hS hA (fun _ => rfl) (by decide) (N' := 24) rfl (Nat.le_of_ble_eq_true rfl) (Nat.le_of_ble_eq_true rfl) (Nat.le_of_ble_eq_true rfl) dX6_init_86 (fun q86 cq86 H hK hP hD hS => ?_)
  have hK : va_K (dC, dI) vwCl [(cq86, .int)] s := hK
  have hP : va_P (dC, dI) vwCl [(h0, .inr (6, [.ref q7, .ref q15, .int 0, .ref q29, .ref q37, .ref q45, .ref q53, .null, .ref q62, .ref q70, .ref q78, .null, .null, .null, .null])), (q86, .inl (cq86, 24, .inl (fun _ => 0)))] H := hP
  have hD : va_D A [(h0, .inr (6, [.ref q7, .ref q15, .int 0, .ref q29, .ref q37, .ref q45, .ref q53, .null, .ref q62, .ref q70, .ref q78, .null, .null, .null, .null])), (q86, .inl (cq86, 24, .inl (fun _ => 0)))] := hD
  refine W.widen (k := 10) (n := 12450) (Nat.le_of_ble_eq_true rfl) (Nat.le_of_ble_eq_true rfl) ?_
  refine va_putF (D := (dC, dI)) (ci := 6) (v := .ref q86) (ty := .array .int) (C := RX6) (T := TX6) (N := 15) hx hb hg inG_X6 tyX6 tyX6_ok nmX6 hown hK hP hD hS 0 rfl rfl 11 (by decide) (hg (.fieldLink RX6 44 "AttributeDesk$Ways" "rows" "[I") gw_2_73) (fun _ h9 => h9) rfl hin rfl (by decide +kernel) rfl rfl (Nat.le_of_ble_eq_true rfl) dX6_init_88 (fun H locs hP hD hS => ?_)
  have hP : va_P (dC, dI) vwCl [(h0, .inr (6, [.ref q7, .ref q15, .int 0, .ref q29, .ref q37, .ref q45, .ref q53, .null, .ref q62, .ref q70, .ref q78, .ref q86, .null, .null, .null])), (q86, .inl (cq86, 24, .inl (fun _ => 0)))] H := hP
  have hD : va_D A [(h0, .inr (6, [.ref q7, .ref q15, .int 0, .ref q29, .ref q37, .ref q45, .ref q53, .null, .ref q62, .ref q70, .ref q78, .ref q86, .null, .null, .null])), (q86, .inl (cq86, 24, .inl (fun _ => 0)))] := hD
  have hP := hP.sub (ws' := [(h0, .inr (6, [.ref q7, .ref q15, .int 0, .ref q29, .ref q37, .ref q45, .ref q53, .null, .ref q62, .ref q70, .ref q78, .ref q86, .null, .null, .null]))]) [0] rfl
  have hD := hD.sub (ws' := [(h0, .inr (6, [.ref q7, .ref q15, .int 0, .ref q29, .ref q37, .ref q45, .ref q53, .null, .ref q62, .ref q70, .ref q78, .ref q86, .null, .null, .null]))]) [0] (by decide) rfl
  have hK := hK.sub (tys' := []) [] rfl
  refine lv_aload_n hx hb dX6_init_91 rfl (lv_at hl 0 rfl) ?_
  refine lv_bipush (v := 90) hx hb dX6_init_92 (by decide) ?_
  refine va_newa (atype := .int) (a0 := (90, .inl (fun _ => 0))) hx hb (hg (.arrayClass .int) gw_1_112) rfl hK hP hD hS hA (fun _ => rfl) (by decide) (N' := 90) rfl (Nat.le_of_ble_eq_true rfl) (Nat.le_of_ble_eq_true rfl) (Nat.le_of_ble_eq_true rfl) dX6_init_94 (fun q94 cq94 H hK hP hD hS => ?_)
  have hK : va_K (dC, dI) vwCl [(cq94, .int)] s := hK
  have hP : va_P (dC, dI) vwCl [(h0, .inr (6, [.ref q7, .ref q15, .int 0, .ref q29, .ref q37, .ref q45, .ref q53, .null, .ref q62, .ref q70, .ref q78, .ref q86, .null, .null, .null])), (q94, .inl (cq94, 90, .inl (fun _ => 0)))] H := hP
  have hD : va_D A [(h0, .inr (6, [.ref q7, .ref q15, .int 0, .ref q29, .ref q37, .ref q45, .ref q53, .null, .ref q62, .ref q70, .ref q78, .ref q86, .null, .null, .null])), (q94, .inl (cq94, 90, .inl (fun _ => 0)))] := hD
  refine W.widen (k := 11) (n := 12540) (Nat.le_of_ble_eq_true rfl) (Nat.le_of_ble_eq_true rfl) ?_
  refine va_putF (D := (dC, dI)) (ci := 6) (v := .ref q94) (ty := .array .int) (C := RX6) (T := TX6) (N := 15) hx hb hg inG_X6 tyX6 tyX6_ok nmX6 hown hK hP hD hS 0 rfl rfl 12 (by decide) (hg (.fieldLink RX6 47 "AttributeDesk$Ways" "taken" "[I") gw_2_74) (fun _ h9 => h9) rfl hin rfl (by decide +kernel) rfl rfl (Nat.le_of_ble_eq_true rfl) dX6_init_96 (fun H locs hP hD hS => ?_)
  have hP : va_P (dC, dI) vwCl [(h0, .inr (6, [.ref q7, .ref q15, .int 0, .ref q29, .ref q37, .ref q45, .ref q53, .null, .ref q62, .ref q70, .ref q78, .ref q86, .ref q94, .null, .null])), (q94, .inl (cq94, 90, .inl (fun _ => 0)))] H := hP
  have hD : va_D A [(h0, .inr (6, [.ref q7, .ref q15, .int 0, .ref q29, .ref q37, .ref q45, .ref q53, .null, .ref q62, .ref q70, .ref q78, .ref q86, .ref q94, .null, .null])), (q94, .inl (cq94, 90, .inl (fun _ => 0)))] := hD
  have hP := hP.sub (ws' := [(h0, .inr (6, [.ref q7, .ref q15, .int 0, .ref q29, .ref q37, .ref q45, .ref q53, .null, .ref q62, .ref q70, .ref q78, .ref q86, .ref q94, .null, .null]))]) [0] rfl
  have hD := hD.sub (ws' := [(h0, .inr (6, [.ref q7, .ref q15, .int 0, .ref q29, .ref q37, .ref q45, .ref q53, .null, .ref q62, .ref q70, .ref q78, .ref q86, .ref q94, .null, .null]))]) [0] (by decide) rfl
  have hK := hK.sub (tys' := []) [] rfl
  refine lv_aload_n hx hb dX6_init_99 rfl (lv_at hl 0 rfl) ?_
  refine lv_iconst (v := 3) hx hb dX6_init_100 (by decide) ?_
  refine va_newa (atype := .int) (a0 := (3, .inl (fun _ => 0))) hx hb (hg (.arrayClass .int) gw_1_112) rfl hK hP hD hS hA (fun _ => rfl) (by decide) (N' := 3) rfl (Nat.le_of_ble_eq_true rfl) (Nat.le_of_ble_eq_true rfl) (Nat.le_of_ble_eq_true rfl) dX6_init_101 (fun q101 cq101 H hK hP hD hS => ?_)
  have hK : va_K (dC, dI) vwCl [(cq101, .int)] s := hK
  have hP : va_P (dC, dI) vwCl [(h0, .inr (6, [.ref q7, .ref q15, .int 0, .ref q29, .ref q37, .ref q45, .ref q53, .null, .ref q62, .ref q70, .ref q78, .ref q86, .ref q94, .null, .null])), (q101, .inl (cq101, 3, .inl (fun _ => 0)))] H := hP
  have hD : va_D A [(h0, .inr (6, [.ref q7, .ref q15, .int 0, .ref q29, .ref q37, .ref q45, .ref q53, .null, .ref q62, .ref q70, .ref q78, .ref q86, .ref q94, .null, .null])), (q101, .inl (cq101, 3, .inl (fun _ => 0)))] := hD
  refine W.widen (k := 12) (n := 12543) (Nat.le_of_ble_eq_true rfl) (Nat.le_of_ble_eq_true rfl) ?_
  refine va_putF (D := (dC, dI)) (ci := 6) (v := .ref q101) (ty := .array .int) (C := RX6) (T := TX6) (N := 15) hx hb hg inG_X6 tyX6 tyX6_ok nmX6 hown hK hP hD hS 0 rfl rfl 13 (by decide) (hg (.fieldLink RX6 50 "AttributeDesk$Ways" "firsts" "[I") gw_2_75) (fun _ h9 => h9) rfl hin rfl (by decide +kernel) rfl rfl (Nat.le_of_ble_eq_true rfl) dX6_init_103 (fun H locs hP hD hS => ?_)
  have hP : va_P (dC, dI) vwCl [(h0, .inr (6, [.ref q7, .ref q15, .int 0, .ref q29, .ref q37, .ref q45, .ref q53, .null, .ref q62, .ref q70, .ref q78, .ref q86, .ref q94, .ref q101, .null])), (q101, .inl (cq101, 3, .inl (fun _ => 0)))] H := hP
  have hD : va_D A [(h0, .inr (6, [.ref q7, .ref q15, .int 0, .ref q29, .ref q37, .ref q45, .ref q53, .null, .ref q62, .ref q70, .ref q78, .ref q86, .ref q94, .ref q101, .null])), (q101, .inl (cq101, 3, .inl (fun _ => 0)))] := hD
  have hP := hP.sub (ws' := [(h0, .inr (6, [.ref q7, .ref q15, .int 0, .ref q29, .ref q37, .ref q45, .ref q53, .null, .ref q62, .ref q70, .ref q78, .ref q86, .ref q94, .ref q101, .null]))]) [0] rfl
  have hD := hD.sub (ws' := [(h0, .inr (6, [.ref q7, .ref q15, .int 0, .ref q29, .ref q37, .ref q45, .ref q53, .null, .ref q62, .ref q70, .ref q78, .ref q86, .ref q94, .ref q101, .null]))]) [0] (by decide) rfl
  have hK := hK.sub (tys' := []) [] rfl
  refine lv_aload_n hx hb dX6_init_106 rfl (lv_at hl 0 rfl) ?_
  refine lv_iconst (v := 3) hx hb dX6_init_107 (by decide) ?_
  refine va_newa (atype := .int) (a0 := (3, .inl (fun _ => 0))) hx hb (hg (.arrayClass .int) gw_1_112) rfl hK hP hD hS hA (fun _ => rfl) (by decide) (N' := 3) rfl (Nat.le_of_ble_eq_true rfl) (Nat.le_of_ble_eq_true rfl) (Nat.le_of_ble_eq_true rfl) dX6_init_108 (fun q108 cq108 H hK hP hD hS => ?_)
  have hK : va_K (dC, dI) vwCl [(cq108, .int)] s := hK
  have hP : va_P (dC, dI) vwCl [(h0, .inr (6, [.ref q7, .ref q15, .int 0, .ref q29, .ref q37, .ref q45, .ref q53, .null, .ref q62, .ref q70, .ref q78, .ref q86, .ref q94, .ref q101, .null])), (q108, .inl (cq108, 3, .inl (fun _ => 0)))] H := hP
  have hD : va_D A [(h0, .inr (6, [.ref q7, .ref q15, .int 0, .ref q29, .ref q37, .ref q45, .ref q53, .null, .ref q62, .ref q70, .ref q78, .ref q86, .ref q94, .ref q101, .null])), (q108, .inl (cq108, 3, .inl (fun _ => 0)))] := hD
  refine W.widen (k := 13) (n := 12546) (Nat.le_of_ble_eq_true rfl) (Nat.le_of_ble_eq_true rfl) ?_
  refine va_putF (D := (dC, dI)) (ci := 6) (v := .ref q108) (ty := .array .int) (C := RX6) (T := TX6) (N := 15) hx hb hg inG_X6 tyX6 tyX6_ok nmX6 hown hK hP hD hS 0 rfl rfl 14 (by decide) (hg (.fieldLink RX6 53 "AttributeDesk$Ways" "spans" "[I") gw_2_76) (fun _ h9 => h9) rfl hin rfl (by decide +kernel) rfl rfl (Nat.le_of_ble_eq_true rfl) dX6_init_110 (fun H locs hP hD hS => ?_)
  have hP : va_P (dC, dI) vwCl [(h0, .inr (6, [.ref q7, .ref q15, .int 0, .ref q29, .ref q37, .ref q45, .ref q53, .null, .ref q62, .ref q70, .ref q78, .ref q86, .ref q94, .ref q101, .ref q108])), (q108, .inl (cq108, 3, .inl (fun _ => 0)))] H := hP
  have hD : va_D A [(h0, .inr (6, [.ref q7, .ref q15, .int 0, .ref q29, .ref q37, .ref q45, .ref q53, .null, .ref q62, .ref q70, .ref q78, .ref q86, .ref q94, .ref q101, .ref q108])), (q108, .inl (cq108, 3, .inl (fun _ => 0)))] := hD
  have hP := hP.sub (ws' := [(h0, .inr (6, [.ref q7, .ref q15, .int 0, .ref q29, .ref q37, .ref q45, .ref q53, .null, .ref q62, .ref q70, .ref q78, .ref q86, .ref q94, .ref q101, .ref q108]))]) [0] rfl
  have hD := hD.sub (ws' := [(h0, .inr (6, [.ref q7, .ref q15, .int 0, .ref q29, .ref q37, .ref q45, .ref q53, .null, .ref q62, .ref q70, .ref q78, .ref q86, .ref q94, .ref q101, .ref q108]))]) [0] (by decide) rfl
  have hK := hK.sub (tys' := []) [] rfl
  refine lv_aload_n hx hb dX6_init_113 rfl (lv_at hl 0 rfl) ?_
  refine lv_aload_n hx hb dX6_init_114 rfl (lv_at hl 1 rfl) ?_
  refine va_put (D := (dC, dI)) (ci := 6) (v := .ref a1) (ty := .object "AttributeDesk$Grammar") (C := RX6) (T := TX6) (N := 15) hx hb hg inG_X6 tyX6 tyX6_ok nmX6 hown hK hP hD hS 0 rfl rfl 7 (by decide) (hg (.fieldLink RX6 56 "AttributeDesk$Ways" "grammar" "LAttributeDesk$Grammar;") gw_2_69) (fun _ h9 => h9) rfl (by decide +kernel) rfl rfl (Nat.le_of_ble_eq_true rfl) dX6_init_115 (fun H locs hP hD hS => ?_)
  have hP : va_P (dC, dI) vwCl [(h0, .inr (6, [.ref q7, .ref q15, .int 0, .ref q29, .ref q37, .ref q45, .ref q53, .ref a1, .ref q62, .ref q70, .ref q78, .ref q86, .ref q94, .ref q101, .ref q108]))] H := hP
  have hD : va_D A [(h0, .inr (6, [.ref q7, .ref q15, .int 0, .ref q29, .ref q37, .ref q45, .ref q53, .ref a1, .ref q62, .ref q70, .ref q78, .ref q86, .ref q94, .ref q101, .ref q108]))] := hD
  have hP9 := hP.sub (ws' := [(h0, .inr (6, [.ref q7, .ref q15, .int 0, .ref q29, .ref q37, .ref q45, .ref q53, .ref a1, .ref q62, .ref q70, .ref q78, .ref q86, .ref q94, .ref q101, .ref q108]))]) [0] rfl
  have hD9 := hD.sub (ws' := [(h0, .inr (6, [.ref q7, .ref q15, .int 0, .ref q29, .ref q37, .ref q45, .ref q53, .ref a1, .ref q62, .ref q70, .ref q78, .ref q86, .ref q94, .ref q101, .ref q108]))]) [0] (by decide) rfl
  have hK9 := hK.sub (tys' := []) [] rfl
  refine W.widen (k := 13) (n := 12546) (Nat.le_of_ble_eq_true rfl) (Nat.le_of_ble_eq_true rfl) ?_
  exact W.vret hx hb hr (fun t ht hW => ⟨⟨(), rfl, trivial, q7, q15, q29, q37, q45, q53, q62, q70, q78, q86, q94, q101, q108, by rw [ht]; exact hP9, va_K.moved hW.alike hK9, hD9⟩, hS.F ht⟩) hS.2.2 dX6_init_118

set_option maxHeartbeats 4000000 in
set_option maxRecDepth 100000 in
theorem c_X7_init (l : Launch) (dC : Nat → ClassId) (dI : Nat → Nat → Nat) (h0 a1 a2 : Nat) (sz : Nat) : Met l yX7_init wyX7_init ({ frames := 1, cells := 9, slots := 8480, locals := 12 }) (va_Pc [.ref h0, .ref a1, .ref a2] (fun U => U.heap.size = sz ∧ va_P (dC, dI) vwCl [(h0, .inr (7, [.null, .null, .int 0, .null, .null, .null, .null, .null, .null, .null, .int 0, .null, .null, .int 0]))] U.heap ∧ va_K (dC, dI) vwCl [] U ∧ va_D (fun _ => True) [(h0, .inr (7, [.null, .null, .int 0, .null, .null, .null, .null, .null, .null, .null, .int 0, .null, .null, .int 0]))])) (va_Qv (fun _ : Unit => True) (fun _ t => ∃ (e0 : Nat), ∃ (e1 : Nat), ∃ (e2 : Nat), ∃ (e3 : Nat), ∃ (e4 : Nat), ∃ (e5 : Nat), ∃ (e6 : Nat), ∃ (e7 : Nat), ∃ (e8 : Nat), va_P (dC, dI) vwCl [(h0, .inr (7, [.ref e0, .ref e1, .int 0, .ref a1, .ref a2, .ref e2, .ref e3, .ref e4, .ref e5, .ref e6, .int 0, .ref e7, .ref e8, .int 0]))] t.heap ∧ va_K (dC, dI) vwCl [] t ∧ va_D (va_A [(h0, .inr (7, [.null, .null, .int 0, .null, .null, .null, .null, .null, .null, .null, .int 0, .null, .null, .int 0]))] sz) [(h0, .inr (7, [.ref e0, .ref e1, .int 0, .ref a1, .ref a2, .ref e2, .ref e3, .ref e4, .ref e5, .ref e6, .int 0, .ref e7, .ref e8, .int 0]))]) (va_A [(h0, .inr (7, [.null, .null, .int 0, .null, .null, .null, .null, .null, .null, .null, .int 0, .null, .null, .int 0]))] sz)) 9 8480 (va_A [(h0, .inr (7, [.null, .null, .int 0, .null, .null, .null, .null, .null, .null, .null, .int 0, .null, .null, .int 0]))] sz) := by
  refine Met.ofW (cc := cX7_init) (maxL := 3) (ret := none) (by decide) rfl ?_
  intro p e s m args below meth c s₁ B hml hv
  obtain ⟨rfl, hsz, hP, hK, hD0⟩ := hv
  have hx := B.exec
  have hb := B.bytes
  have hr := B.returns
  have hts := atoms_spec (ws := wyX7_init) B.pre
  have hg : ∀ w ∈ lw_G, w.before _ s = true := fun w h => hts w (List.mem_cons_of_mem _ h)
  have hown : s.vm.findClass RX7 = some m.cls := findClass_of_methodNamed B.named
  have hlocks := B.notSynchronized
  have hin : meth.name = "<init>" := (name_of_methodNamed B.named B.method).1
  subst hsz
  have hD := hD0.self (sz := s.heap.size)
  generalize hAe : va_A [(h0, .inr (7, [.null, .null, .int 0, .null, .null, .null, .null, .null, .null, .null, .int 0, .null, .null, .int 0]))] s.heap.size = A at hD ⊢
  have hA : ∀ q : Nat, s.heap.size ≤ q → A q := fun q h => by rw [← hAe]; exact Or.inr h
  have hS : va_S A s.heap s.heap [] := va_S.rf
  have hP : va_P (dC, dI) vwCl [(h0, .inr (7, [.null, .null, .int 0, .null, .null, .null, .null, .null, .null, .null, .int 0, .null, .null, .int 0]))] s.heap := hP
  have hl := lv_entry ([.ref h0, .ref a1, .ref a2]) (n := 3) (Nat.le_of_ble_eq_true rfl)
  rw [lg_entry_eq]
  generalize (lg_sl ([.ref h0, .ref a1, .ref a2]) ++ List.replicate (3 - (lg_sl ([.ref h0, .ref a1, .ref a2])).length) Slot.unset).toArray = ls at hl ⊢
  have hl : lv_has ls 3 [(0, .ref h0), (1, .ref a1), (2, .ref a2)] := hl
  refine lv_aload_n hx hb dX7_init_0 rfl (lv_at hl 0 rfl) ?_
  refine W.objInit hx hb hown (hg (.methodLink RX7 3 objectInit) gw_2_113) (hg (.instanceMethod objectInit) gw_1_18) (hg (.code objectInit ⟨#[0xb1]⟩ 1 none) gw_1_19) rfl (by rw [hml]; exact hl.1) rfl dX7_init_1 (Nat.le_of_ble_eq_true rfl) (Nat.le_of_ble_eq_true rfl) ?_
  refine W.eq (g2 := F0 m 4 ls []) rfl ?_
  refine lv_aload_n hx hb dX7_init_4 rfl (lv_at hl 0 rfl) ?_
  refine lv_sipush (v := 1200) hx hb dX7_init_5 (by decide) ?_
  refine va_newa (atype := .int) (a0 := (1200, .inl (fun _ => 0))) hx hb (hg (.arrayClass .int) gw_1_112) rfl hK hP hD hS hA (fun _ => rfl) (by decide) (N' := 1200) rfl (Nat.le_of_ble_eq_true rfl) (Nat.le_of_ble_eq_true rfl) (Nat.le_of_ble_eq_true rfl) dX7_init_8 (fun q8 cq8 H hK hP hD hS => ?_)
  have hK : va_K (dC, dI) vwCl [(cq8, .int)] s := hK
  have hP : va_P (dC, dI) vwCl [(h0, .inr (7, [.null, .null, .int 0, .null, .null, .null, .null, .null, .null, .null, .int 0, .null, .null, .int 0])), (q8, .inl (cq8, 1200, .inl (fun _ => 0)))] H := hP
  have hD : va_D A [(h0, .inr (7, [.null, .null, .int 0, .null, .null, .null, .null, .null, .null, .null, .int 0, .null, .null, .int 0])), (q8, .inl (cq8, 1200, .inl (fun _ => 0)))] := hD
  refine W.widen (k := 1) (n := 1200) (Nat.le_of_ble_eq_true rfl) (Nat.le_of_ble_eq_true rfl) ?_
  refine va_putF (D := (dC, dI)) (ci := 7) (v := .ref q8) (ty := .array .int) (C := RX7) (T := TX7) (N := 14) hx hb hg inG_X7 tyX7 tyX7_ok nmX7 hown hK hP hD hS 0 rfl rfl 0 (by decide) (hg (.fieldLink RX7 9 "AttributeDesk$Worker" "numbers" "[I") gw_2_114) (fun _ h9 => h9) rfl hin rfl (by decide +kernel) rfl rfl (Nat.le_of_ble_eq_true rfl) dX7_init_10 (fun H locs hP hD hS => ?_)
  have hP : va_P (dC, dI) vwCl [(h0, .inr (7, [.ref q8, .null, .int 0, .null, .null, .null, .null, .null, .null, .null, .int 0, .null, .null, .int 0])), (q8, .inl (cq8, 1200, .inl (fun _ => 0)))] H := hP
  have hD : va_D A [(h0, .inr (7, [.ref q8, .null, .int 0, .null, .null, .null, .null, .null, .null, .null, .int 0, .null, .null, .int 0])), (q8, .inl (cq8, 1200, .inl (fun _ => 0)))] := hD
  have hP := hP.sub (ws' := [(h0, .inr (7, [.ref q8, .null, .int 0, .null, .null, .null, .null, .null, .null, .null, .int 0, .null, .null, .int 0]))]) [0] rfl
  have hD := hD.sub (ws' := [(h0, .inr (7, [.ref q8, .null, .int 0, .null, .null, .null, .null, .null, .null, .null, .int 0, .null, .null, .int 0]))]) [0] (by decide) rfl
  have hK := hK.sub (tys' := []) [] rfl
  refine lv_aload_n hx hb dX7_init_13 rfl (lv_at hl 0 rfl) ?_
  refine lv_sipush (v := 1200) hx hb dX7_init_14 (by decide) ?_
  refine va_newa (atype := .int) (a0 := (1200, .inl (fun _ => 0))) hx hb (hg (.arrayClass .int) gw_1_112) rfl hK hP hD hS hA (fun _ => rfl) (by decide) (N' := 1200) rfl (Nat.le_of_ble_eq_true rfl) (Nat.le_of_ble_eq_true rfl) (Nat.le_of_ble_eq_true rfl) dX7_init_17 (fun q17 cq17 H hK hP hD hS => ?_)
  have hK : va_K (dC, dI) vwCl [(cq17, .int)] s := hK
  have hP : va_P (dC, dI) vwCl [(h0, .inr (7, [.ref q8, .null, .int 0, .null, .null, .null, .null, .null, .null, .null, .int 0, .null, .null, .int 0])), (q17, .inl (cq17, 1200, .inl (fun _ => 0)))] H := hP
  have hD : va_D A [(h0, .inr (7, [.ref q8, .null, .int 0, .null, .null, .null, .null, .null, .null, .null, .int 0, .null, .null, .int 0])), (q17, .inl (cq17, 1200, .inl (fun _ => 0)))] := hD
  refine W.widen (k := 2) (n := 2400) (Nat.le_of_ble_eq_true rfl) (Nat.le_of_ble_eq_true rfl) ?_
  refine va_putF (D := (dC, dI)) (ci := 7) (v := .ref q17) (ty := .array .int) (C := RX7) (T := TX7) (N := 14) hx hb hg inG_X7 tyX7 tyX7_ok nmX7 hown hK hP hD hS 0 rfl rfl 1 (by decide) (hg (.fieldLink RX7 15 "AttributeDesk$Worker" "order" "[I") gw_2_116) (fun _ h9 => h9) rfl hin rfl (by decide +kernel) rfl rfl (Nat.le_of_ble_eq_true rfl) dX7_init_19 (fun H locs hP hD hS => ?_)
  have hP : va_P (dC, dI) vwCl [(h0, .inr (7, [.ref q8, .ref q17, .int 0, .null, .null, .null, .null, .null, .null, .null, .int 0, .null, .null, .int 0])), (q17, .inl (cq17, 1200, .inl (fun _ => 0)))] H := hP
  have hD : va_D A [(h0, .inr (7, [.ref q8, .ref q17, .int 0, .null, .null, .null, .null, .null, .null, .null, .int 0, .null, .null, .int 0])), (q17, .inl (cq17, 1200, .inl (fun _ => 0)))] := hD
  have hP := hP.sub (ws' := [(h0, .inr (7, [.ref q8, .ref q17, .int 0, .null, .null, .null, .null, .null, .null, .null, .int 0, .null, .null, .int 0]))]) [0] rfl
  have hD := hD.sub (ws' := [(h0, .inr (7, [.ref q8, .ref q17, .int 0, .null, .null, .null, .null, .null, .null, .null, .int 0, .null, .null, .int 0]))]) [0] (by decide) rfl
  have hK := hK.sub (tys' := []) [] rfl
  refine lv_aload_n hx hb dX7_init_22 rfl (lv_at hl 0 rfl) ?_
  refine lv_iconst (v := 0) hx hb dX7_init_23 (by decide) ?_
  refine va_put (D := (dC, dI)) (ci := 7) (v := .int 0) (ty := .int) (C := RX7) (T := TX7) (N := 14) hx hb hg inG_X7 tyX7 tyX7_ok nmX7 hown hK hP hD hS 0 rfl rfl 2 (by decide) (hg (.fieldLink RX7 18 "AttributeDesk$Worker" "orderSize" "I") gw_2_118) (fun _ h9 => h9) rfl (by decide +kernel) rfl rfl (Nat.le_of_ble_eq_true rfl) dX7_init_24 (fun H locs hP hD hS => ?_)
  have hP : va_P (dC, dI) vwCl [(h0, .inr (7, [.ref q8, .ref q17, .int 0, .null, .null, .null, .null, .null, .null, .null, .int 0, .null, .null, .int 0]))] H := hP
  have hD : va_D A [(h0, .inr (7, [.ref q8, .ref q17, .int 0, .null, .null, .null, .null, .null, .null, .null, .int 0, .null, .null, .int 0]))] := hD
  refine lv_aload_n hx hb dX7_init_27 rfl (lv_at hl 0 rfl) ?_
  refine lv_sipush (v := 1200) hx hb dX7_init_28 (by decide) ?_
  refine va_newa (atype := .int) (a0 := (1200, .inl (fun _ => 0))) hx hb (hg (.arrayClass .int) gw_1_112) rfl hK hP hD hS hA (fun _ => rfl) (by decide) (N' := 1200) rfl (Nat.le_of_ble_eq_true rfl) (Nat.le_of_ble_eq_true rfl) (Nat.le_of_ble_eq_true rfl) dX7_init_31 (fun q31 cq31 H hK hP hD hS => ?_)
  have hK : va_K (dC, dI) vwCl [(cq31, .int)] s := hK
  have hP : va_P (dC, dI) vwCl [(h0, .inr (7, [.ref q8, .ref q17, .int 0, .null, .null, .null, .null, .null, .null, .null, .int 0, .null, .null, .int 0])), (q31, .inl (cq31, 1200, .inl (fun _ => 0)))] H := hP
  have hD : va_D A [(h0, .inr (7, [.ref q8, .ref q17, .int 0, .null, .null, .null, .null, .null, .null, .null, .int 0, .null, .null, .int 0])), (q31, .inl (cq31, 1200, .inl (fun _ => 0)))] := hD
  refine W.widen (k := 3) (n := 3600) (Nat.le_of_ble_eq_true rfl) (Nat.le_of_ble_eq_true rfl) ?_
  refine va_putF (D := (dC, dI)) (ci := 7) (v := .ref q31) (ty := .array .int) (C := RX7) (T := TX7) (N := 14) hx hb hg inG_X7 tyX7 tyX7_ok nmX7 hown hK hP hD hS 0 rfl rfl 5 (by decide) (hg (.fieldLink RX7 22 "AttributeDesk$Worker" "states" "[I") gw_2_122) (fun _ h9 => h9) rfl hin rfl (by decide +kernel) rfl rfl (Nat.le_of_ble_eq_true rfl) dX7_init_33 (fun H locs hP hD hS => ?_)
  have hP : va_P (dC, dI) vwCl [(h0, .inr (7, [.ref q8, .ref q17, .int 0, .null, .null, .ref q31, .null, .null, .null, .null, .int 0, .null, .null, .int 0])), (q31, .inl (cq31, 1200, .inl (fun _ => 0)))] H := hP
  have hD : va_D A [(h0, .inr (7, [.ref q8, .ref q17, .int 0, .null, .null, .ref q31, .null, .null, .null, .null, .int 0, .null, .null, .int 0])), (q31, .inl (cq31, 1200, .inl (fun _ => 0)))] := hD
  have hP := hP.sub (ws' := [(h0, .inr (7, [.ref q8, .ref q17, .int 0, .null, .null, .ref q31, .null, .null, .null, .null, .int 0, .null, .null, .int 0]))]) [0] rfl
  have hD := hD.sub (ws' := [(h0, .inr (7, [.ref q8, .ref q17, .int 0, .null, .null, .ref q31, .null, .null, .null, .null, .int 0, .null, .null, .int 0]))]) [0] (by decide) rfl
  have hK := hK.sub (tys' := []) [] rfl
  refine lv_aload_n hx hb dX7_init_36 rfl (lv_at hl 0 rfl) ?_
  refine lv_sipush (v := 1200) hx hb dX7_init_37 (by decide) ?_
  refine va_newa (atype := .int) (a0 := (1200, .inl (fun _ => 0))) hx hb (hg (.arrayClass .int) gw_1_112) rfl hK hP hD hS hA (fun _ => rfl) (by decide) (N' := 1200) rfl (Nat.le_of_ble_eq_true rfl) (Nat.le_of_ble_eq_true rfl) (Nat.le_of_ble_eq_true rfl) dX7_init_40 (fun q40 cq40 H hK hP hD hS => ?_)
  have hK : va_K (dC, dI) vwCl [(cq40, .int)] s := hK
  have hP : va_P (dC, dI) vwCl [(h0, .inr (7, [.ref q8, .ref q17, .int 0, .null, .null, .ref q31, .null, .null, .null, .null, .int 0, .null, .null, .int 0])), (q40, .inl (cq40, 1200, .inl (fun _ => 0)))] H := hP
  have hD : va_D A [(h0, .inr (7, [.ref q8, .ref q17, .int 0, .null, .null, .ref q31, .null, .null, .null, .null, .int 0, .null, .null, .int 0])), (q40, .inl (cq40, 1200, .inl (fun _ => 0)))] := hD
  refine W.widen (k := 4) (n := 4800) (Nat.le_of_ble_eq_true rfl) (Nat.le_of_ble_eq_true rfl) ?_
  refine va_putF (D := (dC, dI)) (ci := 7) (v := .ref q40) (ty := .array .int) (C := RX7) (T := TX7) (N := 14) hx hb hg inG_X7 tyX7 tyX7_ok nmX7 hown hK hP hD hS 0 rfl rfl 6 (by decide) (hg (.fieldLink RX7 25 "AttributeDesk$Worker" "way" "[I") gw_2_123) (fun _ h9 => h9) rfl hin rfl (by decide +kernel) rfl rfl (Nat.le_of_ble_eq_true rfl) dX7_init_42 (fun H locs hP hD hS => ?_)
  have hP : va_P (dC, dI) vwCl [(h0, .inr (7, [.ref q8, .ref q17, .int 0, .null, .null, .ref q31, .ref q40, .null, .null, .null, .int 0, .null, .null, .int 0])), (q40, .inl (cq40, 1200, .inl (fun _ => 0)))] H := hP
  have hD : va_D A [(h0, .inr (7, [.ref q8, .ref q17, .int 0, .null, .null, .ref q31, .ref q40, .null, .null, .null, .int 0, .null, .null, .int 0])), (q40, .inl (cq40, 1200, .inl (fun _ => 0)))] := hD
  have hP := hP.sub (ws' := [(h0, .inr (7, [.ref q8, .ref q17, .int 0, .null, .null, .ref q31, .ref q40, .null, .null, .null, .int 0, .null, .null, .int 0]))]) [0] rfl
  have hD := hD.sub (ws' := [(h0, .inr (7, [.ref q8, .ref q17, .int 0, .null, .null, .ref q31, .ref q40, .null, .null, .null, .int 0, .null, .null, .int 0]))]) [0] (by decide) rfl
  have hK := hK.sub (tys' := []) [] rfl
  refine lv_aload_n hx hb dX7_init_45 rfl (lv_at hl 0 rfl) ?_
  refine lv_sipush (v := 1200) hx hb dX7_init_46 (by decide) ?_
  refine va_newa (atype := .int) (a0 := (1200, .inl (fun _ => 0))) hx hb (hg (.arrayClass .int) gw_1_112) rfl hK hP hD hS hA (fun _ => rfl) (by decide) (N' := 1200) rfl (Nat.le_of_ble_eq_true rfl) (Nat.le_of_ble_eq_true rfl) (Nat.le_of_ble_eq_true rfl) dX7_init_49 (fun q49 cq49 H hK hP hD hS => ?_)
  have hK : va_K (dC, dI) vwCl [(cq49, .int)] s := hK
  have hP : va_P (dC, dI) vwCl [(h0, .inr (7, [.ref q8, .ref q17, .int 0, .null, .null, .ref q31, .ref q40, .null, .null, .null, .int 0, .null, .null, .int 0])), (q49, .inl (cq49, 1200, .inl (fun _ => 0)))] H := hP
  have hD : va_D A [(h0, .inr (7, [.ref q8, .ref q17, .int 0, .null, .null, .ref q31, .ref q40, .null, .null, .null, .int 0, .null, .null, .int 0])), (q49, .inl (cq49, 1200, .inl (fun _ => 0)))] := hD
  refine W.widen (k := 5) (n := 6000) (Nat.le_of_ble_eq_true rfl) (Nat.le_of_ble_eq_true rfl) ?_
  refine va_putF (D := (dC, dI)) (ci := 7) (v := .ref q49) (ty := .array .int) (C := RX7) (T := TX7) (N := 14) hx hb hg inG_X7 tyX7 tyX7_ok nmX7 hown hK hP hD hS 0 rfl rfl 7 (by decide) (hg (.fieldLink RX7 28 "AttributeDesk$Worker" "bases" "[I") gw_2_124) (fun _ h9 => h9) rfl hin rfl (by decide +kernel) rfl rfl (Nat.le_of_ble_eq_true rfl) dX7_init_51 (fun H locs hP hD hS => ?_)
  have hP : va_P (dC, dI) vwCl [(h0, .inr (7, [.ref q8, .ref q17, .int 0, .null, .null, .ref q31, .ref q40, .ref q49, .null, .null, .int 0, .null, .null, .int 0])), (q49, .inl (cq49, 1200, .inl (fun _ => 0)))] H := hP
  have hD : va_D A [(h0, .inr (7, [.ref q8, .ref q17, .int 0, .null, .null, .ref q31, .ref q40, .ref q49, .null, .null, .int 0, .null, .null, .int 0])), (q49, .inl (cq49, 1200, .inl (fun _ => 0)))] := hD
  have hP := hP.sub (ws' := [(h0, .inr (7, [.ref q8, .ref q17, .int 0, .null, .null, .ref q31, .ref q40, .ref q49, .null, .null, .int 0, .null, .null, .int 0]))]) [0] rfl
  have hD := hD.sub (ws' := [(h0, .inr (7, [.ref q8, .ref q17, .int 0, .null, .null, .ref q31, .ref q40, .ref q49, .null, .null, .int 0, .null, .null, .int 0]))]) [0] (by decide) rfl
  have hK := hK.sub (tys' := []) [] rfl
  refine lv_aload_n hx hb dX7_init_54 rfl (lv_at hl 0 rfl) ?_
  refine lv_sipush (v := 1200) hx hb dX7_init_55 (by decide) ?_
  refine va_newa (atype := .int) (a0 := (1200, .inl (fun _ => 0))) hx hb (hg (.arrayClass .int) gw_1_112) rfl hK hP hD hS hA (fun _ => rfl) (by decide) (N' := 1200) rfl (Nat.le_of_ble_eq_true rfl) (Nat.le_of_ble_eq_true rfl) (Nat.le_of_ble_eq_true rfl) dX7_init_58 (fun q58 cq58 H hK hP hD hS => ?_)
  have hK : va_K (dC, dI) vwCl [(cq58, .int)] s := hK
  have hP : va_P (dC, dI) vwCl [(h0, .inr (7, [.ref q8, .ref q17, .int 0, .null, .null, .ref q31, .ref q40, .ref q49, .null, .null, .int 0, .null, .null, .int 0])), (q58, .inl (cq58, 1200, .inl (fun _ => 0)))] H := hP
  have hD : va_D A [(h0, .inr (7, [.ref q8, .ref q17, .int 0, .null, .null, .ref q31, .ref q40, .ref q49, .null, .null, .int 0, .null, .null, .int 0])), (q58, .inl (cq58, 1200, .inl (fun _ => 0)))] := hD
  refine W.widen (k := 6) (n := 7200) (Nat.le_of_ble_eq_true rfl) (Nat.le_of_ble_eq_true rfl) ?_
  refine va_putF (D := (dC, dI)) (ci := 7) (v := .ref q58) (ty := .array .int) (C := RX7) (T := TX7) (N := 14) hx hb hg inG_X7 tyX7 tyX7_ok nmX7 hown hK hP hD hS 0 rfl rfl 8 (by decide) (hg (.fieldLink RX7 31 "AttributeDesk$Worker" "equations" "[I") gw_2_125) (fun _ h9 => h9) rfl hin rfl (by decide +kernel) rfl rfl (Nat.le_of_ble_eq_true rfl) dX7_init_60 (fun H locs hP hD hS => ?_)
  have hP : va_P (dC, dI) vwCl [(h0, .inr (7, [.ref q8, .ref q17, .int 0, .null, .null, .ref q31, .ref q40, .ref q49, .ref q58, .null, .int 0, .null, .null, .int 0])), (q58, .inl (cq58, 1200, .inl (fun _ => 0)))] H := hP
  have hD : va_D A [(h0, .inr (7, [.ref q8, .ref q17, .int 0, .null, .null, .ref q31, .ref q40, .ref q49, .ref q58, .null, .int 0, .null, .null, .int 0])), (q58, .inl (cq58, 1200, .inl (fun _ => 0)))] := hD
  have hP := hP.sub (ws' := [(h0, .inr (7, [.ref q8, .ref q17, .int 0, .null, .null, .ref q31, .ref q40, .ref q49, .ref q58, .null, .int 0, .null, .null, .int 0]))]) [0] rfl
  have hD := hD.sub (ws' := [(h0, .inr (7, [.ref q8, .ref q17, .int 0, .null, .null, .ref q31, .ref q40, .ref q49, .ref q58, .null, .int 0, .null, .null, .int 0]))]) [0] (by decide) rfl
  have hK := hK.sub (tys' := []) [] rfl
  refine lv_aload_n hx hb dX7_init_63 rfl (lv_at hl 0 rfl) ?_
  refine lv_sipush (v := 1200) hx hb dX7_init_64 (by decide) ?_
  refine va_newa (atype := .int) (a0 := (1200, .inl (fun _ => 0))) hx hb (hg (.arrayClass .int) gw_1_112) rfl hK hP hD hS hA (fun _ => rfl) (by decide) (N' := 1200) rfl (Nat.le_of_ble_eq_true rfl) (Nat.le_of_ble_eq_true rfl) (Nat.le_of_ble_eq_true rfl) dX7_init_67 (fun q67 cq67 H hK hP hD hS => ?_)
  have hK : va_K (dC, dI) vwCl [(cq67, .int)] s := hK
  have hP : va_P (dC, dI) vwCl [(h0, .inr (7, [.ref q8, .ref q17, .int 0, .null, .null, .ref q31, .ref q40, .ref q49, .ref q58, .null, .int 0, .null, .null, .int 0])), (q67, .inl (cq67, 1200, .inl (fun _ => 0)))] H := hP
  have hD : va_D A [(h0, .inr (7, [.ref q8, .ref q17, .int 0, .null, .null, .ref q31, .ref q40, .ref q49, .ref q58, .null, .int 0, .null, .null, .int 0])), (q67, .inl (cq67, 1200, .inl (fun _ => 0)))] := hD
  refine W.widen (k := 7) (n := 8400) (Nat.le_of_ble_eq_true rfl) (Nat.le_of_ble_eq_true rfl) ?_
  refine va_putF (D := (dC, dI)) (ci := 7) (v := .ref q67) (ty := .array .int) (C := RX7) (T := TX7) (N := 14) hx hb hg inG_X7 tyX7 tyX7_ok nmX7 hown hK hP hD hS 0 rfl rfl 9 (by decide) (hg (.fieldLink RX7 34 "AttributeDesk$Worker" "codeAt" "[I") gw_2_126) (fun _ h9 => h9) rfl hin rfl (by decide +kernel) rfl rfl (Nat.le_of_ble_eq_true rfl) dX7_init_69 (fun H locs hP hD hS => ?_)
  have hP : va_P (dC, dI) vwCl [(h0, .inr (7, [.ref q8, .ref q17, .int 0, .null, .null, .ref q31, .ref q40, .ref q49, .ref q58, .ref q67, .int 0, .null, .null, .int 0])), (q67, .inl (cq67, 1200, .inl (fun _ => 0)))] H := hP
  have hD : va_D A [(h0, .inr (7, [.ref q8, .ref q17, .int 0, .null, .null, .ref q31, .ref q40, .ref q49, .ref q58, .ref q67, .int 0, .null, .null, .int 0])), (q67, .inl (cq67, 1200, .inl (fun _ => 0)))] := hD
  have hP := hP.sub (ws' := [(h0, .inr (7, [.ref q8, .ref q17, .int 0, .null, .null, .ref q31, .ref q40, .ref q49, .ref q58, .ref q67, .int 0, .null, .null, .int 0]))]) [0] rfl
  have hD := hD.sub (ws' := [(h0, .inr (7, [.ref q8, .ref q17, .int 0, .null, .null, .ref q31, .ref q40, .ref q49, .ref q58, .ref q67, .int 0, .null, .null, .int 0]))]) [0] (by decide) rfl
  have hK := hK.sub (tys' := []) [] rfl
  refine lv_aload_n hx hb dX7_init_72 rfl (lv_at hl 0 rfl) ?_
  refine lv_iconst (v := 0) hx hb dX7_init_73 (by decide) ?_
  refine va_put (D := (dC, dI)) (ci := 7) (v := .int 0) (ty := .int) (C := RX7) (T := TX7) (N := 14) hx hb hg inG_X7 tyX7 tyX7_ok nmX7 hown hK hP hD hS 0 rfl rfl 10 (by decide) (hg (.fieldLink RX7 37 "AttributeDesk$Worker" "wayLength" "I") gw_2_127) (fun _ h9 => h9) rfl (by decide +kernel) rfl rfl (Nat.le_of_ble_eq_true rfl) dX7_init_74 (fun H locs hP hD hS => ?_)
  have hP : va_P (dC, dI) vwCl [(h0, .inr (7, [.ref q8, .ref q17, .int 0, .null, .null, .ref q31, .ref q40, .ref q49, .ref q58, .ref q67, .int 0, .null, .null, .int 0]))] H := hP
  have hD : va_D A [(h0, .inr (7, [.ref q8, .ref q17, .int 0, .null, .null, .ref q31, .ref q40, .ref q49, .ref q58, .ref q67, .int 0, .null, .null, .int 0]))] := hD
  refine lv_aload_n hx hb dX7_init_77 rfl (lv_at hl 0 rfl) ?_
  refine lv_bipush (v := 40) hx hb dX7_init_78 (by decide) ?_
  refine va_newa (atype := .int) (a0 := (40, .inl (fun _ => 0))) hx hb (hg (.arrayClass .int) gw_1_112) rfl hK hP hD hS hA (fun _ => rfl) (by decide) (N' := 40) rfl (Nat.le_of_ble_eq_true rfl) (Nat.le_of_ble_eq_true rfl) (Nat.le_of_ble_eq_true rfl) dX7_init_80 (fun q80 cq80 H hK hP hD hS => ?_)
  have hK : va_K (dC, dI) vwCl [(cq80, .int)] s := hK
  have hP : va_P (dC, dI) vwCl [(h0, .inr (7, [.ref q8, .ref q17, .int 0, .null, .null, .ref q31, .ref q40, .ref q49, .ref q58, .ref q67, .int 0, .null, .null, .int 0])), (q80, .inl (cq80, 40, .inl (fun _ => 0)))] H := hP
  have hD : va_D A [(h0, .inr (7, [.ref q8, .ref q17, .int 0, .null, .null, .ref q31, .ref q40, .ref q49, .ref q58, .ref q67, .int 0, .null, .null, .int 0])), (q80, .inl (cq80, 40, .inl (fun _ => 0)))] := hD
  refine W.widen (k := 8) (n := 8440) (Nat.le_of_ble_eq_true rfl) (Nat.le_of_ble_eq_true rfl) ?_
  refine va_putF (D := (dC, dI)) (ci := 7) (v := .ref q80) (ty := .array .int) (C := RX7) (T := TX7) (N := 14) hx hb hg inG_X7 tyX7 tyX7_ok nmX7 hown hK hP hD hS 0 rfl rfl 11 (by decide) (hg (.fieldLink RX7 40 "AttributeDesk$Worker" "values" "[I") gw_2_128) (fun _ h9 => h9) rfl hin rfl (by decide +kernel) rfl rfl (Nat.le_of_ble_eq_true rfl) dX7_init_82 (fun H locs hP hD hS => ?_)
  have hP : va_P (dC, dI) vwCl [(h0, .inr (7, [.ref q8, .ref q17, .int 0, .null, .null, .ref q31, .ref q40, .ref q49, .ref q58, .ref q67, .int 0, .ref q80, .null, .int 0])), (q80, .inl (cq80, 40, .inl (fun _ => 0)))] H := hP
  have hD : va_D A [(h0, .inr (7, [.ref q8, .ref q17, .int 0, .null, .null, .ref q31, .ref q40, .ref q49, .ref q58, .ref q67, .int 0, .ref q80, .null, .int 0])), (q80, .inl (cq80, 40, .inl (fun _ => 0)))] := hD
  have hP := hP.sub (ws' := [(h0, .inr (7, [.ref q8, .ref q17, .int 0, .null, .null, .ref q31, .ref q40, .ref q49, .ref q58, .ref q67, .int 0, .ref q80, .null, .int 0]))]) [0] rfl
  have hD := hD.sub (ws' := [(h0, .inr (7, [.ref q8, .ref q17, .int 0, .null, .null, .ref q31, .ref q40, .ref q49, .ref q58, .ref q67, .int 0, .ref q80, .null, .int 0]))]) [0] (by decide) rfl
  have hK := hK.sub (tys' := []) [] rfl
  refine lv_aload_n hx hb dX7_init_85 rfl (lv_at hl 0 rfl) ?_
  refine lv_bipush (v := 40) hx hb dX7_init_86 (by decide) ?_
  refine va_newa (atype := .boolean) (a0 := (40, .inl (fun _ => 0))) hx hb (hg (.arrayClass .boolean) gw_1_113) rfl hK hP hD hS hA (fun _ => rfl) (by decide) (N' := 40) rfl (Nat.le_of_ble_eq_true rfl) (Nat.le_of_ble_eq_true rfl) (Nat.le_of_ble_eq_true rfl) dX7_init_88 (fun q88 cq88 H hK hP hD hS => ?_)
  have hK : va_K (dC, dI) vwCl [(cq88, .boolean)] s := hK
  have hP : va_P (dC, dI) vwCl [(h0, .inr (7, [.ref q8, .ref q17, .int 0, .null, .null, .ref q31, .ref q40, .ref q49, .ref q58, .ref q67, .int 0, .ref q80, .null, .int 0])), (q88, .inl (cq88, 40, .inl (fun _ => 0)))] H := hP
  have hD : va_D A [(h0, .inr (7, [.ref q8, .ref q17, .int 0, .null, .null, .ref q31, .ref q40, .ref q49, .ref q58, .ref q67, .int 0, .ref q80, .null, .int 0])), (q88, .inl (cq88, 40, .inl (fun _ => 0)))] := hD
  refine W.widen (k := 9) (n := 8480) (Nat.le_of_ble_eq_true rfl) (Nat.le_of_ble_eq_true rfl) ?_
  refine va_putF (D := (dC, dI)) (ci := 7) (v := .ref q88) (ty := .array .boolean) (C := RX7) (T := TX7) (N := 14) hx hb hg inG_X7 tyX7 tyX7_ok nmX7 hown hK hP hD hS 0 rfl rfl 12 (by decide) (hg (.fieldLink RX7 43 "AttributeDesk$Worker" "bads" "[Z") gw_2_129) (fun _ h9 => h9) rfl hin rfl (by decide +kernel) rfl rfl (Nat.le_of_ble_eq_true rfl) dX7_init_90 (fun H locs hP hD hS => ?_)
  have hP : va_P (dC, dI) vwCl [(h0, .inr (7, [.ref q8, .ref q17, .int 0, .null, .null, .ref q31, .ref q40, .ref q49, .ref q58, .ref q67, .int 0, .ref q80, .ref q88, .int 0])), (q88, .inl (cq88, 40, .inl (fun _ => 0)))] H := hP
  have hD : va_D A [(h0, .inr (7, [.ref q8, .ref q17, .int 0, .null, .null, .ref q31, .ref q40, .ref q49, .ref q58, .ref q67, .int 0, .ref q80, .ref q88, .int 0])), (q88, .inl (cq88, 40, .inl (fun _ => 0)))] := hD
  have hP := hP.sub (ws' := [(h0, .inr (7, [.ref q8, .ref q17, .int 0, .null, .null, .ref q31, .ref q40, .ref q49, .ref q58, .ref q67, .int 0, .ref q80, .ref q88, .int 0]))]) [0] rfl
  have hD := hD.sub (ws' := [(h0, .inr (7, [.ref q8, .ref q17, .int 0, .null, .null, .ref q31, .ref q40, .ref q49, .ref q58, .ref q67, .int 0, .ref q80, .ref q88, .int 0]))]) [0] (by decide) rfl
  have hK := hK.sub (tys' := []) [] rfl
  refine lv_aload_n hx hb dX7_init_93 rfl (lv_at hl 0 rfl) ?_
  refine lv_iconst (v := 0) hx hb dX7_init_94 (by decide) ?_
  refine va_put (D := (dC, dI)) (ci := 7) (v := .int 0) (ty := .int) (C := RX7) (T := TX7) (N := 14) hx hb hg inG_X7 tyX7 tyX7_ok nmX7 hown hK hP hD hS 0 rfl rfl 13 (by decide) (hg (.fieldLink RX7 47 "AttributeDesk$Worker" "valueCount" "I") gw_2_130) (fun _ h9 => h9) rfl (by decide +kernel) rfl rfl (Nat.le_of_ble_eq_true rfl) dX7_init_95 (fun H locs hP hD hS => ?_)
  have hP : va_P (dC, dI) vwCl [(h0, .inr (7, [.ref q8, .ref q17, .int 0, .null, .null, .ref q31, .ref q40, .ref q49, .ref q58, .ref q67, .int 0, .ref q80, .ref q88, .int 0]))] H := hP
  have hD : va_D A [(h0, .inr (7, [.ref q8, .ref q17, .int 0, .null, .null, .ref q31, .ref q40, .ref q49, .ref q58, .ref q67, .int 0, .ref q80, .ref q88, .int 0]))] := hD
  refine lv_aload_n hx hb dX7_init_98 rfl (lv_at hl 0 rfl) ?_
  refine lv_aload_n hx hb dX7_init_99 rfl (lv_at hl 1 rfl) ?_
  refine va_put (D := (dC, dI)) (ci := 7) (v := .ref a1) (ty := .object "AttributeDesk$Grammar") (C := RX7) (T := TX7) (N := 14) hx hb hg inG_X7 tyX7 tyX7_ok nmX7 hown hK hP hD hS 0 rfl rfl 3 (by decide) (hg (.fieldLink RX7 50 "AttributeDesk$Worker" "grammar" "LAttributeDesk$Grammar;") gw_2_120) (fun _ h9 => h9) rfl (by decide +kernel) rfl rfl (Nat.le_of_ble_eq_true rfl) dX7_init_100 (fun H locs hP hD hS => ?_)
  have hP : va_P (dC, dI) vwCl [(h0, .inr (7, [.ref q8, .ref q17, .int 0, .ref a1, .null, .ref q31, .ref q40, .ref q49, .ref q58, .ref q67, .int 0, .ref q80, .ref q88, .int 0]))] H := hP
  have hD : va_D A [(h0, .inr (7, [.ref q8, .ref q17, .int 0, .ref a1, .null, .ref q31, .ref q40, .ref q49, .ref q58, .ref q67, .int 0, .ref q80, .ref q88, .int 0]))] := hD
  refine lv_aload_n hx hb dX7_init_103 rfl (lv_at hl 0 rfl) ?_
  refine lv_aload_n hx hb dX7_init_104 rfl (lv_at hl 2 rfl) ?_
  refine va_put (D := (dC, dI)) (ci := 7) (v := .ref a2) (ty := .object "AttributeDesk$Tree") (C := RX7) (T := TX7) (N := 14) hx hb hg inG_X7 tyX7 tyX7_ok nmX7 hown hK hP hD hS 0 rfl rfl 4 (by decide) (hg (.fieldLink RX7 54 "AttributeDesk$Worker" "tree" "LAttributeDesk$Tree;") gw_2_121) (fun _ h9 => h9) rfl (by decide +kernel) rfl rfl (Nat.le_of_ble_eq_true rfl) dX7_init_105 (fun H locs hP hD hS => ?_)
  have hP : va_P (dC, dI) vwCl [(h0, .inr (7, [.ref q8, .ref q17, .int 0, .ref a1, .ref a2, .ref q31, .ref q40, .ref q49, .ref q58, .ref q67, .int 0, .ref q80, .ref q88, .int 0]))] H := hP
  have hD : va_D A [(h0, .inr (7, [.ref q8, .ref q17, .int 0, .ref a1, .ref a2, .ref q31, .ref q40, .ref q49, .ref q58, .ref q67, .int 0, .ref q80, .ref q88, .int 0]))] := hD
  have hP9 := hP.sub (ws' := [(h0, .inr (7, [.ref q8, .ref q17, .int 0, .ref a1, .ref a2, .ref q31, .ref q40, .ref q49, .ref q58, .ref q67, .int 0, .ref q80, .ref q88, .int 0]))]) [0] rfl
  have hD9 := hD.sub (ws' := [(h0, .inr (7, [.ref q8, .ref q17, .int 0, .ref a1, .ref a2, .ref q31, .ref q40, .ref q49, .ref q58, .ref q67, .int 0, .ref q80, .ref q88, .int 0]))]) [0] (by decide) rfl
  have hK9 := hK.sub (tys' := []) [] rfl
  refine W.widen (k := 9) (n := 8480) (Nat.le_of_ble_eq_true rfl) (Nat.le_of_ble_eq_true rfl) ?_
  exact W.vret hx hb hr (fun t ht hW => ⟨⟨(), rfl, trivial, q8, q17, q31, q40, q49, q58, q67, q80, q88, by rw [ht]; exact hP9, va_K.moved hW.alike hK9, hD9⟩, hS.F ht⟩) hS.2.2 dX7_init_108
end
section
set_option maxHeartbeats 4000000 in
set_option maxRecDepth 100000 in
theorem c_X8_init (l : Launch) (dC : Nat → ClassId) (dI : Nat → Nat → Nat) (h0 : Nat) (sz : Nat) : Met l yX8_init wyX8_init ({ frames := 3, cells := 75, slots := 44419, locals := 56 }) (va_Pc [.ref h0] (fun U => U.heap.size = sz ∧ va_P (dC, dI) vwCl [(h0, .inr (8, [.null, .int 0, .null, .null, .null, .null, .null, .null, .null, .null, .null, .int 0, .int 0]))] U.heap ∧ va_K (dC, dI) vwCl [] U ∧ va_D (fun _ => True) [(h0, .inr (8, [.null, .int 0, .null, .null, .null, .null, .null, .null, .null, .null, .null, .int 0, .int 0]))] ∧ va_Nw (.methodLinkNest RX8 19 yX1_init RX8) U ∧ va_Nw (.methodLinkNest RX8 29 yX4_init RX8) U)) (va_Qv (fun _ : Unit => True) (fun _ t => ∃ (e0 : Nat), ∃ (e1 : Nat), ∃ (e2 : Nat), ∃ (e3 : Nat), ∃ (e4 : Nat), ∃ (e5 : Nat), ∃ (e6 : Nat), ∃ (e7 : Nat), ∃ (e8 : Nat), ∃ (e9 : Nat), ∃ (e10 : ClassId), ∃ (e11 : Nat), ∃ (e12 : Nat), ∃ (e13 : Nat), ∃ (e14 : Nat), ∃ (e15 : Nat), ∃ (e16 : Nat), ∃ (e17 : Nat), ∃ (e18 : Nat), ∃ (e19 : Nat), ∃ (e20 : Nat), ∃ (e21 : Nat), ∃ (e22 : Nat), ∃ (e23 : Nat), ∃ (e24 : Nat), ∃ (e25 : Nat), ∃ (e26 : Nat), ∃ (e27 : Nat), ∃ (e28 : Nat), ∃ (e29 : Nat), ∃ (e30 : Nat), ∃ (e31 : Nat), ∃ (e32 : Nat), ∃ (e33 : Nat), ∃ (e34 : Nat), ∃ (e35 : Nat), ∃ (e36 : Nat), ∃ (e37 : Nat), ∃ (e38 : Nat), ∃ (e39 : Nat), ∃ (e40 : Nat), ∃ (e41 : Nat), ∃ (e42 : Nat), ∃ (e43 : Nat), ∃ (e44 : Nat), ∃ (e45 : Nat), ∃ (e46 : Nat), ∃ (e47 : Nat), ∃ (e48 : Nat), ∃ (e49 : Nat), ∃ (e50 : Nat), ∃ (e51 : Nat), ∃ (e52 : Nat), ∃ (e53 : Nat), ∃ (e54 : Nat), ∃ (e55 : Nat), va_P (dC, dI) vwCl [(h0, .inr (8, [.ref e0, .int 0, .ref e1, .ref e2, .ref e3, .ref e4, .ref e5, .ref e6, .ref e7, .ref e8, .ref e9, .int (-1), .int (-1)])), (e0, .inl (e10, 3000, .inl (fun _ => 0))), (e1, .inr (1, [.int 0, .ref e11, .ref e12, .ref e13, .ref e14, .ref e15, .ref e16, .int 0, .ref e17, .ref e18, .ref e19, .ref e20, .ref e21, .ref e22, .ref e23, .ref e24, .ref e25, .int 0])), (e2, .inr (1, [.int 0, .ref e26, .ref e27, .ref e28, .ref e29, .ref e30, .ref e31, .int 0, .ref e32, .ref e33, .ref e34, .ref e35, .ref e36, .ref e37, .ref e38, .ref e39, .ref e40, .int 0])), (e3, .inr (4, [.int 0, .ref e41, .ref e42, .ref e43, .ref e44, .ref e45])), (e5, .inr (3, [.ref e0, .int 0, .int 0, .int (-1), .int 0, .long 0, .long 0])), (e6, .inr (2, [.ref e5, .ref e46, .ref e2, .int 0, .int 0, .int 0, .int 0])), (e9, .inr (7, [.ref e47, .ref e48, .int 0, .ref e1, .ref e3, .ref e49, .ref e50, .ref e51, .ref e52, .ref e53, .int 0, .ref e54, .ref e55, .int 0]))] t.heap ∧ va_K (dC, dI) vwCl [(e10, .byte)] t ∧ va_D (va_A [(h0, .inr (8, [.null, .int 0, .null, .null, .null, .null, .null, .null, .null, .null, .null, .int 0, .int 0]))] sz) [(h0, .inr (8, [.ref e0, .int 0, .ref e1, .ref e2, .ref e3, .ref e4, .ref e5, .ref e6, .ref e7, .ref e8, .ref e9, .int (-1), .int (-1)])), (e0, .inl (e10, 3000, .inl (fun _ => 0))), (e1, .inr (1, [.int 0, .ref e11, .ref e12, .ref e13, .ref e14, .ref e15, .ref e16, .int 0, .ref e17, .ref e18, .ref e19, .ref e20, .ref e21, .ref e22, .ref e23, .ref e24, .ref e25, .int 0])), (e2, .inr (1, [.int 0, .ref e26, .ref e27, .ref e28, .ref e29, .ref e30, .ref e31, .int 0, .ref e32, .ref e33, .ref e34, .ref e35, .ref e36, .ref e37, .ref e38, .ref e39, .ref e40, .int 0])), (e3, .inr (4, [.int 0, .ref e41, .ref e42, .ref e43, .ref e44, .ref e45])), (e5, .inr (3, [.ref e0, .int 0, .int 0, .int (-1), .int 0, .long 0, .long 0])), (e6, .inr (2, [.ref e5, .ref e46, .ref e2, .int 0, .int 0, .int 0, .int 0])), (e9, .inr (7, [.ref e47, .ref e48, .int 0, .ref e1, .ref e3, .ref e49, .ref e50, .ref e51, .ref e52, .ref e53, .int 0, .ref e54, .ref e55, .int 0]))]) (va_A [(h0, .inr (8, [.null, .int 0, .null, .null, .null, .null, .null, .null, .null, .null, .null, .int 0, .int 0]))] sz)) 75 44419 (va_A [(h0, .inr (8, [.null, .int 0, .null, .null, .null, .null, .null, .null, .null, .null, .null, .int 0, .int 0]))] sz) := by
  refine Met.ofW (cc := cX8_init) (maxL := 1) (ret := none) (by decide) rfl ?_
  intro p e s m args below meth c s₁ B hml hv
  obtain ⟨rfl, hsz, hP, hK, hD0, hX0, hX1⟩ := hv
  have hx := B.exec
  have hb := B.bytes
  have hr := B.returns
  have hts := atoms_spec (ws := wyX8_init) B.pre
  have hg : ∀ w ∈ lw_G, w.before _ s = true := fun w h => hts w (List.mem_cons_of_mem _ h)
  have hown : s.vm.findClass RX8 = some m.cls := findClass_of_methodNamed B.named
  have hlocks := B.notSynchronized
  have hin : meth.name = "<init>" := (name_of_methodNamed B.named B.method).1
  have hN19 := hX0
  have hN29 := hX1
  subst hsz
  have hD := hD0.self (sz := s.heap.size)
  generalize hAe : va_A [(h0, .inr (8, [.null, .int 0, .null, .null, .null, .null, .null, .null, .null, .null, .null, .int 0, .int 0]))] s.heap.size = A at hD ⊢
  have hA : ∀ q : Nat, s.heap.size ≤ q → A q := fun q h => by rw [← hAe]; exact Or.inr h
  have hS : va_S A s.heap s.heap [] := va_S.rf
  have hP : va_P (dC, dI) vwCl [(h0, .inr (8, [.null, .int 0, .null, .null, .null, .null, .null, .null, .null, .null, .null, .int 0, .int 0]))] s.heap := hP
  have hl := lv_entry ([.ref h0]) (n := 1) (Nat.le_of_ble_eq_true rfl)
  rw [lg_entry_eq]
  generalize (lg_sl ([.ref h0]) ++ List.replicate (1 - (lg_sl ([.ref h0])).length) Slot.unset).toArray = ls at hl ⊢
  have hl : lv_has ls 1 [(0, .ref h0)] := hl
  refine lv_aload_n hx hb dX8_init_0 rfl (lv_at hl 0 rfl) ?_
  refine W.objInit hx hb hown (hg (.methodLink RX8 3 objectInit) gw_1_17) (hg (.instanceMethod objectInit) gw_1_18) (hg (.code objectInit ⟨#[0xb1]⟩ 1 none) gw_1_19) rfl (by rw [hml]; exact hl.1) rfl dX8_init_1 (Nat.le_of_ble_eq_true rfl) (Nat.le_of_ble_eq_true rfl) ?_
  refine W.eq (g2 := F0 m 4 ls []) rfl ?_
  refine lv_aload_n hx hb dX8_init_4 rfl (lv_at hl 0 rfl) ?_
  refine lv_sipush (v := 3000) hx hb dX8_init_5 (by decide) ?_
  refine va_newa (atype := .byte) (a0 := (3000, .inl (fun _ => 0))) hx hb (hg (.arrayClass .byte) gw_1_110) rfl hK hP hD hS hA (fun _ => rfl) (by decide) (N' := 3000) rfl (Nat.le_of_ble_eq_true rfl) (Nat.le_of_ble_eq_true rfl) (Nat.le_of_ble_eq_true rfl) dX8_init_8 (fun q8 cq8 H hK hP hD hS => ?_)
  have hK : va_K (dC, dI) vwCl [(cq8, .byte)] s := hK
  have hP : va_P (dC, dI) vwCl [(h0, .inr (8, [.null, .int 0, .null, .null, .null, .null, .null, .null, .null, .null, .null, .int 0, .int 0])), (q8, .inl (cq8, 3000, .inl (fun _ => 0)))] H := hP
  have hD : va_D A [(h0, .inr (8, [.null, .int 0, .null, .null, .null, .null, .null, .null, .null, .null, .null, .int 0, .int 0])), (q8, .inl (cq8, 3000, .inl (fun _ => 0)))] := hD
  refine W.widen (k := 1) (n := 3000) (Nat.le_of_ble_eq_true rfl) (Nat.le_of_ble_eq_true rfl) ?_
  refine va_putF (D := (dC, dI)) (ci := 8) (v := .ref q8) (ty := .array .byte) (C := RX8) (T := TX8) (N := 13) hx hb hg inG_X8 tyX8 tyX8_ok nmX8 hown hK hP hD hS 0 rfl rfl 0 (by decide) (hg (.fieldLink RX8 9 "AttributeDesk" "tape" "[B") gw_2_160) (fun _ h9 => h9) rfl hin rfl (by decide +kernel) rfl rfl (Nat.le_of_ble_eq_true rfl) dX8_init_10 (fun H locs hP hD hS => ?_)
  have hP : va_P (dC, dI) vwCl [(h0, .inr (8, [.ref q8, .int 0, .null, .null, .null, .null, .null, .null, .null, .null, .null, .int 0, .int 0])), (q8, .inl (cq8, 3000, .inl (fun _ => 0)))] H := hP
  have hD : va_D A [(h0, .inr (8, [.ref q8, .int 0, .null, .null, .null, .null, .null, .null, .null, .null, .null, .int 0, .int 0])), (q8, .inl (cq8, 3000, .inl (fun _ => 0)))] := hD
  refine lv_aload_n hx hb dX8_init_13 rfl (lv_at hl 0 rfl) ?_
  refine lv_iconst (v := 0) hx hb dX8_init_14 (by decide) ?_
  refine va_put (D := (dC, dI)) (ci := 8) (v := .int 0) (ty := .int) (C := RX8) (T := TX8) (N := 13) hx hb hg inG_X8 tyX8 tyX8_ok nmX8 hown hK hP hD hS 0 rfl rfl 1 (by decide) (hg (.fieldLink RX8 13 "AttributeDesk" "tapeSize" "I") gw_2_161) (fun _ h9 => h9) rfl (by decide +kernel) rfl rfl (Nat.le_of_ble_eq_true rfl) dX8_init_15 (fun H locs hP hD hS => ?_)
  have hP : va_P (dC, dI) vwCl [(h0, .inr (8, [.ref q8, .int 0, .null, .null, .null, .null, .null, .null, .null, .null, .null, .int 0, .int 0])), (q8, .inl (cq8, 3000, .inl (fun _ => 0)))] H := hP
  have hD : va_D A [(h0, .inr (8, [.ref q8, .int 0, .null, .null, .null, .null, .null, .null, .null, .null, .null, .int 0, .int 0])), (q8, .inl (cq8, 3000, .inl (fun _ => 0)))] := hD
  refine lv_aload_n hx hb dX8_init_18 rfl (lv_at hl 0 rfl) ?_
  refine va_new (ci := 1) (fs := [.int 0, .null, .null, .null, .null, .null, .null, .int 0, .null, .null, .null, .null, .null, .null, .null, .null, .null, .int 0]) (C := RX1) (T := TX1) (N := 18) hx hb hg inG_X1 tyX1 tyX1_ok hown (hg (.classLink RX8 17 RX1) gw_1_20) (hg (.instantiable RX1 18) gw_1_21) (hg (.initialized RX1) gw_1_2) hK hP hD hS hA rfl (dflX1) (Nat.le_of_ble_eq_true rfl) (Nat.le_of_ble_eq_true rfl) dX8_init_19 (fun q19 H hP hD hS => ?_)
  have hP : va_P (dC, dI) vwCl [(h0, .inr (8, [.ref q8, .int 0, .null, .null, .null, .null, .null, .null, .null, .null, .null, .int 0, .int 0])), (q8, .inl (cq8, 3000, .inl (fun _ => 0))), (q19, .inr (1, [.int 0, .null, .null, .null, .null, .null, .null, .int 0, .null, .null, .null, .null, .null, .null, .null, .null, .null, .int 0]))] H := hP
  have hD : va_D A [(h0, .inr (8, [.ref q8, .int 0, .null, .null, .null, .null, .null, .null, .null, .null, .null, .int 0, .int 0])), (q8, .inl (cq8, 3000, .inl (fun _ => 0))), (q19, .inr (1, [.int 0, .null, .null, .null, .null, .null, .null, .int 0, .null, .null, .null, .null, .null, .null, .null, .null, .null, .int 0]))] := hD
  refine W.widen (k := 2) (n := 3018) (Nat.le_of_ble_eq_true rfl) (Nat.le_of_ble_eq_true rfl) ?_
  refine lv_dup hx hb dX8_init_22 rfl ?_
  have hPc := hP.sub (ws' := [(q19, .inr (1, [.int 0, .null, .null, .null, .null, .null, .null, .int 0, .null, .null, .null, .null, .null, .null, .null, .null, .null, .int 0]))]) [2] rfl
  have hDc := hD.sub (ws' := [(q19, .inr (1, [.int 0, .null, .null, .null, .null, .null, .null, .int 0, .null, .null, .null, .null, .null, .null, .null, .null, .null, .int 0]))]) [2] (by decide) rfl
  have hKc := hK.sub (tys' := []) [] rfl
  have hFc := va_free (wc := [(q19, .inr (1, [.int 0, .null, .null, .null, .null, .null, .null, .int 0, .null, .null, .null, .null, .null, .null, .null, .null, .null, .int 0]))]) hD hS hA [2] rfl
  refine va_callv (va_runIN (As := []) (rest := [.ref q19, .ref h0]) ⟨hx, hb, hml, hown, hg⟩ (c_X1_init l dC dI q19 H.size) ⟨va_cnB 0 hg gy_X1_init rfl rfl rfl hN19 (hg (.initialized RX1) gw_1_2) (by decide +kernel) ⟨Nat.le_of_ble_eq_true rfl, Nat.le_of_ble_eq_true rfl⟩, rfl, (hg (.instanceMethod yX1_init) gw_1_23)⟩ ⟨fun a U g mk q => by obtain ⟨q0, q1, qP, qK, qD⟩ := q; exact ⟨q0, q1, qP, va_K.moved (u := U) (U := U.calling g mk a) (Vm.Alike.refl U.vm) qK, qD⟩, fun U hU hW => ⟨rfl, by rw [hU], by rw [hU]; exact hPc, va_K.moved hW.alike hKc, hDc.weaken (fun _ _ _ _ => trivial)⟩⟩ rfl rfl hl.1 rfl (lv_room (Nat.le_of_ble_eq_true rfl)) dX8_init_23 ⟨Nat.le_of_ble_eq_true rfl, Nat.le_of_ble_eq_true rfl⟩) hS (fun q _ h => hFc q h) hFc (fun u2 t H1 locs ht hvm hw2 hB hz1 hk1 hS => ?_)
  obtain ⟨e0_3, e1_4, e2_5, e3_6, e4_7, e5_8, e6_9, e7_10, e8_11, e9_12, e10_13, e11_14, e12_15, e13_16, e14_17, hP1, hK1, hD1⟩ := hB
  rw [ht] at hP1
  have hK1 := va_K.moved hvm.symm hK1
  obtain ⟨hP, hD⟩ := va_join (wr := [(h0, .inr (8, [.ref q8, .int 0, .null, .null, .null, .null, .null, .null, .null, .null, .null, .int 0, .int 0])), (q8, .inl (cq8, 3000, .inl (fun _ => 0)))]) (w1 := [(q19, .inr (1, [.int 0, .ref e0_3, .ref e1_4, .ref e2_5, .ref e3_6, .ref e4_7, .ref e5_8, .int 0, .ref e6_9, .ref e7_10, .ref e8_11, .ref e9_12, .ref e10_13, .ref e11_14, .ref e12_15, .ref e13_16, .ref e14_17, .int 0]))]) hP hD [2] [0, 1] rfl rfl (by decide) (by decide) hk1 hFc hP1 hD1
  have hK := (hK.sub (tys' := [(cq8, .byte)]) [0] rfl).app hK1
  generalize H1 = H at hP hS ⊢
  have hP : va_P (dC, dI) vwCl [(h0, .inr (8, [.ref q8, .int 0, .null, .null, .null, .null, .null, .null, .null, .null, .null, .int 0, .int 0])), (q8, .inl (cq8, 3000, .inl (fun _ => 0))), (q19, .inr (1, [.int 0, .ref e0_3, .ref e1_4, .ref e2_5, .ref e3_6, .ref e4_7, .ref e5_8, .int 0, .ref e6_9, .ref e7_10, .ref e8_11, .ref e9_12, .ref e10_13, .ref e11_14, .ref e12_15, .ref e13_16, .ref e14_17, .int 0]))] H := hP
  have hD : va_D A [(h0, .inr (8, [.ref q8, .int 0, .null, .null, .null, .null, .null, .null, .null, .null, .null, .int 0, .int 0])), (q8, .inl (cq8, 3000, .inl (fun _ => 0))), (q19, .inr (1, [.int 0, .ref e0_3, .ref e1_4, .ref e2_5, .ref e3_6, .ref e4_7, .ref e5_8, .int 0, .ref e6_9, .ref e7_10, .ref e8_11, .ref e9_12, .ref e10_13, .ref e11_14, .ref e12_15, .ref e13_16, .ref e14_17, .int 0]))] := hD
  have hK : va_K (dC, dI) vwCl [(cq8, .byte)] s := hK
  refine W.widen (k := 17) (n := 11640) (Nat.le_of_ble_eq_true rfl) (Nat.le_of_ble_eq_true rfl) ?_
  refine va_put (D := (dC, dI)) (ci := 8) (v := .ref q19) (ty := .object "AttributeDesk$Grammar") (C := RX8) (T := TX8) (N := 13) hx hb hg inG_X8 tyX8 tyX8_ok nmX8 hown hK hP hD hS 0 rfl rfl 2 (by decide) (hg (.fieldLink RX8 20 "AttributeDesk" "known" "LAttributeDesk$Grammar;") gw_2_162) (fun _ h9 => h9) rfl (by decide +kernel) rfl rfl (Nat.le_of_ble_eq_true rfl) dX8_init_26 (fun H locs hP hD hS => ?_)
  have hP : va_P (dC, dI) vwCl [(h0, .inr (8, [.ref q8, .int 0, .ref q19, .null, .null, .null, .null, .null, .null, .null, .null, .int 0, .int 0])), (q8, .inl (cq8, 3000, .inl (fun _ => 0))), (q19, .inr (1, [.int 0, .ref e0_3, .ref e1_4, .ref e2_5, .ref e3_6, .ref e4_7, .ref e5_8, .int 0, .ref e6_9, .ref e7_10, .ref e8_11, .ref e9_12, .ref e10_13, .ref e11_14, .ref e12_15, .ref e13_16, .ref e14_17, .int 0]))] H := hP
  have hD : va_D A [(h0, .inr (8, [.ref q8, .int 0, .ref q19, .null, .null, .null, .null, .null, .null, .null, .null, .int 0, .int 0])), (q8, .inl (cq8, 3000, .inl (fun _ => 0))), (q19, .inr (1, [.int 0, .ref e0_3, .ref e1_4, .ref e2_5, .ref e3_6, .ref e4_7, .ref e5_8, .int 0, .ref e6_9, .ref e7_10, .ref e8_11, .ref e9_12, .ref e10_13, .ref e11_14, .ref e12_15, .ref e13_16, .ref e14_17, .int 0]))] := hD
  refine lv_aload_n hx hb dX8_init_29 rfl (lv_at hl 0 rfl) ?_
  refine va_new (ci := 1) (fs := [.int 0, .null, .null, .null, .null, .null, .null, .int 0, .null, .null, .null, .null, .null, .null, .null, .null, .null, .int 0]) (C := RX1) (T := TX1) (N := 18) hx hb hg inG_X1 tyX1 tyX1_ok hown (hg (.classLink RX8 17 RX1) gw_1_20) (hg (.instantiable RX1 18) gw_1_21) (hg (.initialized RX1) gw_1_2) hK hP hD hS hA rfl (dflX1) (Nat.le_of_ble_eq_true rfl) (Nat.le_of_ble_eq_true rfl) dX8_init_30 (fun q30 H hP hD hS => ?_)
  have hP : va_P (dC, dI) vwCl [(h0, .inr (8, [.ref q8, .int 0, .ref q19, .null, .null, .null, .null, .null, .null, .null, .null, .int 0, .int 0])), (q8, .inl (cq8, 3000, .inl (fun _ => 0))), (q19, .inr (1, [.int 0, .ref e0_3, .ref e1_4, .ref e2_5, .ref e3_6, .ref e4_7, .ref e5_8, .int 0, .ref e6_9, .ref e7_10, .ref e8_11, .ref e9_12, .ref e10_13, .ref e11_14, .ref e12_15, .ref e13_16, .ref e14_17, .int 0])), (q30, .inr (1, [.int 0, .null, .null, .null, .null, .null, .null, .int 0, .null, .null, .null, .null, .null, .null, .null, .null, .null, .int 0]))] H := hP
  have hD : va_D A [(h0, .inr (8, [.ref q8, .int 0, .ref q19, .null, .null, .null, .null, .null, .null, .null, .null, .int 0, .int 0])), (q8, .inl (cq8, 3000, .inl (fun _ => 0))), (q19, .inr (1, [.int 0, .ref e0_3, .ref e1_4, .ref e2_5, .ref e3_6, .ref e4_7, .ref e5_8, .int 0, .ref e6_9, .ref e7_10, .ref e8_11, .ref e9_12, .ref e10_13, .ref e11_14, .ref e12_15, .ref e13_16, .ref e14_17, .int 0])), (q30, .inr (1, [.int 0, .null, .null, .null, .null, .null, .null, .int 0, .null, .null, .null, .null, .null, .null, .null, .null, .null, .int 0]))] := hD
  refine W.widen (k := 18) (n := 11658) (Nat.le_of_ble_eq_true rfl) (Nat.le_of_ble_eq_true rfl) ?_
  refine lv_dup hx hb dX8_init_33 rfl ?_
  have hPc := hP.sub (ws' := [(q30, .inr (1, [.int 0, .null, .null, .null, .null, .null, .null, .int 0, .null, .null, .null, .null, .null, .null, .null, .null, .null, .int 0]))]) [3] rfl
  have hDc := hD.sub (ws' := [(q30, .inr (1, [.int 0, .null, .null, .null, .null, .null, .null, .int 0, .null, .null, .null, .null, .null, .null, .null, .null, .null, .int 0]))]) [3] (by decide) rfl
  have hKc := hK.sub (tys' := []) [] rfl
  have hFc := va_free (wc := [(q30, .inr (1, [.int 0, .null, .null, .null, .null, .null, .null, .int 0, .null, .null, .null, .null, .null, .null, .null, .null, .null, .int 0]))]) hD hS hA [3] rfl
  refine va_callv (va_runIN (As := []) (rest := [.ref q30, .ref h0]) ⟨hx, hb, hml, hown, hg⟩ (c_X1_init l dC dI q30 H.size) ⟨va_cnB 0 hg gy_X1_init rfl rfl rfl hN19 (hg (.initialized RX1) gw_1_2) (by decide +kernel) ⟨Nat.le_of_ble_eq_true rfl, Nat.le_of_ble_eq_true rfl⟩, rfl, (hg (.instanceMethod yX1_init) gw_1_23)⟩ ⟨fun a U g mk q => by obtain ⟨q0, q1, qP, qK, qD⟩ := q; exact ⟨q0, q1, qP, va_K.moved (u := U) (U := U.calling g mk a) (Vm.Alike.refl U.vm) qK, qD⟩, fun U hU hW => ⟨rfl, by rw [hU], by rw [hU]; exact hPc, va_K.moved hW.alike hKc, hDc.weaken (fun _ _ _ _ => trivial)⟩⟩ rfl rfl hl.1 rfl (lv_room (Nat.le_of_ble_eq_true rfl)) dX8_init_34 ⟨Nat.le_of_ble_eq_true rfl, Nat.le_of_ble_eq_true rfl⟩) hS (fun q _ h => hFc q h) hFc (fun u19 t H1 locs ht hvm hw19 hB hz1 hk1 hS => ?_)
  obtain ⟨e0_20, e1_21, e2_22, e3_23, e4_24, e5_25, e6_26, e7_27, e8_28, e9_29, e10_30, e11_31, e12_32, e13_33, e14_34, hP1, hK1, hD1⟩ := hB
  rw [ht] at hP1
  have hK1 := va_K.moved hvm.symm hK1
  obtain ⟨hP, hD⟩ := va_join (wr := [(h0, .inr (8, [.ref q8, .int 0, .ref q19, .null, .null, .null, .null, .null, .null, .null, .null, .int 0, .int 0])), (q8, .inl (cq8, 3000, .inl (fun _ => 0))), (q19, .inr (1, [.int 0, .ref e0_3, .ref e1_4, .ref e2_5, .ref e3_6, .ref e4_7, .ref e5_8, .int 0, .ref e6_9, .ref e7_10, .ref e8_11, .ref e9_12, .ref e10_13, .ref e11_14, .ref e12_15, .ref e13_16, .ref e14_17, .int 0]))]) (w1 := [(q30, .inr (1, [.int 0, .ref e0_20, .ref e1_21, .ref e2_22, .ref e3_23, .ref e4_24, .ref e5_25, .int 0, .ref e6_26, .ref e7_27, .ref e8_28, .ref e9_29, .ref e10_30, .ref e11_31, .ref e12_32, .ref e13_33, .ref e14_34, .int 0]))]) hP hD [3] [0, 1, 2] rfl rfl (by decide) (by decide) hk1 hFc hP1 hD1
  have hK := (hK.sub (tys' := [(cq8, .byte)]) [0] rfl).app hK1
  generalize H1 = H at hP hS ⊢
  have hP : va_P (dC, dI) vwCl [(h0, .inr (8, [.ref q8, .int 0, .ref q19, .null, .null, .null, .null, .null, .null, .null, .null, .int 0, .int 0])), (q8, .inl (cq8, 3000, .inl (fun _ => 0))), (q19, .inr (1, [.int 0, .ref e0_3, .ref e1_4, .ref e2_5, .ref e3_6, .ref e4_7, .ref e5_8, .int 0, .ref e6_9, .ref e7_10, .ref e8_11, .ref e9_12, .ref e10_13, .ref e11_14, .ref e12_15, .ref e13_16, .ref e14_17, .int 0])), (q30, .inr (1, [.int 0, .ref e0_20, .ref e1_21, .ref e2_22, .ref e3_23, .ref e4_24, .ref e5_25, .int 0, .ref e6_26, .ref e7_27, .ref e8_28, .ref e9_29, .ref e10_30, .ref e11_31, .ref e12_32, .ref e13_33, .ref e14_34, .int 0]))] H := hP
  have hD : va_D A [(h0, .inr (8, [.ref q8, .int 0, .ref q19, .null, .null, .null, .null, .null, .null, .null, .null, .int 0, .int 0])), (q8, .inl (cq8, 3000, .inl (fun _ => 0))), (q19, .inr (1, [.int 0, .ref e0_3, .ref e1_4, .ref e2_5, .ref e3_6, .ref e4_7, .ref e5_8, .int 0, .ref e6_9, .ref e7_10, .ref e8_11, .ref e9_12, .ref e10_13, .ref e11_14, .ref e12_15, .ref e13_16, .ref e14_17, .int 0])), (q30, .inr (1, [.int 0, .ref e0_20, .ref e1_21, .ref e2_22, .ref e3_23, .ref e4_24, .ref e5_25, .int 0, .ref e6_26, .ref e7_27, .ref e8_28, .ref e9_29, .ref e10_30, .ref e11_31, .ref e12_32, .ref e13_33, .ref e14_34, .int 0]))] := hD
  have hK : va_K (dC, dI) vwCl [(cq8, .byte)] s := hK
  refine W.widen (k := 33) (n := 20280) (Nat.le_of_ble_eq_true rfl) (Nat.le_of_ble_eq_true rfl) ?_
  refine va_put (D := (dC, dI)) (ci := 8) (v := .ref q30) (ty := .object "AttributeDesk$Grammar") (C := RX8) (T := TX8) (N := 13) hx hb hg inG_X8 tyX8 tyX8_ok nmX8 hown hK hP hD hS 0 rfl rfl 3 (by decide) (hg (.fieldLink RX8 24 "AttributeDesk" "spareGrammar" "LAttributeDesk$Grammar;") gw_2_163) (fun _ h9 => h9) rfl (by decide +kernel) rfl rfl (Nat.le_of_ble_eq_true rfl) dX8_init_37 (fun H locs hP hD hS => ?_)
  have hP : va_P (dC, dI) vwCl [(h0, .inr (8, [.ref q8, .int 0, .ref q19, .ref q30, .null, .null, .null, .null, .null, .null, .null, .int 0, .int 0])), (q8, .inl (cq8, 3000, .inl (fun _ => 0))), (q19, .inr (1, [.int 0, .ref e0_3, .ref e1_4, .ref e2_5, .ref e3_6, .ref e4_7, .ref e5_8, .int 0, .ref e6_9, .ref e7_10, .ref e8_11, .ref e9_12, .ref e10_13, .ref e11_14, .ref e12_15, .ref e13_16, .ref e14_17, .int 0])), (q30, .inr (1, [.int 0, .ref e0_20, .ref e1_21, .ref e2_22, .ref e3_23, .ref e4_24, .ref e5_25, .int 0, .ref e6_26, .ref e7_27, .ref e8_28, .ref e9_29, .ref e10_30, .ref e11_31, .ref e12_32, .ref e13_33, .ref e14_34, .int 0]))] H := hP
  have hD : va_D A [(h0, .inr (8, [.ref q8, .int 0, .ref q19, .ref q30, .null, .null, .null, .null, .null, .null, .null, .int 0, .int 0])), (q8, .inl (cq8, 3000, .inl (fun _ => 0))), (q19, .inr (1, [.int 0, .ref e0_3, .ref e1_4, .ref e2_5, .ref e3_6, .ref e4_7, .ref e5_8, .int 0, .ref e6_9, .ref e7_10, .ref e8_11, .ref e9_12, .ref e10_13, .ref e11_14, .ref e12_15, .ref e13_16, .ref e14_17, .int 0])), (q30, .inr (1, [.int 0, .ref e0_20, .ref e1_21, .ref e2_22, .ref e3_23, .ref e4_24, .ref e5_25, .int 0, .ref e6_26, .ref e7_27, .ref e8_28, .ref e9_29, .ref e10_30, .ref e11_31, .ref e12_32, .ref e13_33, .ref e14_34, .int 0]))] := hD
  refine lv_aload_n hx hb dX8_init_40 rfl (lv_at hl 0 rfl) ?_
  refine va_new (ci := 4) (fs := [.int 0, .null, .null, .null, .null, .null]) (C := RX4) (T := TX4) (N := 6) hx hb hg inG_X4 tyX4 tyX4_ok hown (hg (.classLink RX8 27 RX4) gw_1_114) (hg (.instantiable RX4 6) gw_1_115) (hg (.initialized RX4) gw_1_3) hK hP hD hS hA rfl (dflX4) (Nat.le_of_ble_eq_true rfl) (Nat.le_of_ble_eq_true rfl) dX8_init_41 (fun q41 H hP hD hS => ?_)
  have hP : va_P (dC, dI) vwCl [(h0, .inr (8, [.ref q8, .int 0, .ref q19, .ref q30, .null, .null, .null, .null, .null, .null, .null, .int 0, .int 0])), (q8, .inl (cq8, 3000, .inl (fun _ => 0))), (q19, .inr (1, [.int 0, .ref e0_3, .ref e1_4, .ref e2_5, .ref e3_6, .ref e4_7, .ref e5_8, .int 0, .ref e6_9, .ref e7_10, .ref e8_11, .ref e9_12, .ref e10_13, .ref e11_14, .ref e12_15, .ref e13_16, .ref e14_17, .int 0])), (q30, .inr (1, [.int 0, .ref e0_20, .ref e1_21, .ref e2_22, .ref e3_23, .ref e4_24, .ref e5_25, .int 0, .ref e6_26, .ref e7_27, .ref e8_28, .ref e9_29, .ref e10_30, .ref e11_31, .ref e12_32, .ref e13_33, .ref e14_34, .int 0])), (q41, .inr (4, [.int 0, .null, .null, .null, .null, .null]))] H := hP
  have hD : va_D A [(h0, .inr (8, [.ref q8, .int 0, .ref q19, .ref q30, .null, .null, .null, .null, .null, .null, .null, .int 0, .int 0])), (q8, .inl (cq8, 3000, .inl (fun _ => 0))), (q19, .inr (1, [.int 0, .ref e0_3, .ref e1_4, .ref e2_5, .ref e3_6, .ref e4_7, .ref e5_8, .int 0, .ref e6_9, .ref e7_10, .ref e8_11, .ref e9_12, .ref e10_13, .ref e11_14, .ref e12_15, .ref e13_16, .ref e14_17, .int 0])), (q30, .inr (1, [.int 0, .ref e0_20, .ref e1_21, .ref e2_22, .ref e3_23, .ref e4_24, .ref e5_25, .int 0, .ref e6_26, .ref e7_27, .ref e8_28, .ref e9_29, .ref e10_30, .ref e11_31, .ref e12_32, .ref e13_33, .ref e14_34, .int 0])), (q41, .inr (4, [.int 0, .null, .null, .null, .null, .null]))] := hD
  refine W.widen (k := 34) (n := 20286) (Nat.le_of_ble_eq_true rfl) (Nat.le_of_ble_eq_true rfl) ?_
  refine lv_dup hx hb dX8_init_44 rfl ?_
  have hPc := hP.sub (ws' := [(q41, .inr (4, [.int 0, .null, .null, .null, .null, .null]))]) [4] rfl
  have hDc := hD.sub (ws' := [(q41, .inr (4, [.int 0, .null, .null, .null, .null, .null]))]) [4] (by decide) rfl
  have hKc := hK.sub (tys' := []) [] rfl
  have hFc := va_free (wc := [(q41, .inr (4, [.int 0, .null, .null, .null, .null, .null]))]) hD hS hA [4] rfl
  refine va_callv (va_runIN (As := []) (rest := [.ref q41, .ref h0]) ⟨hx, hb, hml, hown, hg⟩ (c_X4_init l dC dI q41 H.size) ⟨va_cnB 0 hg gy_X4_init rfl rfl rfl hN29 (hg (.initialized RX4) gw_1_3) (by decide +kernel) ⟨Nat.le_of_ble_eq_true rfl, Nat.le_of_ble_eq_true rfl⟩, rfl, (hg (.instanceMethod yX4_init) gw_1_117)⟩ ⟨fun a U g mk q => by obtain ⟨q0, q1, qP, qK, qD⟩ := q; exact ⟨q0, q1, qP, va_K.moved (u := U) (U := U.calling g mk a) (Vm.Alike.refl U.vm) qK, qD⟩, fun U hU hW => ⟨rfl, by rw [hU], by rw [hU]; exact hPc, va_K.moved hW.alike hKc, hDc.weaken (fun _ _ _ _ => trivial)⟩⟩ rfl rfl hl.1 rfl (lv_room (Nat.le_of_ble_eq_true rfl)) dX8_init_45 ⟨Nat.le_of_ble_eq_true rfl, Nat.le_of_ble_eq_true rfl⟩) hS (fun q _ h => hFc q h) hFc (fun u36 t H1 locs ht hvm hw36 hB hz1 hk1 hS => ?_)
  obtain ⟨e0_37, e1_38, e2_39, e3_40, e4_41, hP1, hK1, hD1⟩ := hB
  rw [ht] at hP1
  have hK1 := va_K.moved hvm.symm hK1
  obtain ⟨hP, hD⟩ := va_join (wr := [(h0, .inr (8, [.ref q8, .int 0, .ref q19, .ref q30, .null, .null, .null, .null, .null, .null, .null, .int 0, .int 0])), (q8, .inl (cq8, 3000, .inl (fun _ => 0))), (q19, .inr (1, [.int 0, .ref e0_3, .ref e1_4, .ref e2_5, .ref e3_6, .ref e4_7, .ref e5_8, .int 0, .ref e6_9, .ref e7_10, .ref e8_11, .ref e9_12, .ref e10_13, .ref e11_14, .ref e12_15, .ref e13_16, .ref e14_17, .int 0])), (q30, .inr (1, [.int 0, .ref e0_20, .ref e1_21, .ref e2_22, .ref e3_23, .ref e4_24, .ref e5_25, .int 0, .ref e6_26, .ref e7_27, .ref e8_28, .ref e9_29, .ref e10_30, .ref e11_31, .ref e12_32, .ref e13_33, .ref e14_34, .int 0]))]) (w1 := [(q41, .inr (4, [.int 0, .ref e0_37, .ref e1_38, .ref e2_39, .ref e3_40, .ref e4_41]))]) hP hD [4] [0, 1, 2, 3] rfl rfl (by decide) (by decide) hk1 hFc hP1 hD1
  have hK := (hK.sub (tys' := [(cq8, .byte)]) [0] rfl).app hK1
  generalize H1 = H at hP hS ⊢
  have hP : va_P (dC, dI) vwCl [(h0, .inr (8, [.ref q8, .int 0, .ref q19, .ref q30, .null, .null, .null, .null, .null, .null, .null, .int 0, .int 0])), (q8, .inl (cq8, 3000, .inl (fun _ => 0))), (q19, .inr (1, [.int 0, .ref e0_3, .ref e1_4, .ref e2_5, .ref e3_6, .ref e4_7, .ref e5_8, .int 0, .ref e6_9, .ref e7_10, .ref e8_11, .ref e9_12, .ref e10_13, .ref e11_14, .ref e12_15, .ref e13_16, .ref e14_17, .int 0])), (q30, .inr (1, [.int 0, .ref e0_20, .ref e1_21, .ref e2_22, .ref e3_23, .ref e4_24, .ref e5_25, .int 0, .ref e6_26, .ref e7_27, .ref e8_28, .ref e9_29, .ref e10_30, .ref e11_31, .ref e12_32, .ref e13_33, .ref e14_34, .int 0])), (q41, .inr (4, [.int 0, .ref e0_37, .ref e1_38, .ref e2_39, .ref e3_40, .ref e4_41]))] H := hP
  have hD : va_D A [(h0, .inr (8, [.ref q8, .int 0, .ref q19, .ref q30, .null, .null, .null, .null, .null, .null, .null, .int 0, .int 0])), (q8, .inl (cq8, 3000, .inl (fun _ => 0))), (q19, .inr (1, [.int 0, .ref e0_3, .ref e1_4, .ref e2_5, .ref e3_6, .ref e4_7, .ref e5_8, .int 0, .ref e6_9, .ref e7_10, .ref e8_11, .ref e9_12, .ref e10_13, .ref e11_14, .ref e12_15, .ref e13_16, .ref e14_17, .int 0])), (q30, .inr (1, [.int 0, .ref e0_20, .ref e1_21, .ref e2_22, .ref e3_23, .ref e4_24, .ref e5_25, .int 0, .ref e6_26, .ref e7_27, .ref e8_28, .ref e9_29, .ref e10_30, .ref e11_31, .ref e12_32, .ref e13_33, .ref e14_34, .int 0])), (q41, .inr (4, [.int 0, .ref e0_37, .ref e1_38, .ref e2_39, .ref e3_40, .ref e4_41]))] := hD
  have hK : va_K (dC, dI) vwCl [(cq8, .byte)] s := hK
  refine W.widen (k := 39) (n := 21686) (Nat.le_of_ble_eq_true rfl) (Nat.le_of_ble_eq_true rfl) ?_
  refine va_put (D := (dC, dI)) (ci := 8) (v := .ref q41) (ty := .object "AttributeDesk$Tree") (C := RX8) (T := TX8) (N := 13) hx hb hg inG_X8 tyX8 tyX8_ok nmX8 hown hK hP hD hS 0 rfl rfl 4 (by decide) (hg (.fieldLink RX8 30 "AttributeDesk" "grown" "LAttributeDesk$Tree;") gw_2_164) (fun _ h9 => h9) rfl (by decide +kernel) rfl rfl (Nat.le_of_ble_eq_true rfl) dX8_init_48 (fun H locs hP hD hS => ?_)
  have hP : va_P (dC, dI) vwCl [(h0, .inr (8, [.ref q8, .int 0, .ref q19, .ref q30, .ref q41, .null, .null, .null, .null, .null, .null, .int 0, .int 0])), (q8, .inl (cq8, 3000, .inl (fun _ => 0))), (q19, .inr (1, [.int 0, .ref e0_3, .ref e1_4, .ref e2_5, .ref e3_6, .ref e4_7, .ref e5_8, .int 0, .ref e6_9, .ref e7_10, .ref e8_11, .ref e9_12, .ref e10_13, .ref e11_14, .ref e12_15, .ref e13_16, .ref e14_17, .int 0])), (q30, .inr (1, [.int 0, .ref e0_20, .ref e1_21, .ref e2_22, .ref e3_23, .ref e4_24, .ref e5_25, .int 0, .ref e6_26, .ref e7_27, .ref e8_28, .ref e9_29, .ref e10_30, .ref e11_31, .ref e12_32, .ref e13_33, .ref e14_34, .int 0])), (q41, .inr (4, [.int 0, .ref e0_37, .ref e1_38, .ref e2_39, .ref e3_40, .ref e4_41]))] H := hP
  have hD : va_D A [(h0, .inr (8, [.ref q8, .int 0, .ref q19, .ref q30, .ref q41, .null, .null, .null, .null, .null, .null, .int 0, .int 0])), (q8, .inl (cq8, 3000, .inl (fun _ => 0))), (q19, .inr (1, [.int 0, .ref e0_3, .ref e1_4, .ref e2_5, .ref e3_6, .ref e4_7, .ref e5_8, .int 0, .ref e6_9, .ref e7_10, .ref e8_11, .ref e9_12, .ref e10_13, .ref e11_14, .ref e12_15, .ref e13_16, .ref e14_17, .int 0])), (q30, .inr (1, [.int 0, .ref e0_20, .ref e1_21, .ref e2_22, .ref e3_23, .ref e4_24, .ref e5_25, .int 0, .ref e6_26, .ref e7_27, .ref e8_28, .ref e9_29, .ref e10_30, .ref e11_31, .ref e12_32, .ref e13_33, .ref e14_34, .int 0])), (q41, .inr (4, [.int 0, .ref e0_37, .ref e1_38, .ref e2_39, .ref e3_40, .ref e4_41]))] := hD
  refine lv_aload_n hx hb dX8_init_51 rfl (lv_at hl 0 rfl) ?_
  refine va_new (ci := 4) (fs := [.int 0, .null, .null, .null, .null, .null]) (C := RX4) (T := TX4) (N := 6) hx hb hg inG_X4 tyX4 tyX4_ok hown (hg (.classLink RX8 27 RX4) gw_1_114) (hg (.instantiable RX4 6) gw_1_115) (hg (.initialized RX4) gw_1_3) hK hP hD hS hA rfl (dflX4) (Nat.le_of_ble_eq_true rfl) (Nat.le_of_ble_eq_true rfl) dX8_init_52 (fun q52 H hP hD hS => ?_)
  have hP : va_P (dC, dI) vwCl [(h0, .inr (8, [.ref q8, .int 0, .ref q19, .ref q30, .ref q41, .null, .null, .null, .null, .null, .null, .int 0, .int 0])), (q8, .inl (cq8, 3000, .inl (fun _ => 0))), (q19, .inr (1, [.int 0, .ref e0_3, .ref e1_4, .ref e2_5, .ref e3_6, .ref e4_7, .ref e5_8, .int 0, .ref e6_9, .ref e7_10, .ref e8_11, .ref e9_12, .ref e10_13, .ref e11_14, .ref e12_15, .ref e13_16, .ref e14_17, .int 0])), (q30, .inr (1, [.int 0, .ref e0_20, .ref e1_21, .ref e2_22, .ref e3_23, .ref e4_24, .ref e5_25, .int 0, .ref e6_26, .ref e7_27, .ref e8_28, .ref e9_29, .ref e10_30, .ref e11_31, .ref e12_32, .ref e13_33, .ref e14_34, .int 0])), (q41, .inr (4, [.int 0, .ref e0_37, .ref e1_38, .ref e2_39, .ref e3_40, .ref e4_41])), (q52, .inr (4, [.int 0, .null, .null, .null, .null, .null]))] H := hP
  have hD : va_D A [(h0, .inr (8, [.ref q8, .int 0, .ref q19, .ref q30, .ref q41, .null, .null, .null, .null, .null, .null, .int 0, .int 0])), (q8, .inl (cq8, 3000, .inl (fun _ => 0))), (q19, .inr (1, [.int 0, .ref e0_3, .ref e1_4, .ref e2_5, .ref e3_6, .ref e4_7, .ref e5_8, .int 0, .ref e6_9, .ref e7_10, .ref e8_11, .ref e9_12, .ref e10_13, .ref e11_14, .ref e12_15, .ref e13_16, .ref e14_17, .int 0])), (q30, .inr (1, [.int 0, .ref e0_20, .ref e1_21, .ref e2_22, .ref e3_23, .ref e4_24, .ref e5_25, .int 0, .ref e6_26, .ref e7_27, .ref e8_28, .ref e9_29, .ref e10_30, .ref e11_31, .ref e12_32, .ref e13_33, .ref e14_34, .int 0])), (q41, .inr (4, [.int 0, .ref e0_37, .ref e1_38, .ref e2_39, .ref e3_40, .ref e4_41])), (q52, .inr (4, [.int 0, .null, .null, .null, .null, .null]))] := hD
  refine W.widen (k := 40) (n := 21692) (Nat.le_of_ble_eq_true rfl) (Nat.le_of_ble_eq_true rfl) ?_
  refine lv_dup hx hb dX8_init_55 rfl ?_
  have hPc := hP.sub (ws' := [(q52, .inr (4, [.int 0, .null, .null, .null, .null, .null]))]) [5] rfl
  have hDc := hD.sub (ws' := [(q52, .inr (4, [.int 0, .null, .null, .null, .null, .null]))]) [5] (by decide) rfl
  have hKc := hK.sub (tys' := []) [] rfl
  have hFc := va_free (wc := [(q52, .inr (4, [.int 0, .null, .null, .null, .null, .null]))]) hD hS hA [5] rfl
  refine va_callv (va_runIN (As := []) (rest := [.ref q52, .ref h0]) ⟨hx, hb, hml, hown, hg⟩ (c_X4_init l dC dI q52 H.size) ⟨va_cnB 0 hg gy_X4_init rfl rfl rfl hN29 (hg (.initialized RX4) gw_1_3) (by decide +kernel) ⟨Nat.le_of_ble_eq_true rfl, Nat.le_of_ble_eq_true rfl⟩, rfl, (hg (.instanceMethod yX4_init) gw_1_117)⟩ ⟨fun a U g mk q => by obtain ⟨q0, q1, qP, qK, qD⟩ := q; exact ⟨q0, q1, qP, va_K.moved (u := U) (U := U.calling g mk a) (Vm.Alike.refl U.vm) qK, qD⟩, fun U hU hW => ⟨rfl, by rw [hU], by rw [hU]; exact hPc, va_K.moved hW.alike hKc, hDc.weaken (fun _ _ _ _ => trivial)⟩⟩ rfl rfl hl.1 rfl (lv_room (Nat.le_of_ble_eq_true rfl)) dX8_init_56 ⟨Nat.le_of_ble_eq_true rfl, Nat.le_of_ble_eq_true rfl⟩) hS (fun q _ h => hFc q h) hFc (fun u43 t H1 locs ht hvm hw43 hB hz1 hk1 hS => ?_)
  obtain ⟨e0_44, e1_45, e2_46, e3_47, e4_48, hP1, hK1, hD1⟩ := hB
  rw [ht] at hP1
  have hK1 := va_K.moved hvm.symm hK1
  obtain ⟨hP, hD⟩ := va_join (wr := [(h0, .inr (8, [.ref q8, .int 0, .ref q19, .ref q30, .ref q41, .null, .null, .null, .null, .null, .null, .int 0, .int 0])), (q8, .inl (cq8, 3000, .inl (fun _ => 0))), (q19, .inr (1, [.int 0, .ref e0_3, .ref e1_4, .ref e2_5, .ref e3_6, .ref e4_7, .ref e5_8, .int 0, .ref e6_9, .ref e7_10, .ref e8_11, .ref e9_12, .ref e10_13, .ref e11_14, .ref e12_15, .ref e13_16, .ref e14_17, .int 0])), (q30, .inr (1, [.int 0, .ref e0_20, .ref e1_21, .ref e2_22, .ref e3_23, .ref e4_24, .ref e5_25, .int 0, .ref e6_26, .ref e7_27, .ref e8_28, .ref e9_29, .ref e10_30, .ref e11_31, .ref e12_32, .ref e13_33, .ref e14_34, .int 0])), (q41, .inr (4, [.int 0, .ref e0_37, .ref e1_38, .ref e2_39, .ref e3_40, .ref e4_41]))]) (w1 := [(q52, .inr (4, [.int 0, .ref e0_44, .ref e1_45, .ref e2_46, .ref e3_47, .ref e4_48]))]) hP hD [5] [0, 1, 2, 3, 4] rfl rfl (by decide) (by decide) hk1 hFc hP1 hD1
  have hK := (hK.sub (tys' := [(cq8, .byte)]) [0] rfl).app hK1
  generalize H1 = H at hP hS ⊢
  have hP : va_P (dC, dI) vwCl [(h0, .inr (8, [.ref q8, .int 0, .ref q19, .ref q30, .ref q41, .null, .null, .null, .null, .null, .null, .int 0, .int 0])), (q8, .inl (cq8, 3000, .inl (fun _ => 0))), (q19, .inr (1, [.int 0, .ref e0_3, .ref e1_4, .ref e2_5, .ref e3_6, .ref e4_7, .ref e5_8, .int 0, .ref e6_9, .ref e7_10, .ref e8_11, .ref e9_12, .ref e10_13, .ref e11_14, .ref e12_15, .ref e13_16, .ref e14_17, .int 0])), (q30, .inr (1, [.int 0, .ref e0_20, .ref e1_21, .ref e2_22, .ref e3_23, .ref e4_24, .ref e5_25, .int 0, .ref e6_26, .ref e7_27, .ref e8_28, .ref e9_29, .ref e10_30, .ref e11_31, .ref e12_32, .ref e13_33, .ref e14_34, .int 0])), (q41, .inr (4, [.int 0, .ref e0_37, .ref e1_38, .ref e2_39, .ref e3_40, .ref e4_41])), (q52, .inr (4, [.int 0, .ref e0_44, .ref e1_45, .ref e2_46, .ref e3_47, .ref e4_48]))] H := hP
  have hD : va_D A [(h0, .inr (8, [.ref q8, .int 0, .ref q19, .ref q30, .ref q41, .null, .null, .null, .null, .null, .null, .int 0, .int 0])), (q8, .inl (cq8, 3000, .inl (fun _ => 0))), (q19, .inr (1, [.int 0, .ref e0_3, .ref e1_4, .ref e2_5, .ref e3_6, .ref e4_7, .ref e5_8, .int 0, .ref e6_9, .ref e7_10, .ref e8_11, .ref e9_12, .ref e10_13, .ref e11_14, .ref e12_15, .ref e13_16, .ref e14_17, .int 0])), (q30, .inr (1, [.int 0, .ref e0_20, .ref e1_21, .ref e2_22, .ref e3_23, .ref e4_24, .ref e5_25, .int 0, .ref e6_26, .ref e7_27, .ref e8_28, .ref e9_29, .ref e10_30, .ref e11_31, .ref e12_32, .ref e13_33, .ref e14_34, .int 0])), (q41, .inr (4, [.int 0, .ref e0_37, .ref e1_38, .ref e2_39, .ref e3_40, .ref e4_41])), (q52, .inr (4, [.int 0, .ref e0_44, .ref e1_45, .ref e2_46, .ref e3_47, .ref e4_48]))] := hD
  have hK : va_K (dC, dI) vwCl [(cq8, .byte)] s := hK
  refine W.widen (k := 45) (n := 23092) (Nat.le_of_ble_eq_true rfl) (Nat.le_of_ble_eq_true rfl) ?_
  refine va_put (D := (dC, dI)) (ci := 8) (v := .ref q52) (ty := .object "AttributeDesk$Tree") (C := RX8) (T := TX8) (N := 13) hx hb hg inG_X8 tyX8 tyX8_ok nmX8 hown hK hP hD hS 0 rfl rfl 5 (by decide) (hg (.fieldLink RX8 34 "AttributeDesk" "spareTree" "LAttributeDesk$Tree;") gw_2_165) (fun _ h9 => h9) rfl (by decide +kernel) rfl rfl (Nat.le_of_ble_eq_true rfl) dX8_init_59 (fun H locs hP hD hS => ?_)
  have hP : va_P (dC, dI) vwCl [(h0, .inr (8, [.ref q8, .int 0, .ref q19, .ref q30, .ref q41, .ref q52, .null, .null, .null, .null, .null, .int 0, .int 0])), (q8, .inl (cq8, 3000, .inl (fun _ => 0))), (q19, .inr (1, [.int 0, .ref e0_3, .ref e1_4, .ref e2_5, .ref e3_6, .ref e4_7, .ref e5_8, .int 0, .ref e6_9, .ref e7_10, .ref e8_11, .ref e9_12, .ref e10_13, .ref e11_14, .ref e12_15, .ref e13_16, .ref e14_17, .int 0])), (q30, .inr (1, [.int 0, .ref e0_20, .ref e1_21, .ref e2_22, .ref e3_23, .ref e4_24, .ref e5_25, .int 0, .ref e6_26, .ref e7_27, .ref e8_28, .ref e9_29, .ref e10_30, .ref e11_31, .ref e12_32, .ref e13_33, .ref e14_34, .int 0])), (q41, .inr (4, [.int 0, .ref e0_37, .ref e1_38, .ref e2_39, .ref e3_40, .ref e4_41])), (q52, .inr (4, [.int 0, .ref e0_44, .ref e1_45, .ref e2_46, .ref e3_47, .ref e4_48]))] H := hP
  have hD : va_D A [(h0, .inr (8, [.ref q8, .int 0, .ref q19, .ref q30, .ref q41, .ref q52, .null, .null, .null, .null, .null, .int 0, .int 0])), (q8, .inl (cq8, 3000, .inl (fun _ => 0))), (q19, .inr (1, [.int 0, .ref e0_3, .ref e1_4, .ref e2_5, .ref e3_6, .ref e4_7, .ref e5_8, .int 0, .ref e6_9, .ref e7_10, .ref e8_11, .ref e9_12, .ref e10_13, .ref e11_14, .ref e12_15, .ref e13_16, .ref e14_17, .int 0])), (q30, .inr (1, [.int 0, .ref e0_20, .ref e1_21, .ref e2_22, .ref e3_23, .ref e4_24, .ref e5_25, .int 0, .ref e6_26, .ref e7_27, .ref e8_28, .ref e9_29, .ref e10_30, .ref e11_31, .ref e12_32, .ref e13_33, .ref e14_34, .int 0])), (q41, .inr (4, [.int 0, .ref e0_37, .ref e1_38, .ref e2_39, .ref e3_40, .ref e4_41])), (q52, .inr (4, [.int 0, .ref e0_44, .ref e1_45, .ref e2_46, .ref e3_47, .ref e4_48]))] := hD
  have hP := hP.sub (ws' := [(h0, .inr (8, [.ref q8, .int 0, .ref q19, .ref q30, .ref q41, .ref q52, .null, .null, .null, .null, .null, .int 0, .int 0])), (q8, .inl (cq8, 3000, .inl (fun _ => 0))), (q19, .inr (1, [.int 0, .ref e0_3, .ref e1_4, .ref e2_5, .ref e3_6, .ref e4_7, .ref e5_8, .int 0, .ref e6_9, .ref e7_10, .ref e8_11, .ref e9_12, .ref e10_13, .ref e11_14, .ref e12_15, .ref e13_16, .ref e14_17, .int 0])), (q30, .inr (1, [.int 0, .ref e0_20, .ref e1_21, .ref e2_22, .ref e3_23, .ref e4_24, .ref e5_25, .int 0, .ref e6_26, .ref e7_27, .ref e8_28, .ref e9_29, .ref e10_30, .ref e11_31, .ref e12_32, .ref e13_33, .ref e14_34, .int 0])), (q41, .inr (4, [.int 0, .ref e0_37, .ref e1_38, .ref e2_39, .ref e3_40, .ref e4_41]))]) [0, 1, 2, 3, 4] rfl
  have hD := hD.sub (ws' := [(h0, .inr (8, [.ref q8, .int 0, .ref q19, .ref q30, .ref q41, .ref q52, .null, .null, .null, .null, .null, .int 0, .int 0])), (q8, .inl (cq8, 3000, .inl (fun _ => 0))), (q19, .inr (1, [.int 0, .ref e0_3, .ref e1_4, .ref e2_5, .ref e3_6, .ref e4_7, .ref e5_8, .int 0, .ref e6_9, .ref e7_10, .ref e8_11, .ref e9_12, .ref e10_13, .ref e11_14, .ref e12_15, .ref e13_16, .ref e14_17, .int 0])), (q30, .inr (1, [.int 0, .ref e0_20, .ref e1_21, .ref e2_22, .ref e3_23, .ref e4_24, .ref e5_25, .int 0, .ref e6_26, .ref e7_27, .ref e8_28, .ref e9_29, .ref e10_30, .ref e11_31, .ref e12_32, .ref e13_33, .ref e14_34, .int 0])), (q41, .inr (4, [.int 0, .ref e0_37, .ref e1_38, .ref e2_39, .ref e3_40, .ref e4_41]))]) [0, 1, 2, 3, 4] (by decide) rfl
  refine lv_aload_n hx hb dX8_init_62 rfl (lv_at hl 0 rfl) ?_
  refine va_new (ci := 3) (fs := [.null, .int 0, .int 0, .int 0, .int 0, .long 0, .long 0]) (C := RX3) (T := TX3) (N := 7) hx hb hg inG_X3 tyX3 tyX3_ok hown (hg (.classLink RX8 37 RX3) gw_1_154) (hg (.instantiable RX3 7) gw_1_155) (hg (.initialized RX3) gw_1_4) hK hP hD hS hA rfl (dflX3) (Nat.le_of_ble_eq_true rfl) (Nat.le_of_ble_eq_true rfl) dX8_init_63 (fun q63 H hP hD hS => ?_)
  have hP : va_P (dC, dI) vwCl [(h0, .inr (8, [.ref q8, .int 0, .ref q19, .ref q30, .ref q41, .ref q52, .null, .null, .null, .null, .null, .int 0, .int 0])), (q8, .inl (cq8, 3000, .inl (fun _ => 0))), (q19, .inr (1, [.int 0, .ref e0_3, .ref e1_4, .ref e2_5, .ref e3_6, .ref e4_7, .ref e5_8, .int 0, .ref e6_9, .ref e7_10, .ref e8_11, .ref e9_12, .ref e10_13, .ref e11_14, .ref e12_15, .ref e13_16, .ref e14_17, .int 0])), (q30, .inr (1, [.int 0, .ref e0_20, .ref e1_21, .ref e2_22, .ref e3_23, .ref e4_24, .ref e5_25, .int 0, .ref e6_26, .ref e7_27, .ref e8_28, .ref e9_29, .ref e10_30, .ref e11_31, .ref e12_32, .ref e13_33, .ref e14_34, .int 0])), (q41, .inr (4, [.int 0, .ref e0_37, .ref e1_38, .ref e2_39, .ref e3_40, .ref e4_41])), (q63, .inr (3, [.null, .int 0, .int 0, .int 0, .int 0, .long 0, .long 0]))] H := hP
  have hD : va_D A [(h0, .inr (8, [.ref q8, .int 0, .ref q19, .ref q30, .ref q41, .ref q52, .null, .null, .null, .null, .null, .int 0, .int 0])), (q8, .inl (cq8, 3000, .inl (fun _ => 0))), (q19, .inr (1, [.int 0, .ref e0_3, .ref e1_4, .ref e2_5, .ref e3_6, .ref e4_7, .ref e5_8, .int 0, .ref e6_9, .ref e7_10, .ref e8_11, .ref e9_12, .ref e10_13, .ref e11_14, .ref e12_15, .ref e13_16, .ref e14_17, .int 0])), (q30, .inr (1, [.int 0, .ref e0_20, .ref e1_21, .ref e2_22, .ref e3_23, .ref e4_24, .ref e5_25, .int 0, .ref e6_26, .ref e7_27, .ref e8_28, .ref e9_29, .ref e10_30, .ref e11_31, .ref e12_32, .ref e13_33, .ref e14_34, .int 0])), (q41, .inr (4, [.int 0, .ref e0_37, .ref e1_38, .ref e2_39, .ref e3_40, .ref e4_41])), (q63, .inr (3, [.null, .int 0, .int 0, .int 0, .int 0, .long 0, .long 0]))] := hD
  refine W.widen (k := 46) (n := 23099) (Nat.le_of_ble_eq_true rfl) (Nat.le_of_ble_eq_true rfl) ?_
  refine lv_dup hx hb dX8_init_66 rfl ?_
  refine lv_aload_n hx hb dX8_init_67 rfl (lv_at hl 0 rfl) ?_
  refine va_get (D := (dC, dI)) (ci := 8) (v := .ref q8) (C := RX8) (T := TX8) (N := 13) hx hb hg inG_X8 hown hK hP 0 rfl rfl 0 (by decide) (hg (.fieldLink RX8 9 "AttributeDesk" "tape" "[B") gw_2_160) (fun _ h9 => h9) rfl dX8_init_68 ?_
  have hPc := hP.sub (ws' := [(q63, .inr (3, [.null, .int 0, .int 0, .int 0, .int 0, .long 0, .long 0]))]) [5] rfl
  have hDc := hD.sub (ws' := [(q63, .inr (3, [.null, .int 0, .int 0, .int 0, .int 0, .long 0, .long 0]))]) [5] (by decide) rfl
  have hKc := hK.sub (tys' := []) [] rfl
  have hFc := va_free (wc := [(q63, .inr (3, [.null, .int 0, .int 0, .int 0, .int 0, .long 0, .long 0]))]) hD hS hA [5] rfl
  refine va_callv (va_runI (As := [.ref q8]) (rest := [.ref q63, .ref h0]) ⟨hx, hb, hml, hown, hg⟩ (c_X3_init l dC dI q63 q8 H.size) (cwI 1 hg gy_X3_init rfl rfl rfl (hg (.initialized RX3) gw_1_4) (hg (.methodLink RX8 39 yX3_init) gw_1_156) (hg (.instanceMethod yX3_init) gw_1_157) rfl (by decide +kernel) ⟨Nat.le_of_ble_eq_true rfl, Nat.le_of_ble_eq_true rfl⟩) ⟨fun a U g mk q => by obtain ⟨q0, q1, qP, qK, qD⟩ := q; exact ⟨q0, q1, qP, va_K.moved (u := U) (U := U.calling g mk a) (Vm.Alike.refl U.vm) qK, qD⟩, fun U hU hW => ⟨rfl, by rw [hU], by rw [hU]; exact hPc, va_K.moved hW.alike hKc, hDc.weaken (fun _ _ _ _ => trivial)⟩⟩ rfl rfl hl.1 rfl (lv_room (Nat.le_of_ble_eq_true rfl)) dX8_init_71 ⟨Nat.le_of_ble_eq_true rfl, Nat.le_of_ble_eq_true rfl⟩) hS (fun q _ h => hFc q h) hFc (fun u50 t H1 locs ht hvm hw50 hB hz1 hk1 hS => ?_)
  obtain ⟨hP1, hK1, hD1⟩ := hB
  rw [ht] at hP1
  have hK1 := va_K.moved hvm.symm hK1
  obtain ⟨hP, hD⟩ := va_join (wr := [(h0, .inr (8, [.ref q8, .int 0, .ref q19, .ref q30, .ref q41, .ref q52, .null, .null, .null, .null, .null, .int 0, .int 0])), (q8, .inl (cq8, 3000, .inl (fun _ => 0))), (q19, .inr (1, [.int 0, .ref e0_3, .ref e1_4, .ref e2_5, .ref e3_6, .ref e4_7, .ref e5_8, .int 0, .ref e6_9, .ref e7_10, .ref e8_11, .ref e9_12, .ref e10_13, .ref e11_14, .ref e12_15, .ref e13_16, .ref e14_17, .int 0])), (q30, .inr (1, [.int 0, .ref e0_20, .ref e1_21, .ref e2_22, .ref e3_23, .ref e4_24, .ref e5_25, .int 0, .ref e6_26, .ref e7_27, .ref e8_28, .ref e9_29, .ref e10_30, .ref e11_31, .ref e12_32, .ref e13_33, .ref e14_34, .int 0])), (q41, .inr (4, [.int 0, .ref e0_37, .ref e1_38, .ref e2_39, .ref e3_40, .ref e4_41]))]) (w1 := [(q63, .inr (3, [.ref q8, .int 0, .int 0, .int (-1), .int 0, .long 0, .long 0]))]) hP hD [5] [0, 1, 2, 3, 4] rfl rfl (by decide) (by decide) hk1 hFc hP1 hD1
  have hK := (hK.sub (tys' := [(cq8, .byte)]) [0] rfl).app hK1
  generalize H1 = H at hP hS ⊢
  have hP : va_P (dC, dI) vwCl [(h0, .inr (8, [.ref q8, .int 0, .ref q19, .ref q30, .ref q41, .ref q52, .null, .null, .null, .null, .null, .int 0, .int 0])), (q8, .inl (cq8, 3000, .inl (fun _ => 0))), (q19, .inr (1, [.int 0, .ref e0_3, .ref e1_4, .ref e2_5, .ref e3_6, .ref e4_7, .ref e5_8, .int 0, .ref e6_9, .ref e7_10, .ref e8_11, .ref e9_12, .ref e10_13, .ref e11_14, .ref e12_15, .ref e13_16, .ref e14_17, .int 0])), (q30, .inr (1, [.int 0, .ref e0_20, .ref e1_21, .ref e2_22, .ref e3_23, .ref e4_24, .ref e5_25, .int 0, .ref e6_26, .ref e7_27, .ref e8_28, .ref e9_29, .ref e10_30, .ref e11_31, .ref e12_32, .ref e13_33, .ref e14_34, .int 0])), (q41, .inr (4, [.int 0, .ref e0_37, .ref e1_38, .ref e2_39, .ref e3_40, .ref e4_41])), (q63, .inr (3, [.ref q8, .int 0, .int 0, .int (-1), .int 0, .long 0, .long 0]))] H := hP
  have hD : va_D A [(h0, .inr (8, [.ref q8, .int 0, .ref q19, .ref q30, .ref q41, .ref q52, .null, .null, .null, .null, .null, .int 0, .int 0])), (q8, .inl (cq8, 3000, .inl (fun _ => 0))), (q19, .inr (1, [.int 0, .ref e0_3, .ref e1_4, .ref e2_5, .ref e3_6, .ref e4_7, .ref e5_8, .int 0, .ref e6_9, .ref e7_10, .ref e8_11, .ref e9_12, .ref e10_13, .ref e11_14, .ref e12_15, .ref e13_16, .ref e14_17, .int 0])), (q30, .inr (1, [.int 0, .ref e0_20, .ref e1_21, .ref e2_22, .ref e3_23, .ref e4_24, .ref e5_25, .int 0, .ref e6_26, .ref e7_27, .ref e8_28, .ref e9_29, .ref e10_30, .ref e11_31, .ref e12_32, .ref e13_33, .ref e14_34, .int 0])), (q41, .inr (4, [.int 0, .ref e0_37, .ref e1_38, .ref e2_39, .ref e3_40, .ref e4_41])), (q63, .inr (3, [.ref q8, .int 0, .int 0, .int (-1), .int 0, .long 0, .long 0]))] := hD
  have hK : va_K (dC, dI) vwCl [(cq8, .byte)] s := hK
  refine va_putF (D := (dC, dI)) (ci := 8) (v := .ref q63) (ty := .object "AttributeDesk$Tokens") (C := RX8) (T := TX8) (N := 13) hx hb hg inG_X8 tyX8 tyX8_ok nmX8 hown hK hP hD hS 0 rfl rfl 6 (by decide) (hg (.fieldLink RX8 42 "AttributeDesk" "tokens" "LAttributeDesk$Tokens;") gw_2_166) (fun _ h9 => h9) rfl hin rfl (by decide +kernel) rfl rfl (Nat.le_of_ble_eq_true rfl) dX8_init_74 (fun H locs hP hD hS => ?_)
  have hP : va_P (dC, dI) vwCl [(h0, .inr (8, [.ref q8, .int 0, .ref q19, .ref q30, .ref q41, .ref q52, .ref q63, .null, .null, .null, .null, .int 0, .int 0])), (q8, .inl (cq8, 3000, .inl (fun _ => 0))), (q19, .inr (1, [.int 0, .ref e0_3, .ref e1_4, .ref e2_5, .ref e3_6, .ref e4_7, .ref e5_8, .int 0, .ref e6_9, .ref e7_10, .ref e8_11, .ref e9_12, .ref e10_13, .ref e11_14, .ref e12_15, .ref e13_16, .ref e14_17, .int 0])), (q30, .inr (1, [.int 0, .ref e0_20, .ref e1_21, .ref e2_22, .ref e3_23, .ref e4_24, .ref e5_25, .int 0, .ref e6_26, .ref e7_27, .ref e8_28, .ref e9_29, .ref e10_30, .ref e11_31, .ref e12_32, .ref e13_33, .ref e14_34, .int 0])), (q41, .inr (4, [.int 0, .ref e0_37, .ref e1_38, .ref e2_39, .ref e3_40, .ref e4_41])), (q63, .inr (3, [.ref q8, .int 0, .int 0, .int (-1), .int 0, .long 0, .long 0]))] H := hP
  have hD : va_D A [(h0, .inr (8, [.ref q8, .int 0, .ref q19, .ref q30, .ref q41, .ref q52, .ref q63, .null, .null, .null, .null, .int 0, .int 0])), (q8, .inl (cq8, 3000, .inl (fun _ => 0))), (q19, .inr (1, [.int 0, .ref e0_3, .ref e1_4, .ref e2_5, .ref e3_6, .ref e4_7, .ref e5_8, .int 0, .ref e6_9, .ref e7_10, .ref e8_11, .ref e9_12, .ref e10_13, .ref e11_14, .ref e12_15, .ref e13_16, .ref e14_17, .int 0])), (q30, .inr (1, [.int 0, .ref e0_20, .ref e1_21, .ref e2_22, .ref e3_23, .ref e4_24, .ref e5_25, .int 0, .ref e6_26, .ref e7_27, .ref e8_28, .ref e9_29, .ref e10_30, .ref e11_31, .ref e12_32, .ref e13_33, .ref e14_34, .int 0])), (q41, .inr (4, [.int 0, .ref e0_37, .ref e1_38, .ref e2_39, .ref e3_40, .ref e4_41])), (q63, .inr (3, [.ref q8, .int 0, .int 0, .int (-1), .int 0, .long 0, .long 0]))] := hD
  refine lv_aload_n hx hb dX8_init_77 rfl (lv_at hl 0 rfl) ?_
  refine va_new (ci := 2) (fs := [.null, .null, .null, .int 0, .int 0, .int 0, .int 0]) (C := RX2) (T := TX2) (N := 7) hx hb hg inG_X2 tyX2 tyX2_ok hown (hg (.classLink RX8 46 RX2) gw_1_192) (hg (.instantiable RX2 7) gw_1_193) (hg (.initialized RX2) gw_1_5) hK hP hD hS hA rfl (dflX2) (Nat.le_of_ble_eq_true rfl) (Nat.le_of_ble_eq_true rfl) dX8_init_78 (fun q78 H hP hD hS => ?_)
  have hP : va_P (dC, dI) vwCl [(h0, .inr (8, [.ref q8, .int 0, .ref q19, .ref q30, .ref q41, .ref q52, .ref q63, .null, .null, .null, .null, .int 0, .int 0])), (q8, .inl (cq8, 3000, .inl (fun _ => 0))), (q19, .inr (1, [.int 0, .ref e0_3, .ref e1_4, .ref e2_5, .ref e3_6, .ref e4_7, .ref e5_8, .int 0, .ref e6_9, .ref e7_10, .ref e8_11, .ref e9_12, .ref e10_13, .ref e11_14, .ref e12_15, .ref e13_16, .ref e14_17, .int 0])), (q30, .inr (1, [.int 0, .ref e0_20, .ref e1_21, .ref e2_22, .ref e3_23, .ref e4_24, .ref e5_25, .int 0, .ref e6_26, .ref e7_27, .ref e8_28, .ref e9_29, .ref e10_30, .ref e11_31, .ref e12_32, .ref e13_33, .ref e14_34, .int 0])), (q41, .inr (4, [.int 0, .ref e0_37, .ref e1_38, .ref e2_39, .ref e3_40, .ref e4_41])), (q63, .inr (3, [.ref q8, .int 0, .int 0, .int (-1), .int 0, .long 0, .long 0])), (q78, .inr (2, [.null, .null, .null, .int 0, .int 0, .int 0, .int 0]))] H := hP
  have hD : va_D A [(h0, .inr (8, [.ref q8, .int 0, .ref q19, .ref q30, .ref q41, .ref q52, .ref q63, .null, .null, .null, .null, .int 0, .int 0])), (q8, .inl (cq8, 3000, .inl (fun _ => 0))), (q19, .inr (1, [.int 0, .ref e0_3, .ref e1_4, .ref e2_5, .ref e3_6, .ref e4_7, .ref e5_8, .int 0, .ref e6_9, .ref e7_10, .ref e8_11, .ref e9_12, .ref e10_13, .ref e11_14, .ref e12_15, .ref e13_16, .ref e14_17, .int 0])), (q30, .inr (1, [.int 0, .ref e0_20, .ref e1_21, .ref e2_22, .ref e3_23, .ref e4_24, .ref e5_25, .int 0, .ref e6_26, .ref e7_27, .ref e8_28, .ref e9_29, .ref e10_30, .ref e11_31, .ref e12_32, .ref e13_33, .ref e14_34, .int 0])), (q41, .inr (4, [.int 0, .ref e0_37, .ref e1_38, .ref e2_39, .ref e3_40, .ref e4_41])), (q63, .inr (3, [.ref q8, .int 0, .int 0, .int (-1), .int 0, .long 0, .long 0])), (q78, .inr (2, [.null, .null, .null, .int 0, .int 0, .int 0, .int 0]))] := hD
  refine W.widen (k := 47) (n := 23106) (Nat.le_of_ble_eq_true rfl) (Nat.le_of_ble_eq_true rfl) ?_
  refine lv_dup hx hb dX8_init_81 rfl ?_
  refine lv_aload_n hx hb dX8_init_82 rfl (lv_at hl 0 rfl) ?_
  refine va_get (D := (dC, dI)) (ci := 8) (v := .ref q63) (C := RX8) (T := TX8) (N := 13) hx hb hg inG_X8 hown hK hP 0 rfl rfl 6 (by decide) (hg (.fieldLink RX8 42 "AttributeDesk" "tokens" "LAttributeDesk$Tokens;") gw_2_166) (fun _ h9 => h9) rfl dX8_init_83 ?_
  refine lv_aload_n hx hb dX8_init_86 rfl (lv_at hl 0 rfl) ?_
  refine va_get (D := (dC, dI)) (ci := 8) (v := .ref q30) (C := RX8) (T := TX8) (N := 13) hx hb hg inG_X8 hown hK hP 0 rfl rfl 3 (by decide) (hg (.fieldLink RX8 24 "AttributeDesk" "spareGrammar" "LAttributeDesk$Grammar;") gw_2_163) (fun _ h9 => h9) rfl dX8_init_87 ?_
  have hPc := hP.sub (ws' := [(q78, .inr (2, [.null, .null, .null, .int 0, .int 0, .int 0, .int 0]))]) [6] rfl
  have hDc := hD.sub (ws' := [(q78, .inr (2, [.null, .null, .null, .int 0, .int 0, .int 0, .int 0]))]) [6] (by decide) rfl
  have hKc := hK.sub (tys' := []) [] rfl
  have hFc := va_free (wc := [(q78, .inr (2, [.null, .null, .null, .int 0, .int 0, .int 0, .int 0]))]) hD hS hA [6] rfl
  refine va_callv (va_runI (As := [.ref q63, .ref q30]) (rest := [.ref q78, .ref h0]) ⟨hx, hb, hml, hown, hg⟩ (c_X2_init l dC dI q78 q63 q30 H.size) (cwI 2 hg gy_X2_init rfl rfl rfl (hg (.initialized RX2) gw_1_5) (hg (.methodLink RX8 48 yX2_init) gw_1_194) (hg (.instanceMethod yX2_init) gw_1_195) rfl (by decide +kernel) ⟨Nat.le_of_ble_eq_true rfl, Nat.le_of_ble_eq_true rfl⟩) ⟨fun a U g mk q => by obtain ⟨q0, q1, qP, qK, qD⟩ := q; exact ⟨q0, q1, qP, va_K.moved (u := U) (U := U.calling g mk a) (Vm.Alike.refl U.vm) qK, qD⟩, fun U hU hW => ⟨rfl, by rw [hU], by rw [hU]; exact hPc, va_K.moved hW.alike hKc, hDc.weaken (fun _ _ _ _ => trivial)⟩⟩ rfl rfl hl.1 rfl (lv_room (Nat.le_of_ble_eq_true rfl)) dX8_init_90 ⟨Nat.le_of_ble_eq_true rfl, Nat.le_of_ble_eq_true rfl⟩) hS (fun q _ h => hFc q h) hFc (fun u52 t H1 locs ht hvm hw52 hB hz1 hk1 hS => ?_)
  obtain ⟨e0_53, hP1, hK1, hD1⟩ := hB
  rw [ht] at hP1
  have hK1 := va_K.moved hvm.symm hK1
  obtain ⟨hP, hD⟩ := va_join (wr := [(h0, .inr (8, [.ref q8, .int 0, .ref q19, .ref q30, .ref q41, .ref q52, .ref q63, .null, .null, .null, .null, .int 0, .int 0])), (q8, .inl (cq8, 3000, .inl (fun _ => 0))), (q19, .inr (1, [.int 0, .ref e0_3, .ref e1_4, .ref e2_5, .ref e3_6, .ref e4_7, .ref e5_8, .int 0, .ref e6_9, .ref e7_10, .ref e8_11, .ref e9_12, .ref e10_13, .ref e11_14, .ref e12_15, .ref e13_16, .ref e14_17, .int 0])), (q30, .inr (1, [.int 0, .ref e0_20, .ref e1_21, .ref e2_22, .ref e3_23, .ref e4_24, .ref e5_25, .int 0, .ref e6_26, .ref e7_27, .ref e8_28, .ref e9_29, .ref e10_30, .ref e11_31, .ref e12_32, .ref e13_33, .ref e14_34, .int 0])), (q41, .inr (4, [.int 0, .ref e0_37, .ref e1_38, .ref e2_39, .ref e3_40, .ref e4_41])), (q63, .inr (3, [.ref q8, .int 0, .int 0, .int (-1), .int 0, .long 0, .long 0]))]) (w1 := [(q78, .inr (2, [.ref q63, .ref e0_53, .ref q30, .int 0, .int 0, .int 0, .int 0]))]) hP hD [6] [0, 1, 2, 3, 4, 5] rfl rfl (by decide) (by decide) hk1 hFc hP1 hD1
  have hK := (hK.sub (tys' := [(cq8, .byte)]) [0] rfl).app hK1
  generalize H1 = H at hP hS ⊢
  have hP : va_P (dC, dI) vwCl [(h0, .inr (8, [.ref q8, .int 0, .ref q19, .ref q30, .ref q41, .ref q52, .ref q63, .null, .null, .null, .null, .int 0, .int 0])), (q8, .inl (cq8, 3000, .inl (fun _ => 0))), (q19, .inr (1, [.int 0, .ref e0_3, .ref e1_4, .ref e2_5, .ref e3_6, .ref e4_7, .ref e5_8, .int 0, .ref e6_9, .ref e7_10, .ref e8_11, .ref e9_12, .ref e10_13, .ref e11_14, .ref e12_15, .ref e13_16, .ref e14_17, .int 0])), (q30, .inr (1, [.int 0, .ref e0_20, .ref e1_21, .ref e2_22, .ref e3_23, .ref e4_24, .ref e5_25, .int 0, .ref e6_26, .ref e7_27, .ref e8_28, .ref e9_29, .ref e10_30, .ref e11_31, .ref e12_32, .ref e13_33, .ref e14_34, .int 0])), (q41, .inr (4, [.int 0, .ref e0_37, .ref e1_38, .ref e2_39, .ref e3_40, .ref e4_41])), (q63, .inr (3, [.ref q8, .int 0, .int 0, .int (-1), .int 0, .long 0, .long 0])), (q78, .inr (2, [.ref q63, .ref e0_53, .ref q30, .int 0, .int 0, .int 0, .int 0]))] H := hP
  have hD : va_D A [(h0, .inr (8, [.ref q8, .int 0, .ref q19, .ref q30, .ref q41, .ref q52, .ref q63, .null, .null, .null, .null, .int 0, .int 0])), (q8, .inl (cq8, 3000, .inl (fun _ => 0))), (q19, .inr (1, [.int 0, .ref e0_3, .ref e1_4, .ref e2_5, .ref e3_6, .ref e4_7, .ref e5_8, .int 0, .ref e6_9, .ref e7_10, .ref e8_11, .ref e9_12, .ref e10_13, .ref e11_14, .ref e12_15, .ref e13_16, .ref e14_17, .int 0])), (q30, .inr (1, [.int 0, .ref e0_20, .ref e1_21, .ref e2_22, .ref e3_23, .ref e4_24, .ref e5_25, .int 0, .ref e6_26, .ref e7_27, .ref e8_28, .ref e9_29, .ref e10_30, .ref e11_31, .ref e12_32, .ref e13_33, .ref e14_34, .int 0])), (q41, .inr (4, [.int 0, .ref e0_37, .ref e1_38, .ref e2_39, .ref e3_40, .ref e4_41])), (q63, .inr (3, [.ref q8, .int 0, .int 0, .int (-1), .int 0, .long 0, .long 0])), (q78, .inr (2, [.ref q63, .ref e0_53, .ref q30, .int 0, .int 0, .int 0, .int 0]))] := hD
  have hK : va_K (dC, dI) vwCl [(cq8, .byte)] s := hK
  refine W.widen (k := 49) (n := 23157) (Nat.le_of_ble_eq_true rfl) (Nat.le_of_ble_eq_true rfl) ?_
  refine va_putF (D := (dC, dI)) (ci := 8) (v := .ref q78) (ty := .object "AttributeDesk$GrammarReader") (C := RX8) (T := TX8) (N := 13) hx hb hg inG_X8 tyX8 tyX8_ok nmX8 hown hK hP hD hS 0 rfl rfl 7 (by decide) (hg (.fieldLink RX8 51 "AttributeDesk" "grammarReader" "LAttributeDesk$GrammarReader;") gw_2_167) (fun _ h9 => h9) rfl hin rfl (by decide +kernel) rfl rfl (Nat.le_of_ble_eq_true rfl) dX8_init_93 (fun H locs hP hD hS => ?_)
  have hP : va_P (dC, dI) vwCl [(h0, .inr (8, [.ref q8, .int 0, .ref q19, .ref q30, .ref q41, .ref q52, .ref q63, .ref q78, .null, .null, .null, .int 0, .int 0])), (q8, .inl (cq8, 3000, .inl (fun _ => 0))), (q19, .inr (1, [.int 0, .ref e0_3, .ref e1_4, .ref e2_5, .ref e3_6, .ref e4_7, .ref e5_8, .int 0, .ref e6_9, .ref e7_10, .ref e8_11, .ref e9_12, .ref e10_13, .ref e11_14, .ref e12_15, .ref e13_16, .ref e14_17, .int 0])), (q30, .inr (1, [.int 0, .ref e0_20, .ref e1_21, .ref e2_22, .ref e3_23, .ref e4_24, .ref e5_25, .int 0, .ref e6_26, .ref e7_27, .ref e8_28, .ref e9_29, .ref e10_30, .ref e11_31, .ref e12_32, .ref e13_33, .ref e14_34, .int 0])), (q41, .inr (4, [.int 0, .ref e0_37, .ref e1_38, .ref e2_39, .ref e3_40, .ref e4_41])), (q63, .inr (3, [.ref q8, .int 0, .int 0, .int (-1), .int 0, .long 0, .long 0])), (q78, .inr (2, [.ref q63, .ref e0_53, .ref q30, .int 0, .int 0, .int 0, .int 0]))] H := hP
  have hD : va_D A [(h0, .inr (8, [.ref q8, .int 0, .ref q19, .ref q30, .ref q41, .ref q52, .ref q63, .ref q78, .null, .null, .null, .int 0, .int 0])), (q8, .inl (cq8, 3000, .inl (fun _ => 0))), (q19, .inr (1, [.int 0, .ref e0_3, .ref e1_4, .ref e2_5, .ref e3_6, .ref e4_7, .ref e5_8, .int 0, .ref e6_9, .ref e7_10, .ref e8_11, .ref e9_12, .ref e10_13, .ref e11_14, .ref e12_15, .ref e13_16, .ref e14_17, .int 0])), (q30, .inr (1, [.int 0, .ref e0_20, .ref e1_21, .ref e2_22, .ref e3_23, .ref e4_24, .ref e5_25, .int 0, .ref e6_26, .ref e7_27, .ref e8_28, .ref e9_29, .ref e10_30, .ref e11_31, .ref e12_32, .ref e13_33, .ref e14_34, .int 0])), (q41, .inr (4, [.int 0, .ref e0_37, .ref e1_38, .ref e2_39, .ref e3_40, .ref e4_41])), (q63, .inr (3, [.ref q8, .int 0, .int 0, .int (-1), .int 0, .long 0, .long 0])), (q78, .inr (2, [.ref q63, .ref e0_53, .ref q30, .int 0, .int 0, .int 0, .int 0]))] := hD
  refine lv_aload_n hx hb dX8_init_96 rfl (lv_at hl 0 rfl) ?_
  refine va_new (ci := 5) (fs := [.null, .null, .null, .int 0, .int 0, .int 0, .null]) (C := RX5) (T := TX5) (N := 7) hx hb hg inG_X5 tyX5 tyX5_ok hown (hg (.classLink RX8 55 RX5) gw_2_21) (hg (.instantiable RX5 7) gw_2_22) (hg (.initialized RX5) gw_1_7) hK hP hD hS hA rfl (dflX5) (Nat.le_of_ble_eq_true rfl) (Nat.le_of_ble_eq_true rfl) dX8_init_97 (fun q97 H hP hD hS => ?_)
  have hP : va_P (dC, dI) vwCl [(h0, .inr (8, [.ref q8, .int 0, .ref q19, .ref q30, .ref q41, .ref q52, .ref q63, .ref q78, .null, .null, .null, .int 0, .int 0])), (q8, .inl (cq8, 3000, .inl (fun _ => 0))), (q19, .inr (1, [.int 0, .ref e0_3, .ref e1_4, .ref e2_5, .ref e3_6, .ref e4_7, .ref e5_8, .int 0, .ref e6_9, .ref e7_10, .ref e8_11, .ref e9_12, .ref e10_13, .ref e11_14, .ref e12_15, .ref e13_16, .ref e14_17, .int 0])), (q30, .inr (1, [.int 0, .ref e0_20, .ref e1_21, .ref e2_22, .ref e3_23, .ref e4_24, .ref e5_25, .int 0, .ref e6_26, .ref e7_27, .ref e8_28, .ref e9_29, .ref e10_30, .ref e11_31, .ref e12_32, .ref e13_33, .ref e14_34, .int 0])), (q41, .inr (4, [.int 0, .ref e0_37, .ref e1_38, .ref e2_39, .ref e3_40, .ref e4_41])), (q63, .inr (3, [.ref q8, .int 0, .int 0, .int (-1), .int 0, .long 0, .long 0])), (q78, .inr (2, [.ref q63, .ref e0_53, .ref q30, .int 0, .int 0, .int 0, .int 0])), (q97, .inr (5, [.null, .null, .null, .int 0, .int 0, .int 0, .null]))] H := hP
  have hD : va_D A [(h0, .inr (8, [.ref q8, .int 0, .ref q19, .ref q30, .ref q41, .ref q52, .ref q63, .ref q78, .null, .null, .null, .int 0, .int 0])), (q8, .inl (cq8, 3000, .inl (fun _ => 0))), (q19, .inr (1, [.int 0, .ref e0_3, .ref e1_4, .ref e2_5, .ref e3_6, .ref e4_7, .ref e5_8, .int 0, .ref e6_9, .ref e7_10, .ref e8_11, .ref e9_12, .ref e10_13, .ref e11_14, .ref e12_15, .ref e13_16, .ref e14_17, .int 0])), (q30, .inr (1, [.int 0, .ref e0_20, .ref e1_21, .ref e2_22, .ref e3_23, .ref e4_24, .ref e5_25, .int 0, .ref e6_26, .ref e7_27, .ref e8_28, .ref e9_29, .ref e10_30, .ref e11_31, .ref e12_32, .ref e13_33, .ref e14_34, .int 0])), (q41, .inr (4, [.int 0, .ref e0_37, .ref e1_38, .ref e2_39, .ref e3_40, .ref e4_41])), (q63, .inr (3, [.ref q8, .int 0, .int 0, .int (-1), .int 0, .long 0, .long 0])), (q78, .inr (2, [.ref q63, .ref e0_53, .ref q30, .int 0, .int 0, .int 0, .int 0])), (q97, .inr (5, [.null, .null, .null, .int 0, .int 0, .int 0, .null]))] := hD
  refine W.widen (k := 50) (n := 23164) (Nat.le_of_ble_eq_true rfl) (Nat.le_of_ble_eq_true rfl) ?_
  refine lv_dup hx hb dX8_init_100 rfl ?_
  refine lv_aload_n hx hb dX8_init_101 rfl (lv_at hl 0 rfl) ?_
  refine va_get (D := (dC, dI)) (ci := 8) (v := .ref q63) (C := RX8) (T := TX8) (N := 13) hx hb hg inG_X8 hown hK hP 0 rfl rfl 6 (by decide) (hg (.fieldLink RX8 42 "AttributeDesk" "tokens" "LAttributeDesk$Tokens;") gw_2_166) (fun _ h9 => h9) rfl dX8_init_102 ?_
  refine lv_aload_n hx hb dX8_init_105 rfl (lv_at hl 0 rfl) ?_
  refine va_get (D := (dC, dI)) (ci := 8) (v := .ref q19) (C := RX8) (T := TX8) (N := 13) hx hb hg inG_X8 hown hK hP 0 rfl rfl 2 (by decide) (hg (.fieldLink RX8 20 "AttributeDesk" "known" "LAttributeDesk$Grammar;") gw_2_162) (fun _ h9 => h9) rfl dX8_init_106 ?_
  refine lv_aload_n hx hb dX8_init_109 rfl (lv_at hl 0 rfl) ?_
  refine va_get (D := (dC, dI)) (ci := 8) (v := .ref q52) (C := RX8) (T := TX8) (N := 13) hx hb hg inG_X8 hown hK hP 0 rfl rfl 5 (by decide) (hg (.fieldLink RX8 34 "AttributeDesk" "spareTree" "LAttributeDesk$Tree;") gw_2_165) (fun _ h9 => h9) rfl dX8_init_110 ?_
  have hPc := hP.sub (ws' := [(q97, .inr (5, [.null, .null, .null, .int 0, .int 0, .int 0, .null]))]) [7] rfl
  have hDc := hD.sub (ws' := [(q97, .inr (5, [.null, .null, .null, .int 0, .int 0, .int 0, .null]))]) [7] (by decide) rfl
  have hKc := hK.sub (tys' := []) [] rfl
  have hFc := va_free (wc := [(q97, .inr (5, [.null, .null, .null, .int 0, .int 0, .int 0, .null]))]) hD hS hA [7] rfl
  refine va_callv (va_runI (As := [.ref q63, .ref q19, .ref q52]) (rest := [.ref q97, .ref h0]) ⟨hx, hb, hml, hown, hg⟩ (c_X5_init l dC dI q97 q63 q19 q52 H.size) (cwI 3 hg gy_X5_init rfl rfl rfl (hg (.initialized RX5) gw_1_7) (hg (.methodLink RX8 57 yX5_init) gw_2_23) (hg (.instanceMethod yX5_init) gw_2_24) rfl (by decide +kernel) ⟨Nat.le_of_ble_eq_true rfl, Nat.le_of_ble_eq_true rfl⟩) ⟨fun a U g mk q => by obtain ⟨q0, q1, qP, qK, qD⟩ := q; exact ⟨q0, q1, qP, va_K.moved (u := U) (U := U.calling g mk a) (Vm.Alike.refl U.vm) qK, qD⟩, fun U hU hW => ⟨rfl, by rw [hU], by rw [hU]; exact hPc, va_K.moved hW.alike hKc, hDc.weaken (fun _ _ _ _ => trivial)⟩⟩ rfl rfl hl.1 rfl (lv_room (Nat.le_of_ble_eq_true rfl)) dX8_init_113 ⟨Nat.le_of_ble_eq_true rfl, Nat.le_of_ble_eq_true rfl⟩) hS (fun q _ h => hFc q h) hFc (fun u55 t H1 locs ht hvm hw55 hB hz1 hk1 hS => ?_)
  obtain ⟨e0_56, hP1, hK1, hD1⟩ := hB
  rw [ht] at hP1
  have hK1 := va_K.moved hvm.symm hK1
  obtain ⟨hP, hD⟩ := va_join (wr := [(h0, .inr (8, [.ref q8, .int 0, .ref q19, .ref q30, .ref q41, .ref q52, .ref q63, .ref q78, .null, .null, .null, .int 0, .int 0])), (q8, .inl (cq8, 3000, .inl (fun _ => 0))), (q19, .inr (1, [.int 0, .ref e0_3, .ref e1_4, .ref e2_5, .ref e3_6, .ref e4_7, .ref e5_8, .int 0, .ref e6_9, .ref e7_10, .ref e8_11, .ref e9_12, .ref e10_13, .ref e11_14, .ref e12_15, .ref e13_16, .ref e14_17, .int 0])), (q30, .inr (1, [.int 0, .ref e0_20, .ref e1_21, .ref e2_22, .ref e3_23, .ref e4_24, .ref e5_25, .int 0, .ref e6_26, .ref e7_27, .ref e8_28, .ref e9_29, .ref e10_30, .ref e11_31, .ref e12_32, .ref e13_33, .ref e14_34, .int 0])), (q41, .inr (4, [.int 0, .ref e0_37, .ref e1_38, .ref e2_39, .ref e3_40, .ref e4_41])), (q63, .inr (3, [.ref q8, .int 0, .int 0, .int (-1), .int 0, .long 0, .long 0])), (q78, .inr (2, [.ref q63, .ref e0_53, .ref q30, .int 0, .int 0, .int 0, .int 0]))]) (w1 := [(q97, .inr (5, [.ref q63, .ref q19, .ref q52, .int 0, .int (-1), .int 0, .ref e0_56]))]) hP hD [7] [0, 1, 2, 3, 4, 5, 6] rfl rfl (by decide) (by decide) hk1 hFc hP1 hD1
  have hK := (hK.sub (tys' := [(cq8, .byte)]) [0] rfl).app hK1
  generalize H1 = H at hP hS ⊢
  have hP : va_P (dC, dI) vwCl [(h0, .inr (8, [.ref q8, .int 0, .ref q19, .ref q30, .ref q41, .ref q52, .ref q63, .ref q78, .null, .null, .null, .int 0, .int 0])), (q8, .inl (cq8, 3000, .inl (fun _ => 0))), (q19, .inr (1, [.int 0, .ref e0_3, .ref e1_4, .ref e2_5, .ref e3_6, .ref e4_7, .ref e5_8, .int 0, .ref e6_9, .ref e7_10, .ref e8_11, .ref e9_12, .ref e10_13, .ref e11_14, .ref e12_15, .ref e13_16, .ref e14_17, .int 0])), (q30, .inr (1, [.int 0, .ref e0_20, .ref e1_21, .ref e2_22, .ref e3_23, .ref e4_24, .ref e5_25, .int 0, .ref e6_26, .ref e7_27, .ref e8_28, .ref e9_29, .ref e10_30, .ref e11_31, .ref e12_32, .ref e13_33, .ref e14_34, .int 0])), (q41, .inr (4, [.int 0, .ref e0_37, .ref e1_38, .ref e2_39, .ref e3_40, .ref e4_41])), (q63, .inr (3, [.ref q8, .int 0, .int 0, .int (-1), .int 0, .long 0, .long 0])), (q78, .inr (2, [.ref q63, .ref e0_53, .ref q30, .int 0, .int 0, .int 0, .int 0])), (q97, .inr (5, [.ref q63, .ref q19, .ref q52, .int 0, .int (-1), .int 0, .ref e0_56]))] H := hP
  have hD : va_D A [(h0, .inr (8, [.ref q8, .int 0, .ref q19, .ref q30, .ref q41, .ref q52, .ref q63, .ref q78, .null, .null, .null, .int 0, .int 0])), (q8, .inl (cq8, 3000, .inl (fun _ => 0))), (q19, .inr (1, [.int 0, .ref e0_3, .ref e1_4, .ref e2_5, .ref e3_6, .ref e4_7, .ref e5_8, .int 0, .ref e6_9, .ref e7_10, .ref e8_11, .ref e9_12, .ref e10_13, .ref e11_14, .ref e12_15, .ref e13_16, .ref e14_17, .int 0])), (q30, .inr (1, [.int 0, .ref e0_20, .ref e1_21, .ref e2_22, .ref e3_23, .ref e4_24, .ref e5_25, .int 0, .ref e6_26, .ref e7_27, .ref e8_28, .ref e9_29, .ref e10_30, .ref e11_31, .ref e12_32, .ref e13_33, .ref e14_34, .int 0])), (q41, .inr (4, [.int 0, .ref e0_37, .ref e1_38, .ref e2_39, .ref e3_40, .ref e4_41])), (q63, .inr (3, [.ref q8, .int 0, .int 0, .int (-1), .int 0, .long 0, .long 0])), (q78, .inr (2, [.ref q63, .ref e0_53, .ref q30, .int 0, .int 0, .int 0, .int 0])), (q97, .inr (5, [.ref q63, .ref q19, .ref q52, .int 0, .int (-1), .int 0, .ref e0_56]))] := hD
  have hK : va_K (dC, dI) vwCl [(cq8, .byte)] s := hK
  refine W.widen (k := 51) (n := 23364) (Nat.le_of_ble_eq_true rfl) (Nat.le_of_ble_eq_true rfl) ?_
  refine va_putF (D := (dC, dI)) (ci := 8) (v := .ref q97) (ty := .object "AttributeDesk$TreeReader") (C := RX8) (T := TX8) (N := 13) hx hb hg inG_X8 tyX8 tyX8_ok nmX8 hown hK hP hD hS 0 rfl rfl 8 (by decide) (hg (.fieldLink RX8 60 "AttributeDesk" "treeReader" "LAttributeDesk$TreeReader;") gw_2_168) (fun _ h9 => h9) rfl hin rfl (by decide +kernel) rfl rfl (Nat.le_of_ble_eq_true rfl) dX8_init_116 (fun H locs hP hD hS => ?_)
  have hP : va_P (dC, dI) vwCl [(h0, .inr (8, [.ref q8, .int 0, .ref q19, .ref q30, .ref q41, .ref q52, .ref q63, .ref q78, .ref q97, .null, .null, .int 0, .int 0])), (q8, .inl (cq8, 3000, .inl (fun _ => 0))), (q19, .inr (1, [.int 0, .ref e0_3, .ref e1_4, .ref e2_5, .ref e3_6, .ref e4_7, .ref e5_8, .int 0, .ref e6_9, .ref e7_10, .ref e8_11, .ref e9_12, .ref e10_13, .ref e11_14, .ref e12_15, .ref e13_16, .ref e14_17, .int 0])), (q30, .inr (1, [.int 0, .ref e0_20, .ref e1_21, .ref e2_22, .ref e3_23, .ref e4_24, .ref e5_25, .int 0, .ref e6_26, .ref e7_27, .ref e8_28, .ref e9_29, .ref e10_30, .ref e11_31, .ref e12_32, .ref e13_33, .ref e14_34, .int 0])), (q41, .inr (4, [.int 0, .ref e0_37, .ref e1_38, .ref e2_39, .ref e3_40, .ref e4_41])), (q63, .inr (3, [.ref q8, .int 0, .int 0, .int (-1), .int 0, .long 0, .long 0])), (q78, .inr (2, [.ref q63, .ref e0_53, .ref q30, .int 0, .int 0, .int 0, .int 0])), (q97, .inr (5, [.ref q63, .ref q19, .ref q52, .int 0, .int (-1), .int 0, .ref e0_56]))] H := hP
  have hD : va_D A [(h0, .inr (8, [.ref q8, .int 0, .ref q19, .ref q30, .ref q41, .ref q52, .ref q63, .ref q78, .ref q97, .null, .null, .int 0, .int 0])), (q8, .inl (cq8, 3000, .inl (fun _ => 0))), (q19, .inr (1, [.int 0, .ref e0_3, .ref e1_4, .ref e2_5, .ref e3_6, .ref e4_7, .ref e5_8, .int 0, .ref e6_9, .ref e7_10, .ref e8_11, .ref e9_12, .ref e10_13, .ref e11_14, .ref e12_15, .ref e13_16, .ref e14_17, .int 0])), (q30, .inr (1, [.int 0, .ref e0_20, .ref e1_21, .ref e2_22, .ref e3_23, .ref e4_24, .ref e5_25, .int 0, .ref e6_26, .ref e7_27, .ref e8_28, .ref e9_29, .ref e10_30, .ref e11_31, .ref e12_32, .ref e13_33, .ref e14_34, .int 0])), (q41, .inr (4, [.int 0, .ref e0_37, .ref e1_38, .ref e2_39, .ref e3_40, .ref e4_41])), (q63, .inr (3, [.ref q8, .int 0, .int 0, .int (-1), .int 0, .long 0, .long 0])), (q78, .inr (2, [.ref q63, .ref e0_53, .ref q30, .int 0, .int 0, .int 0, .int 0])), (q97, .inr (5, [.ref q63, .ref q19, .ref q52, .int 0, .int (-1), .int 0, .ref e0_56]))] := hD
  have hP := hP.sub (ws' := [(h0, .inr (8, [.ref q8, .int 0, .ref q19, .ref q30, .ref q41, .ref q52, .ref q63, .ref q78, .ref q97, .null, .null, .int 0, .int 0])), (q8, .inl (cq8, 3000, .inl (fun _ => 0))), (q19, .inr (1, [.int 0, .ref e0_3, .ref e1_4, .ref e2_5, .ref e3_6, .ref e4_7, .ref e5_8, .int 0, .ref e6_9, .ref e7_10, .ref e8_11, .ref e9_12, .ref e10_13, .ref e11_14, .ref e12_15, .ref e13_16, .ref e14_17, .int 0])), (q30, .inr (1, [.int 0, .ref e0_20, .ref e1_21, .ref e2_22, .ref e3_23, .ref e4_24, .ref e5_25, .int 0, .ref e6_26, .ref e7_27, .ref e8_28, .ref e9_29, .ref e10_30, .ref e11_31, .ref e12_32, .ref e13_33, .ref e14_34, .int 0])), (q41, .inr (4, [.int 0, .ref e0_37, .ref e1_38, .ref e2_39, .ref e3_40, .ref e4_41])), (q63, .inr (3, [.ref q8, .int 0, .int 0, .int (-1), .int 0, .long 0, .long 0])), (q78, .inr (2, [.ref q63, .ref e0_53, .ref q30, .int 0, .int 0, .int 0, .int 0]))]) [0, 1, 2, 3, 4, 5, 6] rfl
  have hD := hD.sub (ws' := [(h0, .inr (8, [.ref q8, .int 0, .ref q19, .ref q30, .ref q41, .ref q52, .ref q63, .ref q78, .ref q97, .null, .null, .int 0, .int 0])), (q8, .inl (cq8, 3000, .inl (fun _ => 0))), (q19, .inr (1, [.int 0, .ref e0_3, .ref e1_4, .ref e2_5, .ref e3_6, .ref e4_7, .ref e5_8, .int 0, .ref e6_9, .ref e7_10, .ref e8_11, .ref e9_12, .ref e10_13, .ref e11_14, .ref e12_15, .ref e13_16, .ref e14_17, .int 0])), (q30, .inr (1, [.int 0, .ref e0_20, .ref e1_21, .ref e2_22, .ref e3_23, .ref e4_24, .ref e5_25, .int 0, .ref e6_26, .ref e7_27, .ref e8_28, .ref e9_29, .ref e10_30, .ref e11_31, .ref e12_32, .ref e13_33, .ref e14_34, .int 0])), (q41, .inr (4, [.int 0, .ref e0_37, .ref e1_38, .ref e2_39, .ref e3_40, .ref e4_41])), (q63, .inr (3, [.ref q8, .int 0, .int 0, .int (-1), .int 0, .long 0, .long 0])), (q78, .inr (2, [.ref q63, .ref e0_53, .ref q30, .int 0, .int 0, .int 0, .int 0]))]) [0, 1, 2, 3, 4, 5, 6] (by decide) rfl
  refine lv_aload_n hx hb dX8_init_119 rfl (lv_at hl 0 rfl) ?_
  refine va_new (ci := 6) (fs := [.null, .null, .int 0, .null, .null, .null, .null, .null, .null, .null, .null, .null, .null, .null, .null]) (C := RX6) (T := TX6) (N := 15) hx hb hg inG_X6 tyX6 tyX6_ok hown (hg (.classLink RX8 64 RX6) gw_2_49) (hg (.instantiable RX6 15) gw_2_50) (hg (.initialized RX6) gw_1_8) hK hP hD hS hA rfl (dflX6) (Nat.le_of_ble_eq_true rfl) (Nat.le_of_ble_eq_true rfl) dX8_init_120 (fun q120 H hP hD hS => ?_)
  have hP : va_P (dC, dI) vwCl [(h0, .inr (8, [.ref q8, .int 0, .ref q19, .ref q30, .ref q41, .ref q52, .ref q63, .ref q78, .ref q97, .null, .null, .int 0, .int 0])), (q8, .inl (cq8, 3000, .inl (fun _ => 0))), (q19, .inr (1, [.int 0, .ref e0_3, .ref e1_4, .ref e2_5, .ref e3_6, .ref e4_7, .ref e5_8, .int 0, .ref e6_9, .ref e7_10, .ref e8_11, .ref e9_12, .ref e10_13, .ref e11_14, .ref e12_15, .ref e13_16, .ref e14_17, .int 0])), (q30, .inr (1, [.int 0, .ref e0_20, .ref e1_21, .ref e2_22, .ref e3_23, .ref e4_24, .ref e5_25, .int 0, .ref e6_26, .ref e7_27, .ref e8_28, .ref e9_29, .ref e10_30, .ref e11_31, .ref e12_32, .ref e13_33, .ref e14_34, .int 0])), (q41, .inr (4, [.int 0, .ref e0_37, .ref e1_38, .ref e2_39, .ref e3_40, .ref e4_41])), (q63, .inr (3, [.ref q8, .int 0, .int 0, .int (-1), .int 0, .long 0, .long 0])), (q78, .inr (2, [.ref q63, .ref e0_53, .ref q30, .int 0, .int 0, .int 0, .int 0])), (q120, .inr (6, [.null, .null, .int 0, .null, .null, .null, .null, .null, .null, .null, .null, .null, .null, .null, .null]))] H := hP
  have hD : va_D A [(h0, .inr (8, [.ref q8, .int 0, .ref q19, .ref q30, .ref q41, .ref q52, .ref q63, .ref q78, .ref q97, .null, .null, .int 0, .int 0])), (q8, .inl (cq8, 3000, .inl (fun _ => 0))), (q19, .inr (1, [.int 0, .ref e0_3, .ref e1_4, .ref e2_5, .ref e3_6, .ref e4_7, .ref e5_8, .int 0, .ref e6_9, .ref e7_10, .ref e8_11, .ref e9_12, .ref e10_13, .ref e11_14, .ref e12_15, .ref e13_16, .ref e14_17, .int 0])), (q30, .inr (1, [.int 0, .ref e0_20, .ref e1_21, .ref e2_22, .ref e3_23, .ref e4_24, .ref e5_25, .int 0, .ref e6_26, .ref e7_27, .ref e8_28, .ref e9_29, .ref e10_30, .ref e11_31, .ref e12_32, .ref e13_33, .ref e14_34, .int 0])), (q41, .inr (4, [.int 0, .ref e0_37, .ref e1_38, .ref e2_39, .ref e3_40, .ref e4_41])), (q63, .inr (3, [.ref q8, .int 0, .int 0, .int (-1), .int 0, .long 0, .long 0])), (q78, .inr (2, [.ref q63, .ref e0_53, .ref q30, .int 0, .int 0, .int 0, .int 0])), (q120, .inr (6, [.null, .null, .int 0, .null, .null, .null, .null, .null, .null, .null, .null, .null, .null, .null, .null]))] := hD
  refine W.widen (k := 52) (n := 23379) (Nat.le_of_ble_eq_true rfl) (Nat.le_of_ble_eq_true rfl) ?_
  refine lv_dup hx hb dX8_init_123 rfl ?_
  refine lv_aload_n hx hb dX8_init_124 rfl (lv_at hl 0 rfl) ?_
  refine va_get (D := (dC, dI)) (ci := 8) (v := .ref q19) (C := RX8) (T := TX8) (N := 13) hx hb hg inG_X8 hown hK hP 0 rfl rfl 2 (by decide) (hg (.fieldLink RX8 20 "AttributeDesk" "known" "LAttributeDesk$Grammar;") gw_2_162) (fun _ h9 => h9) rfl dX8_init_125 ?_
  have hPc := hP.sub (ws' := [(q120, .inr (6, [.null, .null, .int 0, .null, .null, .null, .null, .null, .null, .null, .null, .null, .null, .null, .null]))]) [7] rfl
  have hDc := hD.sub (ws' := [(q120, .inr (6, [.null, .null, .int 0, .null, .null, .null, .null, .null, .null, .null, .null, .null, .null, .null, .null]))]) [7] (by decide) rfl
  have hKc := hK.sub (tys' := []) [] rfl
  have hFc := va_free (wc := [(q120, .inr (6, [.null, .null, .int 0, .null, .null, .null, .null, .null, .null, .null, .null, .null, .null, .null, .null]))]) hD hS hA [7] rfl
  refine va_callv (va_runI (As := [.ref q19]) (rest := [.ref q120, .ref h0]) ⟨hx, hb, hml, hown, hg⟩ (c_X6_init l dC dI q120 q19 H.size) (cwI 1 hg gy_X6_init rfl rfl rfl (hg (.initialized RX6) gw_1_8) (hg (.methodLink RX8 66 yX6_init) gw_2_51) (hg (.instanceMethod yX6_init) gw_2_52) rfl (by decide +kernel) ⟨Nat.le_of_ble_eq_true rfl, Nat.le_of_ble_eq_true rfl⟩) ⟨fun a U g mk q => by obtain ⟨q0, q1, qP, qK, qD⟩ := q; exact ⟨q0, q1, qP, va_K.moved (u := U) (U := U.calling g mk a) (Vm.Alike.refl U.vm) qK, qD⟩, fun U hU hW => ⟨rfl, by rw [hU], by rw [hU]; exact hPc, va_K.moved hW.alike hKc, hDc.weaken (fun _ _ _ _ => trivial)⟩⟩ rfl rfl hl.1 rfl (lv_room (Nat.le_of_ble_eq_true rfl)) dX8_init_128 ⟨Nat.le_of_ble_eq_true rfl, Nat.le_of_ble_eq_true rfl⟩) hS (fun q _ h => hFc q h) hFc (fun u58 t H1 locs ht hvm hw58 hB hz1 hk1 hS => ?_)
  obtain ⟨e0_59, e1_60, e2_61, e3_62, e4_63, e5_64, e6_65, e7_66, e8_67, e9_68, e10_69, e11_70, e12_71, hP1, hK1, hD1⟩ := hB
  rw [ht] at hP1
  have hK1 := va_K.moved hvm.symm hK1
  obtain ⟨hP, hD⟩ := va_join (wr := [(h0, .inr (8, [.ref q8, .int 0, .ref q19, .ref q30, .ref q41, .ref q52, .ref q63, .ref q78, .ref q97, .null, .null, .int 0, .int 0])), (q8, .inl (cq8, 3000, .inl (fun _ => 0))), (q19, .inr (1, [.int 0, .ref e0_3, .ref e1_4, .ref e2_5, .ref e3_6, .ref e4_7, .ref e5_8, .int 0, .ref e6_9, .ref e7_10, .ref e8_11, .ref e9_12, .ref e10_13, .ref e11_14, .ref e12_15, .ref e13_16, .ref e14_17, .int 0])), (q30, .inr (1, [.int 0, .ref e0_20, .ref e1_21, .ref e2_22, .ref e3_23, .ref e4_24, .ref e5_25, .int 0, .ref e6_26, .ref e7_27, .ref e8_28, .ref e9_29, .ref e10_30, .ref e11_31, .ref e12_32, .ref e13_33, .ref e14_34, .int 0])), (q41, .inr (4, [.int 0, .ref e0_37, .ref e1_38, .ref e2_39, .ref e3_40, .ref e4_41])), (q63, .inr (3, [.ref q8, .int 0, .int 0, .int (-1), .int 0, .long 0, .long 0])), (q78, .inr (2, [.ref q63, .ref e0_53, .ref q30, .int 0, .int 0, .int 0, .int 0]))]) (w1 := [(q120, .inr (6, [.ref e0_59, .ref e1_60, .int 0, .ref e2_61, .ref e3_62, .ref e4_63, .ref e5_64, .ref q19, .ref e6_65, .ref e7_66, .ref e8_67, .ref e9_68, .ref e10_69, .ref e11_70, .ref e12_71]))]) hP hD [7] [0, 1, 2, 3, 4, 5, 6] rfl rfl (by decide) (by decide) hk1 hFc hP1 hD1
  have hK := (hK.sub (tys' := [(cq8, .byte)]) [0] rfl).app hK1
  generalize H1 = H at hP hS ⊢
  have hP : va_P (dC, dI) vwCl [(h0, .inr (8, [.ref q8, .int 0, .ref q19, .ref q30, .ref q41, .ref q52, .ref q63, .ref q78, .ref q97, .null, .null, .int 0, .int 0])), (q8, .inl (cq8, 3000, .inl (fun _ => 0))), (q19, .inr (1, [.int 0, .ref e0_3, .ref e1_4, .ref e2_5, .ref e3_6, .ref e4_7, .ref e5_8, .int 0, .ref e6_9, .ref e7_10, .ref e8_11, .ref e9_12, .ref e10_13, .ref e11_14, .ref e12_15, .ref e13_16, .ref e14_17, .int 0])), (q30, .inr (1, [.int 0, .ref e0_20, .ref e1_21, .ref e2_22, .ref e3_23, .ref e4_24, .ref e5_25, .int 0, .ref e6_26, .ref e7_27, .ref e8_28, .ref e9_29, .ref e10_30, .ref e11_31, .ref e12_32, .ref e13_33, .ref e14_34, .int 0])), (q41, .inr (4, [.int 0, .ref e0_37, .ref e1_38, .ref e2_39, .ref e3_40, .ref e4_41])), (q63, .inr (3, [.ref q8, .int 0, .int 0, .int (-1), .int 0, .long 0, .long 0])), (q78, .inr (2, [.ref q63, .ref e0_53, .ref q30, .int 0, .int 0, .int 0, .int 0])), (q120, .inr (6, [.ref e0_59, .ref e1_60, .int 0, .ref e2_61, .ref e3_62, .ref e4_63, .ref e5_64, .ref q19, .ref e6_65, .ref e7_66, .ref e8_67, .ref e9_68, .ref e10_69, .ref e11_70, .ref e12_71]))] H := hP
  have hD : va_D A [(h0, .inr (8, [.ref q8, .int 0, .ref q19, .ref q30, .ref q41, .ref q52, .ref q63, .ref q78, .ref q97, .null, .null, .int 0, .int 0])), (q8, .inl (cq8, 3000, .inl (fun _ => 0))), (q19, .inr (1, [.int 0, .ref e0_3, .ref e1_4, .ref e2_5, .ref e3_6, .ref e4_7, .ref e5_8, .int 0, .ref e6_9, .ref e7_10, .ref e8_11, .ref e9_12, .ref e10_13, .ref e11_14, .ref e12_15, .ref e13_16, .ref e14_17, .int 0])), (q30, .inr (1, [.int 0, .ref e0_20, .ref e1_21, .ref e2_22, .ref e3_23, .ref e4_24, .ref e5_25, .int 0, .ref e6_26, .ref e7_27, .ref e8_28, .ref e9_29, .ref e10_30, .ref e11_31, .ref e12_32, .ref e13_33, .ref e14_34, .int 0])), (q41, .inr (4, [.int 0, .ref e0_37, .ref e1_38, .ref e2_39, .ref e3_40, .ref e4_41])), (q63, .inr (3, [.ref q8, .int 0, .int 0, .int (-1), .int 0, .long 0, .long 0])), (q78, .inr (2, [.ref q63, .ref e0_53, .ref q30, .int 0, .int 0, .int 0, .int 0])), (q120, .inr (6, [.ref e0_59, .ref e1_60, .int 0, .ref e2_61, .ref e3_62, .ref e4_63, .ref e5_64, .ref q19, .ref e6_65, .ref e7_66, .ref e8_67, .ref e9_68, .ref e10_69, .ref e11_70, .ref e12_71]))] := hD
  have hK : va_K (dC, dI) vwCl [(cq8, .byte)] s := hK
  refine W.widen (k := 65) (n := 35925) (Nat.le_of_ble_eq_true rfl) (Nat.le_of_ble_eq_true rfl) ?_
  refine va_putF (D := (dC, dI)) (ci := 8) (v := .ref q120) (ty := .object "AttributeDesk$Ways") (C := RX8) (T := TX8) (N := 13) hx hb hg inG_X8 tyX8 tyX8_ok nmX8 hown hK hP hD hS 0 rfl rfl 9 (by decide) (hg (.fieldLink RX8 69 "AttributeDesk" "ways" "LAttributeDesk$Ways;") gw_2_169) (fun _ h9 => h9) rfl hin rfl (by decide +kernel) rfl rfl (Nat.le_of_ble_eq_true rfl) dX8_init_131 (fun H locs hP hD hS => ?_)
  have hP : va_P (dC, dI) vwCl [(h0, .inr (8, [.ref q8, .int 0, .ref q19, .ref q30, .ref q41, .ref q52, .ref q63, .ref q78, .ref q97, .ref q120, .null, .int 0, .int 0])), (q8, .inl (cq8, 3000, .inl (fun _ => 0))), (q19, .inr (1, [.int 0, .ref e0_3, .ref e1_4, .ref e2_5, .ref e3_6, .ref e4_7, .ref e5_8, .int 0, .ref e6_9, .ref e7_10, .ref e8_11, .ref e9_12, .ref e10_13, .ref e11_14, .ref e12_15, .ref e13_16, .ref e14_17, .int 0])), (q30, .inr (1, [.int 0, .ref e0_20, .ref e1_21, .ref e2_22, .ref e3_23, .ref e4_24, .ref e5_25, .int 0, .ref e6_26, .ref e7_27, .ref e8_28, .ref e9_29, .ref e10_30, .ref e11_31, .ref e12_32, .ref e13_33, .ref e14_34, .int 0])), (q41, .inr (4, [.int 0, .ref e0_37, .ref e1_38, .ref e2_39, .ref e3_40, .ref e4_41])), (q63, .inr (3, [.ref q8, .int 0, .int 0, .int (-1), .int 0, .long 0, .long 0])), (q78, .inr (2, [.ref q63, .ref e0_53, .ref q30, .int 0, .int 0, .int 0, .int 0])), (q120, .inr (6, [.ref e0_59, .ref e1_60, .int 0, .ref e2_61, .ref e3_62, .ref e4_63, .ref e5_64, .ref q19, .ref e6_65, .ref e7_66, .ref e8_67, .ref e9_68, .ref e10_69, .ref e11_70, .ref e12_71]))] H := hP
  have hD : va_D A [(h0, .inr (8, [.ref q8, .int 0, .ref q19, .ref q30, .ref q41, .ref q52, .ref q63, .ref q78, .ref q97, .ref q120, .null, .int 0, .int 0])), (q8, .inl (cq8, 3000, .inl (fun _ => 0))), (q19, .inr (1, [.int 0, .ref e0_3, .ref e1_4, .ref e2_5, .ref e3_6, .ref e4_7, .ref e5_8, .int 0, .ref e6_9, .ref e7_10, .ref e8_11, .ref e9_12, .ref e10_13, .ref e11_14, .ref e12_15, .ref e13_16, .ref e14_17, .int 0])), (q30, .inr (1, [.int 0, .ref e0_20, .ref e1_21, .ref e2_22, .ref e3_23, .ref e4_24, .ref e5_25, .int 0, .ref e6_26, .ref e7_27, .ref e8_28, .ref e9_29, .ref e10_30, .ref e11_31, .ref e12_32, .ref e13_33, .ref e14_34, .int 0])), (q41, .inr (4, [.int 0, .ref e0_37, .ref e1_38, .ref e2_39, .ref e3_40, .ref e4_41])), (q63, .inr (3, [.ref q8, .int 0, .int 0, .int (-1), .int 0, .long 0, .long 0])), (q78, .inr (2, [.ref q63, .ref e0_53, .ref q30, .int 0, .int 0, .int 0, .int 0])), (q120, .inr (6, [.ref e0_59, .ref e1_60, .int 0, .ref e2_61, .ref e3_62, .ref e4_63, .ref e5_64, .ref q19, .ref e6_65, .ref e7_66, .ref e8_67, .ref e9_68, .ref e10_69, .ref e11_70, .ref e12_71]))] := hD
  have hP := hP.sub (ws' := [(h0, .inr (8, [.ref q8, .int 0, .ref q19, .ref q30, .ref q41, .ref q52, .ref q63, .ref q78, .ref q97, .ref q120, .null, .int 0, .int 0])), (q8, .inl (cq8, 3000, .inl (fun _ => 0))), (q19, .inr (1, [.int 0, .ref e0_3, .ref e1_4, .ref e2_5, .ref e3_6, .ref e4_7, .ref e5_8, .int 0, .ref e6_9, .ref e7_10, .ref e8_11, .ref e9_12, .ref e10_13, .ref e11_14, .ref e12_15, .ref e13_16, .ref e14_17, .int 0])), (q30, .inr (1, [.int 0, .ref e0_20, .ref e1_21, .ref e2_22, .ref e3_23, .ref e4_24, .ref e5_25, .int 0, .ref e6_26, .ref e7_27, .ref e8_28, .ref e9_29, .ref e10_30, .ref e11_31, .ref e12_32, .ref e13_33, .ref e14_34, .int 0])), (q41, .inr (4, [.int 0, .ref e0_37, .ref e1_38, .ref e2_39, .ref e3_40, .ref e4_41])), (q63, .inr (3, [.ref q8, .int 0, .int 0, .int (-1), .int 0, .long 0, .long 0])), (q78, .inr (2, [.ref q63, .ref e0_53, .ref q30, .int 0, .int 0, .int 0, .int 0]))]) [0, 1, 2, 3, 4, 5, 6] rfl
  have hD := hD.sub (ws' := [(h0, .inr (8, [.ref q8, .int 0, .ref q19, .ref q30, .ref q41, .ref q52, .ref q63, .ref q78, .ref q97, .ref q120, .null, .int 0, .int 0])), (q8, .inl (cq8, 3000, .inl (fun _ => 0))), (q19, .inr (1, [.int 0, .ref e0_3, .ref e1_4, .ref e2_5, .ref e3_6, .ref e4_7, .ref e5_8, .int 0, .ref e6_9, .ref e7_10, .ref e8_11, .ref e9_12, .ref e10_13, .ref e11_14, .ref e12_15, .ref e13_16, .ref e14_17, .int 0])), (q30, .inr (1, [.int 0, .ref e0_20, .ref e1_21, .ref e2_22, .ref e3_23, .ref e4_24, .ref e5_25, .int 0, .ref e6_26, .ref e7_27, .ref e8_28, .ref e9_29, .ref e10_30, .ref e11_31, .ref e12_32, .ref e13_33, .ref e14_34, .int 0])), (q41, .inr (4, [.int 0, .ref e0_37, .ref e1_38, .ref e2_39, .ref e3_40, .ref e4_41])), (q63, .inr (3, [.ref q8, .int 0, .int 0, .int (-1), .int 0, .long 0, .long 0])), (q78, .inr (2, [.ref q63, .ref e0_53, .ref q30, .int 0, .int 0, .int 0, .int 0]))]) [0, 1, 2, 3, 4, 5, 6] (by decide) rfl
  refine lv_aload_n hx hb dX8_init_134 rfl (lv_at hl 0 rfl) ?_
  refine va_new (ci := 7) (fs := [.null, .null, .int 0, .null, .null, .null, .null, .null, .null, .null, .int 0, .null, .null, .int 0]) (C := RX7) (T := TX7) (N := 14) hx hb hg inG_X7 tyX7 tyX7_ok hown (hg (.classLink RX8 73 RX7) gw_2_108) (hg (.instantiable RX7 14) gw_2_109) (hg (.initialized RX7) gw_1_9) hK hP hD hS hA rfl (dflX7) (Nat.le_of_ble_eq_true rfl) (Nat.le_of_ble_eq_true rfl) dX8_init_135 (fun q135 H hP hD hS => ?_)
  have hP : va_P (dC, dI) vwCl [(h0, .inr (8, [.ref q8, .int 0, .ref q19, .ref q30, .ref q41, .ref q52, .ref q63, .ref q78, .ref q97, .ref q120, .null, .int 0, .int 0])), (q8, .inl (cq8, 3000, .inl (fun _ => 0))), (q19, .inr (1, [.int 0, .ref e0_3, .ref e1_4, .ref e2_5, .ref e3_6, .ref e4_7, .ref e5_8, .int 0, .ref e6_9, .ref e7_10, .ref e8_11, .ref e9_12, .ref e10_13, .ref e11_14, .ref e12_15, .ref e13_16, .ref e14_17, .int 0])), (q30, .inr (1, [.int 0, .ref e0_20, .ref e1_21, .ref e2_22, .ref e3_23, .ref e4_24, .ref e5_25, .int 0, .ref e6_26, .ref e7_27, .ref e8_28, .ref e9_29, .ref e10_30, .ref e11_31, .ref e12_32, .ref e13_33, .ref e14_34, .int 0])), (q41, .inr (4, [.int 0, .ref e0_37, .ref e1_38, .ref e2_39, .ref e3_40, .ref e4_41])), (q63, .inr (3, [.ref q8, .int 0, .int 0, .int (-1), .int 0, .long 0, .long 0])), (q78, .inr (2, [.ref q63, .ref e0_53, .ref q30, .int 0, .int 0, .int 0, .int 0])), (q135, .inr (7, [.null, .null, .int 0, .null, .null, .null, .null, .null, .null, .null, .int 0, .null, .null, .int 0]))] H := hP
  have hD : va_D A [(h0, .inr (8, [.ref q8, .int 0, .ref q19, .ref q30, .ref q41, .ref q52, .ref q63, .ref q78, .ref q97, .ref q120, .null, .int 0, .int 0])), (q8, .inl (cq8, 3000, .inl (fun _ => 0))), (q19, .inr (1, [.int 0, .ref e0_3, .ref e1_4, .ref e2_5, .ref e3_6, .ref e4_7, .ref e5_8, .int 0, .ref e6_9, .ref e7_10, .ref e8_11, .ref e9_12, .ref e10_13, .ref e11_14, .ref e12_15, .ref e13_16, .ref e14_17, .int 0])), (q30, .inr (1, [.int 0, .ref e0_20, .ref e1_21, .ref e2_22, .ref e3_23, .ref e4_24, .ref e5_25, .int 0, .ref e6_26, .ref e7_27, .ref e8_28, .ref e9_29, .ref e10_30, .ref e11_31, .ref e12_32, .ref e13_33, .ref e14_34, .int 0])), (q41, .inr (4, [.int 0, .ref e0_37, .ref e1_38, .ref e2_39, .ref e3_40, .ref e4_41])), (q63, .inr (3, [.ref q8, .int 0, .int 0, .int (-1), .int 0, .long 0, .long 0])), (q78, .inr (2, [.ref q63, .ref e0_53, .ref q30, .int 0, .int 0, .int 0, .int 0])), (q135, .inr (7, [.null, .null, .int 0, .null, .null, .null, .null, .null, .null, .null, .int 0, .null, .null, .int 0]))] := hD
  refine W.widen (k := 66) (n := 35939) (Nat.le_of_ble_eq_true rfl) (Nat.le_of_ble_eq_true rfl) ?_
  refine lv_dup hx hb dX8_init_138 rfl ?_
  refine lv_aload_n hx hb dX8_init_139 rfl (lv_at hl 0 rfl) ?_
  refine va_get (D := (dC, dI)) (ci := 8) (v := .ref q19) (C := RX8) (T := TX8) (N := 13) hx hb hg inG_X8 hown hK hP 0 rfl rfl 2 (by decide) (hg (.fieldLink RX8 20 "AttributeDesk" "known" "LAttributeDesk$Grammar;") gw_2_162) (fun _ h9 => h9) rfl dX8_init_140 ?_
  refine lv_aload_n hx hb dX8_init_143 rfl (lv_at hl 0 rfl) ?_
  refine va_get (D := (dC, dI)) (ci := 8) (v := .ref q41) (C := RX8) (T := TX8) (N := 13) hx hb hg inG_X8 hown hK hP 0 rfl rfl 4 (by decide) (hg (.fieldLink RX8 30 "AttributeDesk" "grown" "LAttributeDesk$Tree;") gw_2_164) (fun _ h9 => h9) rfl dX8_init_144 ?_
  have hPc := hP.sub (ws' := [(q135, .inr (7, [.null, .null, .int 0, .null, .null, .null, .null, .null, .null, .null, .int 0, .null, .null, .int 0]))]) [7] rfl
  have hDc := hD.sub (ws' := [(q135, .inr (7, [.null, .null, .int 0, .null, .null, .null, .null, .null, .null, .null, .int 0, .null, .null, .int 0]))]) [7] (by decide) rfl
  have hKc := hK.sub (tys' := []) [] rfl
  have hFc := va_free (wc := [(q135, .inr (7, [.null, .null, .int 0, .null, .null, .null, .null, .null, .null, .null, .int 0, .null, .null, .int 0]))]) hD hS hA [7] rfl
  refine va_callv (va_runI (As := [.ref q19, .ref q41]) (rest := [.ref q135, .ref h0]) ⟨hx, hb, hml, hown, hg⟩ (c_X7_init l dC dI q135 q19 q41 H.size) (cwI 2 hg gy_X7_init rfl rfl rfl (hg (.initialized RX7) gw_1_9) (hg (.methodLink RX8 75 yX7_init) gw_2_110) (hg (.instanceMethod yX7_init) gw_2_111) rfl (by decide +kernel) ⟨Nat.le_of_ble_eq_true rfl, Nat.le_of_ble_eq_true rfl⟩) ⟨fun a U g mk q => by obtain ⟨q0, q1, qP, qK, qD⟩ := q; exact ⟨q0, q1, qP, va_K.moved (u := U) (U := U.calling g mk a) (Vm.Alike.refl U.vm) qK, qD⟩, fun U hU hW => ⟨rfl, by rw [hU], by rw [hU]; exact hPc, va_K.moved hW.alike hKc, hDc.weaken (fun _ _ _ _ => trivial)⟩⟩ rfl rfl hl.1 rfl (lv_room (Nat.le_of_ble_eq_true rfl)) dX8_init_147 ⟨Nat.le_of_ble_eq_true rfl, Nat.le_of_ble_eq_true rfl⟩) hS (fun q _ h => hFc q h) hFc (fun u73 t H1 locs ht hvm hw73 hB hz1 hk1 hS => ?_)
  obtain ⟨e0_74, e1_75, e2_76, e3_77, e4_78, e5_79, e6_80, e7_81, e8_82, hP1, hK1, hD1⟩ := hB
  rw [ht] at hP1
  have hK1 := va_K.moved hvm.symm hK1
  obtain ⟨hP, hD⟩ := va_join (wr := [(h0, .inr (8, [.ref q8, .int 0, .ref q19, .ref q30, .ref q41, .ref q52, .ref q63, .ref q78, .ref q97, .ref q120, .null, .int 0, .int 0])), (q8, .inl (cq8, 3000, .inl (fun _ => 0))), (q19, .inr (1, [.int 0, .ref e0_3, .ref e1_4, .ref e2_5, .ref e3_6, .ref e4_7, .ref e5_8, .int 0, .ref e6_9, .ref e7_10, .ref e8_11, .ref e9_12, .ref e10_13, .ref e11_14, .ref e12_15, .ref e13_16, .ref e14_17, .int 0])), (q30, .inr (1, [.int 0, .ref e0_20, .ref e1_21, .ref e2_22, .ref e3_23, .ref e4_24, .ref e5_25, .int 0, .ref e6_26, .ref e7_27, .ref e8_28, .ref e9_29, .ref e10_30, .ref e11_31, .ref e12_32, .ref e13_33, .ref e14_34, .int 0])), (q41, .inr (4, [.int 0, .ref e0_37, .ref e1_38, .ref e2_39, .ref e3_40, .ref e4_41])), (q63, .inr (3, [.ref q8, .int 0, .int 0, .int (-1), .int 0, .long 0, .long 0])), (q78, .inr (2, [.ref q63, .ref e0_53, .ref q30, .int 0, .int 0, .int 0, .int 0]))]) (w1 := [(q135, .inr (7, [.ref e0_74, .ref e1_75, .int 0, .ref q19, .ref q41, .ref e2_76, .ref e3_77, .ref e4_78, .ref e5_79, .ref e6_80, .int 0, .ref e7_81, .ref e8_82, .int 0]))]) hP hD [7] [0, 1, 2, 3, 4, 5, 6] rfl rfl (by decide) (by decide) hk1 hFc hP1 hD1
  have hK := (hK.sub (tys' := [(cq8, .byte)]) [0] rfl).app hK1
  generalize H1 = H at hP hS ⊢
  have hP : va_P (dC, dI) vwCl [(h0, .inr (8, [.ref q8, .int 0, .ref q19, .ref q30, .ref q41, .ref q52, .ref q63, .ref q78, .ref q97, .ref q120, .null, .int 0, .int 0])), (q8, .inl (cq8, 3000, .inl (fun _ => 0))), (q19, .inr (1, [.int 0, .ref e0_3, .ref e1_4, .ref e2_5, .ref e3_6, .ref e4_7, .ref e5_8, .int 0, .ref e6_9, .ref e7_10, .ref e8_11, .ref e9_12, .ref e10_13, .ref e11_14, .ref e12_15, .ref e13_16, .ref e14_17, .int 0])), (q30, .inr (1, [.int 0, .ref e0_20, .ref e1_21, .ref e2_22, .ref e3_23, .ref e4_24, .ref e5_25, .int 0, .ref e6_26, .ref e7_27, .ref e8_28, .ref e9_29, .ref e10_30, .ref e11_31, .ref e12_32, .ref e13_33, .ref e14_34, .int 0])), (q41, .inr (4, [.int 0, .ref e0_37, .ref e1_38, .ref e2_39, .ref e3_40, .ref e4_41])), (q63, .inr (3, [.ref q8, .int 0, .int 0, .int (-1), .int 0, .long 0, .long 0])), (q78, .inr (2, [.ref q63, .ref e0_53, .ref q30, .int 0, .int 0, .int 0, .int 0])), (q135, .inr (7, [.ref e0_74, .ref e1_75, .int 0, .ref q19, .ref q41, .ref e2_76, .ref e3_77, .ref e4_78, .ref e5_79, .ref e6_80, .int 0, .ref e7_81, .ref e8_82, .int 0]))] H := hP
  have hD : va_D A [(h0, .inr (8, [.ref q8, .int 0, .ref q19, .ref q30, .ref q41, .ref q52, .ref q63, .ref q78, .ref q97, .ref q120, .null, .int 0, .int 0])), (q8, .inl (cq8, 3000, .inl (fun _ => 0))), (q19, .inr (1, [.int 0, .ref e0_3, .ref e1_4, .ref e2_5, .ref e3_6, .ref e4_7, .ref e5_8, .int 0, .ref e6_9, .ref e7_10, .ref e8_11, .ref e9_12, .ref e10_13, .ref e11_14, .ref e12_15, .ref e13_16, .ref e14_17, .int 0])), (q30, .inr (1, [.int 0, .ref e0_20, .ref e1_21, .ref e2_22, .ref e3_23, .ref e4_24, .ref e5_25, .int 0, .ref e6_26, .ref e7_27, .ref e8_28, .ref e9_29, .ref e10_30, .ref e11_31, .ref e12_32, .ref e13_33, .ref e14_34, .int 0])), (q41, .inr (4, [.int 0, .ref e0_37, .ref e1_38, .ref e2_39, .ref e3_40, .ref e4_41])), (q63, .inr (3, [.ref q8, .int 0, .int 0, .int (-1), .int 0, .long 0, .long 0])), (q78, .inr (2, [.ref q63, .ref e0_53, .ref q30, .int 0, .int 0, .int 0, .int 0])), (q135, .inr (7, [.ref e0_74, .ref e1_75, .int 0, .ref q19, .ref q41, .ref e2_76, .ref e3_77, .ref e4_78, .ref e5_79, .ref e6_80, .int 0, .ref e7_81, .ref e8_82, .int 0]))] := hD
  have hK : va_K (dC, dI) vwCl [(cq8, .byte)] s := hK
  refine W.widen (k := 75) (n := 44419) (Nat.le_of_ble_eq_true rfl) (Nat.le_of_ble_eq_true rfl) ?_
  refine va_putF (D := (dC, dI)) (ci := 8) (v := .ref q135) (ty := .object "AttributeDesk$Worker") (C := RX8) (T := TX8) (N := 13) hx hb hg inG_X8 tyX8 tyX8_ok nmX8 hown hK hP hD hS 0 rfl rfl 10 (by decide) (hg (.fieldLink RX8 78 "AttributeDesk" "worker" "LAttributeDesk$Worker;") gw_2_170) (fun _ h9 => h9) rfl hin rfl (by decide +kernel) rfl rfl (Nat.le_of_ble_eq_true rfl) dX8_init_150 (fun H locs hP hD hS => ?_)
  have hP : va_P (dC, dI) vwCl [(h0, .inr (8, [.ref q8, .int 0, .ref q19, .ref q30, .ref q41, .ref q52, .ref q63, .ref q78, .ref q97, .ref q120, .ref q135, .int 0, .int 0])), (q8, .inl (cq8, 3000, .inl (fun _ => 0))), (q19, .inr (1, [.int 0, .ref e0_3, .ref e1_4, .ref e2_5, .ref e3_6, .ref e4_7, .ref e5_8, .int 0, .ref e6_9, .ref e7_10, .ref e8_11, .ref e9_12, .ref e10_13, .ref e11_14, .ref e12_15, .ref e13_16, .ref e14_17, .int 0])), (q30, .inr (1, [.int 0, .ref e0_20, .ref e1_21, .ref e2_22, .ref e3_23, .ref e4_24, .ref e5_25, .int 0, .ref e6_26, .ref e7_27, .ref e8_28, .ref e9_29, .ref e10_30, .ref e11_31, .ref e12_32, .ref e13_33, .ref e14_34, .int 0])), (q41, .inr (4, [.int 0, .ref e0_37, .ref e1_38, .ref e2_39, .ref e3_40, .ref e4_41])), (q63, .inr (3, [.ref q8, .int 0, .int 0, .int (-1), .int 0, .long 0, .long 0])), (q78, .inr (2, [.ref q63, .ref e0_53, .ref q30, .int 0, .int 0, .int 0, .int 0])), (q135, .inr (7, [.ref e0_74, .ref e1_75, .int 0, .ref q19, .ref q41, .ref e2_76, .ref e3_77, .ref e4_78, .ref e5_79, .ref e6_80, .int 0, .ref e7_81, .ref e8_82, .int 0]))] H := hP
  have hD : va_D A [(h0, .inr (8, [.ref q8, .int 0, .ref q19, .ref q30, .ref q41, .ref q52, .ref q63, .ref q78, .ref q97, .ref q120, .ref q135, .int 0, .int 0])), (q8, .inl (cq8, 3000, .inl (fun _ => 0))), (q19, .inr (1, [.int 0, .ref e0_3, .ref e1_4, .ref e2_5, .ref e3_6, .ref e4_7, .ref e5_8, .int 0, .ref e6_9, .ref e7_10, .ref e8_11, .ref e9_12, .ref e10_13, .ref e11_14, .ref e12_15, .ref e13_16, .ref e14_17, .int 0])), (q30, .inr (1, [.int 0, .ref e0_20, .ref e1_21, .ref e2_22, .ref e3_23, .ref e4_24, .ref e5_25, .int 0, .ref e6_26, .ref e7_27, .ref e8_28, .ref e9_29, .ref e10_30, .ref e11_31, .ref e12_32, .ref e13_33, .ref e14_34, .int 0])), (q41, .inr (4, [.int 0, .ref e0_37, .ref e1_38, .ref e2_39, .ref e3_40, .ref e4_41])), (q63, .inr (3, [.ref q8, .int 0, .int 0, .int (-1), .int 0, .long 0, .long 0])), (q78, .inr (2, [.ref q63, .ref e0_53, .ref q30, .int 0, .int 0, .int 0, .int 0])), (q135, .inr (7, [.ref e0_74, .ref e1_75, .int 0, .ref q19, .ref q41, .ref e2_76, .ref e3_77, .ref e4_78, .ref e5_79, .ref e6_80, .int 0, .ref e7_81, .ref e8_82, .int 0]))] := hD
  refine lv_aload_n hx hb dX8_init_153 rfl (lv_at hl 0 rfl) ?_
  refine lv_iconst (v := (-1)) hx hb dX8_init_154 (by decide) ?_
  refine va_put (D := (dC, dI)) (ci := 8) (v := .int (-1)) (ty := .int) (C := RX8) (T := TX8) (N := 13) hx hb hg inG_X8 tyX8 tyX8_ok nmX8 hown hK hP hD hS 0 rfl rfl 11 (by decide) (hg (.fieldLink RX8 82 "AttributeDesk" "latestFault" "I") gw_2_171) (fun _ h9 => h9) rfl (by decide +kernel) rfl rfl (Nat.le_of_ble_eq_true rfl) dX8_init_155 (fun H locs hP hD hS => ?_)
  have hP : va_P (dC, dI) vwCl [(h0, .inr (8, [.ref q8, .int 0, .ref q19, .ref q30, .ref q41, .ref q52, .ref q63, .ref q78, .ref q97, .ref q120, .ref q135, .int (-1), .int 0])), (q8, .inl (cq8, 3000, .inl (fun _ => 0))), (q19, .inr (1, [.int 0, .ref e0_3, .ref e1_4, .ref e2_5, .ref e3_6, .ref e4_7, .ref e5_8, .int 0, .ref e6_9, .ref e7_10, .ref e8_11, .ref e9_12, .ref e10_13, .ref e11_14, .ref e12_15, .ref e13_16, .ref e14_17, .int 0])), (q30, .inr (1, [.int 0, .ref e0_20, .ref e1_21, .ref e2_22, .ref e3_23, .ref e4_24, .ref e5_25, .int 0, .ref e6_26, .ref e7_27, .ref e8_28, .ref e9_29, .ref e10_30, .ref e11_31, .ref e12_32, .ref e13_33, .ref e14_34, .int 0])), (q41, .inr (4, [.int 0, .ref e0_37, .ref e1_38, .ref e2_39, .ref e3_40, .ref e4_41])), (q63, .inr (3, [.ref q8, .int 0, .int 0, .int (-1), .int 0, .long 0, .long 0])), (q78, .inr (2, [.ref q63, .ref e0_53, .ref q30, .int 0, .int 0, .int 0, .int 0])), (q135, .inr (7, [.ref e0_74, .ref e1_75, .int 0, .ref q19, .ref q41, .ref e2_76, .ref e3_77, .ref e4_78, .ref e5_79, .ref e6_80, .int 0, .ref e7_81, .ref e8_82, .int 0]))] H := hP
  have hD : va_D A [(h0, .inr (8, [.ref q8, .int 0, .ref q19, .ref q30, .ref q41, .ref q52, .ref q63, .ref q78, .ref q97, .ref q120, .ref q135, .int (-1), .int 0])), (q8, .inl (cq8, 3000, .inl (fun _ => 0))), (q19, .inr (1, [.int 0, .ref e0_3, .ref e1_4, .ref e2_5, .ref e3_6, .ref e4_7, .ref e5_8, .int 0, .ref e6_9, .ref e7_10, .ref e8_11, .ref e9_12, .ref e10_13, .ref e11_14, .ref e12_15, .ref e13_16, .ref e14_17, .int 0])), (q30, .inr (1, [.int 0, .ref e0_20, .ref e1_21, .ref e2_22, .ref e3_23, .ref e4_24, .ref e5_25, .int 0, .ref e6_26, .ref e7_27, .ref e8_28, .ref e9_29, .ref e10_30, .ref e11_31, .ref e12_32, .ref e13_33, .ref e14_34, .int 0])), (q41, .inr (4, [.int 0, .ref e0_37, .ref e1_38, .ref e2_39, .ref e3_40, .ref e4_41])), (q63, .inr (3, [.ref q8, .int 0, .int 0, .int (-1), .int 0, .long 0, .long 0])), (q78, .inr (2, [.ref q63, .ref e0_53, .ref q30, .int 0, .int 0, .int 0, .int 0])), (q135, .inr (7, [.ref e0_74, .ref e1_75, .int 0, .ref q19, .ref q41, .ref e2_76, .ref e3_77, .ref e4_78, .ref e5_79, .ref e6_80, .int 0, .ref e7_81, .ref e8_82, .int 0]))] := hD
  refine lv_aload_n hx hb dX8_init_158 rfl (lv_at hl 0 rfl) ?_
  refine lv_iconst (v := (-1)) hx hb dX8_init_159 (by decide) ?_
  refine va_put (D := (dC, dI)) (ci := 8) (v := .int (-1)) (ty := .int) (C := RX8) (T := TX8) (N := 13) hx hb hg inG_X8 tyX8 tyX8_ok nmX8 hown hK hP hD hS 0 rfl rfl 12 (by decide) (hg (.fieldLink RX8 85 "AttributeDesk" "latestPlace" "I") gw_2_172) (fun _ h9 => h9) rfl (by decide +kernel) rfl rfl (Nat.le_of_ble_eq_true rfl) dX8_init_160 (fun H locs hP hD hS => ?_)
  have hP : va_P (dC, dI) vwCl [(h0, .inr (8, [.ref q8, .int 0, .ref q19, .ref q30, .ref q41, .ref q52, .ref q63, .ref q78, .ref q97, .ref q120, .ref q135, .int (-1), .int (-1)])), (q8, .inl (cq8, 3000, .inl (fun _ => 0))), (q19, .inr (1, [.int 0, .ref e0_3, .ref e1_4, .ref e2_5, .ref e3_6, .ref e4_7, .ref e5_8, .int 0, .ref e6_9, .ref e7_10, .ref e8_11, .ref e9_12, .ref e10_13, .ref e11_14, .ref e12_15, .ref e13_16, .ref e14_17, .int 0])), (q30, .inr (1, [.int 0, .ref e0_20, .ref e1_21, .ref e2_22, .ref e3_23, .ref e4_24, .ref e5_25, .int 0, .ref e6_26, .ref e7_27, .ref e8_28, .ref e9_29, .ref e10_30, .ref e11_31, .ref e12_32, .ref e13_33, .ref e14_34, .int 0])), (q41, .inr (4, [.int 0, .ref e0_37, .ref e1_38, .ref e2_39, .ref e3_40, .ref e4_41])), (q63, .inr (3, [.ref q8, .int 0, .int 0, .int (-1), .int 0, .long 0, .long 0])), (q78, .inr (2, [.ref q63, .ref e0_53, .ref q30, .int 0, .int 0, .int 0, .int 0])), (q135, .inr (7, [.ref e0_74, .ref e1_75, .int 0, .ref q19, .ref q41, .ref e2_76, .ref e3_77, .ref e4_78, .ref e5_79, .ref e6_80, .int 0, .ref e7_81, .ref e8_82, .int 0]))] H := hP
  have hD : va_D A [(h0, .inr (8, [.ref q8, .int 0, .ref q19, .ref q30, .ref q41, .ref q52, .ref q63, .ref q78, .ref q97, .ref q120, .ref q135, .int (-1), .int (-1)])), (q8, .inl (cq8, 3000, .inl (fun _ => 0))), (q19, .inr (1, [.int 0, .ref e0_3, .ref e1_4, .ref e2_5, .ref e3_6, .ref e4_7, .ref e5_8, .int 0, .ref e6_9, .ref e7_10, .ref e8_11, .ref e9_12, .ref e10_13, .ref e11_14, .ref e12_15, .ref e13_16, .ref e14_17, .int 0])), (q30, .inr (1, [.int 0, .ref e0_20, .ref e1_21, .ref e2_22, .ref e3_23, .ref e4_24, .ref e5_25, .int 0, .ref e6_26, .ref e7_27, .ref e8_28, .ref e9_29, .ref e10_30, .ref e11_31, .ref e12_32, .ref e13_33, .ref e14_34, .int 0])), (q41, .inr (4, [.int 0, .ref e0_37, .ref e1_38, .ref e2_39, .ref e3_40, .ref e4_41])), (q63, .inr (3, [.ref q8, .int 0, .int 0, .int (-1), .int 0, .long 0, .long 0])), (q78, .inr (2, [.ref q63, .ref e0_53, .ref q30, .int 0, .int 0, .int 0, .int 0])), (q135, .inr (7, [.ref e0_74, .ref e1_75, .int 0, .ref q19, .ref q41, .ref e2_76, .ref e3_77, .ref e4_78, .ref e5_79, .ref e6_80, .int 0, .ref e7_81, .ref e8_82, .int 0]))] := hD
  have hP9 := hP.sub (ws' := [(h0, .inr (8, [.ref q8, .int 0, .ref q19, .ref q30, .ref q41, .ref q52, .ref q63, .ref q78, .ref q97, .ref q120, .ref q135, .int (-1), .int (-1)])), (q8, .inl (cq8, 3000, .inl (fun _ => 0))), (q19, .inr (1, [.int 0, .ref e0_3, .ref e1_4, .ref e2_5, .ref e3_6, .ref e4_7, .ref e5_8, .int 0, .ref e6_9, .ref e7_10, .ref e8_11, .ref e9_12, .ref e10_13, .ref e11_14, .ref e12_15, .ref e13_16, .ref e14_17, .int 0])), (q30, .inr (1, [.int 0, .ref e0_20, .ref e1_21, .ref e2_22, .ref e3_23, .ref e4_24, .ref e5_25, .int 0, .ref e6_26, .ref e7_27, .ref e8_28, .ref e9_29, .ref e10_30, .ref e11_31, .ref e12_32, .ref e13_33, .ref e14_34, .int 0])), (q41, .inr (4, [.int 0, .ref e0_37, .ref e1_38, .ref e2_39, .ref e3_40, .ref e4_41])), (q63, .inr (3, [.ref q8, .int 0, .int 0, .int (-1), .int 0, .long 0, .long 0])), (q78, .inr (2, [.ref q63, .ref e0_53, .ref q30, .int 0, .int 0, .int 0, .int 0])), (q135, .inr (7, [.ref e0_74, .ref e1_75, .int 0, .ref q19, .ref q41, .ref e2_76, .ref e3_77, .ref e4_78, .ref e5_79, .ref e6_80, .int 0, .ref e7_81, .ref e8_82, .int 0]))]) [0, 1, 2, 3, 4, 5, 6, 7] rfl
  have hD9 := hD.sub (ws' := [(h0, .inr (8, [.ref q8, .int 0, .ref q19, .ref q30, .ref q41, .ref q52, .ref q63, .ref q78, .ref q97, .ref q120, .ref q135, .int (-1), .int (-1)])), (q8, .inl (cq8, 3000, .inl (fun _ => 0))), (q19, .inr (1, [.int 0, .ref e0_3, .ref e1_4, .ref e2_5, .ref e3_6, .ref e4_7, .ref e5_8, .int 0, .ref e6_9, .ref e7_10, .ref e8_11, .ref e9_12, .ref e10_13, .ref e11_14, .ref e12_15, .ref e13_16, .ref e14_17, .int 0])), (q30, .inr (1, [.int 0, .ref e0_20, .ref e1_21, .ref e2_22, .ref e3_23, .ref e4_24, .ref e5_25, .int 0, .ref e6_26, .ref e7_27, .ref e8_28, .ref e9_29, .ref e10_30, .ref e11_31, .ref e12_32, .ref e13_33, .ref e14_34, .int 0])), (q41, .inr (4, [.int 0, .ref e0_37, .ref e1_38, .ref e2_39, .ref e3_40, .ref e4_41])), (q63, .inr (3, [.ref q8, .int 0, .int 0, .int (-1), .int 0, .long 0, .long 0])), (q78, .inr (2, [.ref q63, .ref e0_53, .ref q30, .int 0, .int 0, .int 0, .int 0])), (q135, .inr (7, [.ref e0_74, .ref e1_75, .int 0, .ref q19, .ref q41, .ref e2_76, .ref e3_77, .ref e4_78, .ref e5_79, .ref e6_80, .int 0, .ref e7_81, .ref e8_82, .int 0]))]) [0, 1, 2, 3, 4, 5, 6, 7] (by decide) rfl
  have hK9 := hK.sub (tys' := [(cq8, .byte)]) [0] rfl
  refine W.widen (k := 75) (n := 44419) (Nat.le_of_ble_eq_true rfl) (Nat.le_of_ble_eq_true rfl) ?_
  exact W.vret hx hb hr (fun t ht hW => ⟨⟨(), rfl, trivial, q8, q19, q30, q41, q52, q63, q78, q97, q120, q135, cq8, e0_3, e1_4, e2_5, e3_6, e4_7, e5_8, e6_9, e7_10, e8_11, e9_12, e10_13, e11_14, e12_15, e13_16, e14_17, e0_20, e1_21, e2_22, e3_23, e4_24, e5_25, e6_26, e7_27, e8_28, e9_29, e10_30, e11_31, e12_32, e13_33, e14_34, e0_37, e1_38, e2_39, e3_40, e4_41, e0_53, e0_74, e1_75, e2_76, e3_77, e4_78, e5_79, e6_80, e7_81, e8_82, by rw [ht]; exact hP9, va_K.moved hW.alike hK9, hD9⟩, hS.F ht⟩) hS.2.2 dX8_init_163
end
