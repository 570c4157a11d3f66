/-! ===== BEGIN printed: names, fields, word lists, decode rows ===== -/
def RX0 : String := "AmplifierDesk$Bench"
def TX0 : u_T := fun k => match k with
  | 0 => ("AmplifierDesk$Bench", "state", "LAmplifierDesk$State;", true)
  | 1 => ("AmplifierDesk$Bench", "amplifierParts", "[I", true)
  | 2 => ("AmplifierDesk$Bench", "amplifiers", "I", false)
  | 3 => ("AmplifierDesk$Bench", "replies", "LAmplifierDesk$Replies;", true)
  | 4 => ("AmplifierDesk$Bench", "given", "[J", true)
  | 5 => ("AmplifierDesk$Bench", "saturated", "I", false)
  | 6 => ("AmplifierDesk$Bench", "reason", "I", false)
  | _ => ("AmplifierDesk$Bench", "culprit", "I", false)
def tyX0 : Nat → FieldType := fun k => match k with
  | 0 => .object "AmplifierDesk$State"
  | 1 => .array .int
  | 2 => .int
  | 3 => .object "AmplifierDesk$Replies"
  | 4 => .array .long
  | 5 => .int
  | 6 => .int
  | _ => .int
abbrev wsX00 : List Cond := u_ws RX0 TX0 8
theorem nmX0 : ∀ a, a < 8 → ∀ b, b < 8 → a ≠ b → (TX0 a).2.1 ≠ (TX0 b).2.1 := by decide +kernel
theorem tyX0_ok : ∀ k, k < 8 → parseFieldDescriptor (TX0 k).2.2.1 = some (tyX0 k) := by decide +kernel
abbrev cX0_init : ByteArray := prog_2_method_1_code
def yX0_init : MethodName := ⟨RX0, "<init>", "()V"⟩
abbrev cX0_takeOver : ByteArray := prog_2_method_2_code
def yX0_takeOver : MethodName := ⟨RX0, "takeOver", "(LAmplifierDesk$State;)V"⟩
abbrev cX0_solve : ByteArray := prog_2_method_3_code
def yX0_solve : MethodName := ⟨RX0, "solve", "()V"⟩
abbrev cX0_cases : ByteArray := prog_2_method_4_code
def yX0_cases : MethodName := ⟨RX0, "cases", "()I"⟩
abbrev cX0_settle : ByteArray := prog_2_method_5_code
def yX0_settle : MethodName := ⟨RX0, "settle", "()V"⟩
abbrev cX0_changesTo : ByteArray := prog_2_method_6_code
def yX0_changesTo : MethodName := ⟨RX0, "changesTo", "(I)I"⟩
abbrev cX0_isDetermined : ByteArray := prog_2_method_7_code
def yX0_isDetermined : MethodName := ⟨RX0, "isDetermined", "(I)Z"⟩
abbrev cX0_saturatedIn : ByteArray := prog_2_method_8_code
def yX0_saturatedIn : MethodName := ⟨RX0, "saturatedIn", "(I)I"⟩
abbrev cX0_choose : ByteArray := prog_2_method_9_code
def yX0_choose : MethodName := ⟨RX0, "choose", "(I)V"⟩
abbrev cX0_denominator : ByteArray := prog_2_method_10_code
def yX0_denominator : MethodName := ⟨RX0, "denominator", "()J"⟩
abbrev cX0_numerator : ByteArray := prog_2_method_11_code
def yX0_numerator : MethodName := ⟨RX0, "numerator", "(I)J"⟩
abbrev cX0_nodeVoltage : ByteArray := prog_2_method_12_code
def yX0_nodeVoltage : MethodName := ⟨RX0, "nodeVoltage", "(III)J"⟩
abbrev cX0_inputSign : ByteArray := prog_2_method_13_code
def yX0_inputSign : MethodName := ⟨RX0, "inputSign", "(I)I"⟩
abbrev cX0_signOfInput : ByteArray := prog_2_method_14_code
def yX0_signOfInput : MethodName := ⟨RX0, "signOfInput", "(I)I"⟩
abbrev cX0_holds : ByteArray := prog_2_method_15_code
def yX0_holds : MethodName := ⟨RX0, "holds", "(I)Z"⟩
abbrev cX0_judge : ByteArray := prog_2_method_16_code
def yX0_judge : MethodName := ⟨RX0, "judge", "(I)V"⟩
abbrev cX0_faultOf : ByteArray := prog_2_method_17_code
def yX0_faultOf : MethodName := ⟨RX0, "faultOf", "(II)I"⟩
abbrev cX0_hasNegativeFeedback : ByteArray := prog_2_method_18_code
def yX0_hasNegativeFeedback : MethodName := ⟨RX0, "hasNegativeFeedback", "(I)Z"⟩
def RX1 : String := "AmplifierDesk$History"
def TX1 : u_T := fun k => match k with
  | 0 => ("AmplifierDesk$History", "states", "[LAmplifierDesk$State;", true)
  | 1 => ("AmplifierDesk$History", "oldest", "I", false)
  | _ => ("AmplifierDesk$History", "size", "I", false)
def tyX1 : Nat → FieldType := fun k => match k with
  | 0 => .array (.object "AmplifierDesk$State")
  | 1 => .int
  | _ => .int
abbrev wsX10 : List Cond := u_ws RX1 TX1 3
theorem nmX1 : ∀ a, a < 3 → ∀ b, b < 3 → a ≠ b → (TX1 a).2.1 ≠ (TX1 b).2.1 := by decide +kernel
theorem tyX1_ok : ∀ k, k < 3 → parseFieldDescriptor (TX1 k).2.2.1 = some (tyX1 k) := by decide +kernel
abbrev cX1_init : ByteArray := prog_3_method_1_code
def yX1_init : MethodName := ⟨RX1, "<init>", "()V"⟩
abbrev cX1_record : ByteArray := prog_3_method_2_code
def yX1_record : MethodName := ⟨RX1, "record", "(LAmplifierDesk$State;)V"⟩
abbrev cX1_removeLatest : ByteArray := prog_3_method_3_code
def yX1_removeLatest : MethodName := ⟨RX1, "removeLatest", "()LAmplifierDesk$State;"⟩
def RX2 : String := "AmplifierDesk$Parts"
def TX2 : u_T := fun k => match k with
  | 0 => ("AmplifierDesk$Parts", "kind", "[I", true)
  | 1 => ("AmplifierDesk$Parts", "first", "[I", true)
  | 2 => ("AmplifierDesk$Parts", "second", "[I", true)
  | 3 => ("AmplifierDesk$Parts", "third", "[I", true)
  | _ => ("AmplifierDesk$Parts", "size", "I", false)
def tyX2 : Nat → FieldType := fun k => match k with
  | 0 => .array .int
  | 1 => .array .int
  | 2 => .array .int
  | 3 => .array .int
  | _ => .int
abbrev wsX20 : List Cond := u_ws RX2 TX2 5
theorem nmX2 : ∀ a, a < 5 → ∀ b, b < 5 → a ≠ b → (TX2 a).2.1 ≠ (TX2 b).2.1 := by decide +kernel
theorem tyX2_ok : ∀ k, k < 5 → parseFieldDescriptor (TX2 k).2.2.1 = some (tyX2 k) := by decide +kernel
abbrev cX2_init : ByteArray := prog_4_method_1_code
def yX2_init : MethodName := ⟨RX2, "<init>", "(I)V"⟩
abbrev cX2_copyFrom : ByteArray := prog_4_method_2_code
def yX2_copyFrom : MethodName := ⟨RX2, "copyFrom", "(LAmplifierDesk$Parts;)V"⟩
abbrev cX2_addAll : ByteArray := prog_4_method_3_code
def yX2_addAll : MethodName := ⟨RX2, "addAll", "(LAmplifierDesk$Parts;)V"⟩
abbrev cX2_add : ByteArray := prog_4_method_4_code
def yX2_add : MethodName := ⟨RX2, "add", "(IIII)V"⟩
abbrev cX2_removeAt : ByteArray := prog_4_method_5_code
def yX2_removeAt : MethodName := ⟨RX2, "removeAt", "(I)V"⟩
abbrev cX2_amplifiersBefore : ByteArray := prog_4_method_6_code
def yX2_amplifiersBefore : MethodName := ⟨RX2, "amplifiersBefore", "(I)I"⟩
abbrev cX2_usedNodes : ByteArray := prog_4_method_7_code
def yX2_usedNodes : MethodName := ⟨RX2, "usedNodes", "()I"⟩
abbrev cX2_drivenNode : ByteArray := prog_4_method_8_code
def yX2_drivenNode : MethodName := ⟨RX2, "drivenNode", "(I)I"⟩
abbrev cX2_drivenNodes : ByteArray := prog_4_method_9_code
def yX2_drivenNodes : MethodName := ⟨RX2, "drivenNodes", "()I"⟩
abbrev cX2_haveNodesAsTold : ByteArray := prog_4_method_10_code
def yX2_haveNodesAsTold : MethodName := ⟨RX2, "haveNodesAsTold", "()Z"⟩
abbrev cX2_hasNodesAsTold : ByteArray := prog_4_method_11_code
def yX2_hasNodesAsTold : MethodName := ⟨RX2, "hasNodesAsTold", "(I)Z"⟩
abbrev cX2_haveRoomFor : ByteArray := prog_4_method_12_code
def yX2_haveRoomFor : MethodName := ⟨RX2, "haveRoomFor", "(LAmplifierDesk$Parts;)Z"⟩
def RX3 : String := "AmplifierDesk$Replies"
def TX3 : u_T := fun k => match k with
  | 0 => ("AmplifierDesk$Replies", "denominator", "[J", true)
  | 1 => ("AmplifierDesk$Replies", "numerator", "[[J", true)
  | _ => ("AmplifierDesk$Replies", "rows", "[[J", true)
def tyX3 : Nat → FieldType := fun k => match k with
  | 0 => .array .long
  | 1 => .array (.array .long)
  | _ => .array (.array .long)
abbrev wsX30 : List Cond := u_ws RX3 TX3 3
theorem nmX3 : ∀ a, a < 3 → ∀ b, b < 3 → a ≠ b → (TX3 a).2.1 ≠ (TX3 b).2.1 := by decide +kernel
theorem tyX3_ok : ∀ k, k < 3 → parseFieldDescriptor (TX3 k).2.2.1 = some (tyX3 k) := by decide +kernel
abbrev cX3_init : ByteArray := prog_5_method_1_code
def yX3_init : MethodName := ⟨RX3, "<init>", "()V"⟩
abbrev cX3_solve : ByteArray := prog_5_method_2_code
def yX3_solve : MethodName := ⟨RX3, "solve", "(LAmplifierDesk$Parts;I)V"⟩
abbrev cX3_writeRows : ByteArray := prog_5_method_3_code
def yX3_writeRows : MethodName := ⟨RX3, "writeRows", "(LAmplifierDesk$Parts;I)V"⟩
abbrev cX3_giveVoltage : ByteArray := prog_5_method_4_code
def yX3_giveVoltage : MethodName := ⟨RX3, "giveVoltage", "(I)V"⟩
abbrev cX3_join : ByteArray := prog_5_method_5_code
def yX3_join : MethodName := ⟨RX3, "join", "(IIII)V"⟩
abbrev cX3_equateInputs : ByteArray := prog_5_method_6_code
def yX3_equateInputs : MethodName := ⟨RX3, "equateInputs", "(III)V"⟩
abbrev cX3_eliminate : ByteArray := prog_5_method_7_code
def yX3_eliminate : MethodName := ⟨RX3, "eliminate", "()J"⟩
abbrev cX3_bringPivot : ByteArray := prog_5_method_8_code
def yX3_bringPivot : MethodName := ⟨RX3, "bringPivot", "(I)Z"⟩
abbrev cX3_clearColumn : ByteArray := prog_5_method_9_code
def yX3_clearColumn : MethodName := ⟨RX3, "clearColumn", "(IJ)V"⟩
abbrev cX3_copyAnswers : ByteArray := prog_5_method_10_code
def yX3_copyAnswers : MethodName := ⟨RX3, "copyAnswers", "([JI)V"⟩
def RX4 : String := "AmplifierDesk$State"
def TX4 : u_T := fun k => match k with
  | 0 => ("AmplifierDesk$State", "parts", "LAmplifierDesk$Parts;", true)
  | 1 => ("AmplifierDesk$State", "rail", "I", false)
  | 2 => ("AmplifierDesk$State", "present", "I", false)
  | _ => ("AmplifierDesk$State", "settled", "Z", false)
def tyX4 : Nat → FieldType := fun k => match k with
  | 0 => .object "AmplifierDesk$Parts"
  | 1 => .int
  | 2 => .int
  | _ => .boolean
abbrev wsX40 : List Cond := u_ws RX4 TX4 4
theorem nmX4 : ∀ a, a < 4 → ∀ b, b < 4 → a ≠ b → (TX4 a).2.1 ≠ (TX4 b).2.1 := by decide +kernel
theorem tyX4_ok : ∀ k, k < 4 → parseFieldDescriptor (TX4 k).2.2.1 = some (tyX4 k) := by decide +kernel
abbrev cX4_init : ByteArray := prog_6_method_1_code
def yX4_init : MethodName := ⟨RX4, "<init>", "()V"⟩
abbrev cX4_copyFrom : ByteArray := prog_6_method_2_code
def yX4_copyFrom : MethodName := ⟨RX4, "copyFrom", "(LAmplifierDesk$State;)V"⟩
abbrev cX4_empty : ByteArray := prog_6_method_3_code
def yX4_empty : MethodName := ⟨RX4, "empty", "()V"⟩
abbrev cX4_remove : ByteArray := prog_6_method_4_code
def yX4_remove : MethodName := ⟨RX4, "remove", "(I)V"⟩
def RX5 : String := "AmplifierDesk$TextReader"
def TX5 : u_T := fun k => match k with
  | 0 => ("AmplifierDesk$TextReader", "text", "[C", true)
  | 1 => ("AmplifierDesk$TextReader", "parts", "LAmplifierDesk$Parts;", true)
  | 2 => ("AmplifierDesk$TextReader", "length", "I", false)
  | 3 => ("AmplifierDesk$TextReader", "kind", "I", false)
  | 4 => ("AmplifierDesk$TextReader", "digits", "[I", true)
  | 5 => ("AmplifierDesk$TextReader", "taken", "I", false)
  | 6 => ("AmplifierDesk$TextReader", "sourceNode", "I", false)
  | 7 => ("AmplifierDesk$TextReader", "negative", "Z", false)
  | _ => ("AmplifierDesk$TextReader", "value", "I", false)
def tyX5 : Nat → FieldType := fun k => match k with
  | 0 => .array .char
  | 1 => .object "AmplifierDesk$Parts"
  | 2 => .int
  | 3 => .int
  | 4 => .array .int
  | 5 => .int
  | 6 => .int
  | 7 => .boolean
  | _ => .int
abbrev wsX50 : List Cond := u_ws RX5 TX5 9
theorem nmX5 : ∀ a, a < 9 → ∀ b, b < 9 → a ≠ b → (TX5 a).2.1 ≠ (TX5 b).2.1 := by decide +kernel
theorem tyX5_ok : ∀ k, k < 9 → parseFieldDescriptor (TX5 k).2.2.1 = some (tyX5 k) := by decide +kernel
abbrev cX5_init : ByteArray := prog_7_method_1_code
def yX5_init : MethodName := ⟨RX5, "<init>", "()V"⟩
abbrev cX5_read : ByteArray := prog_7_method_2_code
def yX5_read : MethodName := ⟨RX5, "read", "()I"⟩
abbrev cX5_isComplete : ByteArray := prog_7_method_3_code
def yX5_isComplete : MethodName := ⟨RX5, "isComplete", "()Z"⟩
abbrev cX5_startPart : ByteArray := prog_7_method_4_code
def yX5_startPart : MethodName := ⟨RX5, "startPart", "(I)V"⟩
abbrev cX5_accepts : ByteArray := prog_7_method_5_code
def yX5_accepts : MethodName := ⟨RX5, "accepts", "(C)Z"⟩
abbrev cX5_acceptsLetter : ByteArray := prog_7_method_6_code
def yX5_acceptsLetter : MethodName := ⟨RX5, "acceptsLetter", "(C)Z"⟩
abbrev cX5_kindOfLetter : ByteArray := prog_7_method_7_code
def yX5_kindOfLetter : MethodName := ⟨RX5, "kindOfLetter", "(C)I"⟩
abbrev cX5_acceptsDigit : ByteArray := prog_7_method_8_code
def yX5_acceptsDigit : MethodName := ⟨RX5, "acceptsDigit", "(C)Z"⟩
abbrev cX5_acceptsInSource : ByteArray := prog_7_method_9_code
def yX5_acceptsInSource : MethodName := ⟨RX5, "acceptsInSource", "(C)Z"⟩
abbrev cX5_acceptsInValue : ByteArray := prog_7_method_10_code
def yX5_acceptsInValue : MethodName := ⟨RX5, "acceptsInValue", "(C)Z"⟩
abbrev cX5_isNode : ByteArray := prog_7_method_11_code
def yX5_isNode : MethodName := ⟨RX5, "isNode", "(C)Z"⟩
abbrev cX5_endsPart : ByteArray := prog_7_method_12_code
def yX5_endsPart : MethodName := ⟨RX5, "endsPart", "()Z"⟩
def RX6 : String := "AmplifierDesk"
def TX6 : u_T := fun k => match k with
  | 0 => ("AmplifierDesk", "now", "LAmplifierDesk$Bench;", true)
  | 1 => ("AmplifierDesk", "trial", "LAmplifierDesk$Bench;", true)
  | 2 => ("AmplifierDesk", "input", "LAmplifierDesk$TextReader;", true)
  | 3 => ("AmplifierDesk", "history", "LAmplifierDesk$History;", true)
  | 4 => ("AmplifierDesk", "images", "[LAmplifierDesk$State;", true)
  | _ => ("AmplifierDesk", "keptImages", "I", false)
def tyX6 : Nat → FieldType := fun k => match k with
  | 0 => .object "AmplifierDesk$Bench"
  | 1 => .object "AmplifierDesk$Bench"
  | 2 => .object "AmplifierDesk$TextReader"
  | 3 => .object "AmplifierDesk$History"
  | 4 => .array (.object "AmplifierDesk$State")
  | _ => .int
abbrev wsX60 : List Cond := u_ws RX6 TX6 6
theorem nmX6 : ∀ a, a < 6 → ∀ b, b < 6 → a ≠ b → (TX6 a).2.1 ≠ (TX6 b).2.1 := by decide +kernel
theorem tyX6_ok : ∀ k, k < 6 → parseFieldDescriptor (TX6 k).2.2.1 = some (tyX6 k) := by decide +kernel
abbrev cX6_init : ByteArray := prog_1_method_1_code
def yX6_init : MethodName := ⟨RX6, "<init>", "()V"⟩
abbrev cX6_begin : ByteArray := prog_1_method_2_code
def yX6_begin : MethodName := ⟨RX6, "begin", "()I"⟩
abbrev cX6_load : ByteArray := prog_1_method_3_code
def yX6_load : MethodName := ⟨RX6, "load", "()I"⟩
abbrev cX6_setValue : ByteArray := prog_1_method_4_code
def yX6_setValue : MethodName := ⟨RX6, "setValue", "(II)I"⟩
abbrev cX6_setRail : ByteArray := prog_1_method_5_code
def yX6_setRail : MethodName := ⟨RX6, "setRail", "(I)I"⟩
abbrev cX6_drop : ByteArray := prog_1_method_6_code
def yX6_drop : MethodName := ⟨RX6, "drop", "(I)I"⟩
abbrev cX6_sweep : ByteArray := prog_1_method_7_code
def yX6_sweep : MethodName := ⟨RX6, "sweep", "(II)I"⟩
abbrev cX6_undo : ByteArray := prog_1_method_8_code
def yX6_undo : MethodName := ⟨RX6, "undo", "()I"⟩
abbrev cX6_append : ByteArray := prog_1_method_11_code
def yX6_append : MethodName := ⟨RX6, "append", "(I)I"⟩
abbrev cX6_clearInput : ByteArray := prog_1_method_12_code
def yX6_clearInput : MethodName := ⟨RX6, "clearInput", "()I"⟩
abbrev cX6_firstError : ByteArray := prog_1_method_13_code
def yX6_firstError : MethodName := ⟨RX6, "firstError", "()I"⟩
abbrev cX6_voltage : ByteArray := prog_1_method_14_code
def yX6_voltage : MethodName := ⟨RX6, "voltage", "(II)J"⟩
abbrev cX6_current : ByteArray := prog_1_method_15_code
def yX6_current : MethodName := ⟨RX6, "current", "(II)J"⟩
abbrev cX6_amplifier : ByteArray := prog_1_method_16_code
def yX6_amplifier : MethodName := ⟨RX6, "amplifier", "(II)I"⟩
abbrev cX6_why : ByteArray := prog_1_method_17_code
def yX6_why : MethodName := ⟨RX6, "why", "(I)I"⟩
abbrev cX6_concerned : ByteArray := prog_1_method_18_code
def yX6_concerned : MethodName := ⟨RX6, "concerned", "(I)I"⟩
abbrev cX6_inCase : ByteArray := prog_1_method_19_code
def yX6_inCase : MethodName := ⟨RX6, "inCase", "(III)J"⟩
abbrev cX6_trip : ByteArray := prog_1_method_20_code
def yX6_trip : MethodName := ⟨RX6, "trip", "(IZ)I"⟩
abbrev cX6_ifValue : ByteArray := prog_1_method_21_code
def yX6_ifValue : MethodName := ⟨RX6, "ifValue", "(II)I"⟩
abbrev cX6_part : ByteArray := prog_1_method_22_code
def yX6_part : MethodName := ⟨RX6, "part", "(II)I"⟩
abbrev cX6_count : ByteArray := prog_1_method_23_code
def yX6_count : MethodName := ⟨RX6, "count", "(I)I"⟩
abbrev cX6_meanVoltage : ByteArray := prog_1_method_24_code
def yX6_meanVoltage : MethodName := ⟨RX6, "meanVoltage", "()D"⟩
abbrev cX6_holdingCases : ByteArray := prog_1_method_29_code
def yX6_holdingCases : MethodName := ⟨RX6, "holdingCases", "()I"⟩
abbrev cX6_determinedCases : ByteArray := prog_1_method_30_code
def yX6_determinedCases : MethodName := ⟨RX6, "determinedCases", "()I"⟩
abbrev cX6_requirePart : ByteArray := prog_1_method_31_code
def yX6_requirePart : MethodName := ⟨RX6, "requirePart", "(I)V"⟩
abbrev cX6_requireSource : ByteArray := prog_1_method_32_code
def yX6_requireSource : MethodName := ⟨RX6, "requireSource", "(I)V"⟩
abbrev cX6_requireSettable : ByteArray := prog_1_method_33_code
def yX6_requireSettable : MethodName := ⟨RX6, "requireSettable", "(II)V"⟩
abbrev cX6_requireCase : ByteArray := prog_1_method_35_code
def yX6_requireCase : MethodName := ⟨RX6, "requireCase", "(I)V"⟩
abbrev cX6_requireNode : ByteArray := prog_1_method_36_code
def yX6_requireNode : MethodName := ⟨RX6, "requireNode", "(I)V"⟩
abbrev cX6_requireFractionSide : ByteArray := prog_1_method_37_code
def yX6_requireFractionSide : MethodName := ⟨RX6, "requireFractionSide", "(I)V"⟩
abbrev cX6_isSourceValue : ByteArray := prog_1_method_38_code
def yX6_isSourceValue : MethodName := ⟨RX6, "isSourceValue", "(I)Z"⟩
abbrev cX6_contains : ByteArray := prog_1_method_39_code
def yX6_contains : MethodName := ⟨RX6, "contains", "(II)Z"⟩
abbrev cX6_stateIn : ByteArray := prog_1_method_40_code
def yX6_stateIn : MethodName := ⟨RX6, "stateIn", "(II)I"⟩
abbrev cX6_lowestTerms : ByteArray := prog_1_method_42_code
def yX6_lowestTerms : MethodName := ⟨RX6, "lowestTerms", "(JJI)J"⟩
abbrev cX6_greatestDivisor : ByteArray := prog_1_method_43_code
def yX6_greatestDivisor : MethodName := ⟨RX6, "greatestDivisor", "(JJ)J"⟩
def RX7 : String := "AmplifierDeskModel"
def TX7 : u_T := fun k => match k with
  | _ => ("", "", "", false)
def tyX7 : Nat → FieldType := fun k => match k with
  | _ => .int
abbrev wsX70 : List Cond := u_ws RX7 TX7 0
theorem nmX7 : ∀ a, a < 0 → ∀ b, b < 0 → a ≠ b → (TX7 a).2.1 ≠ (TX7 b).2.1 := by decide +kernel
theorem tyX7_ok : ∀ k, k < 0 → parseFieldDescriptor (TX7 k).2.2.1 = some (tyX7 k) := by decide +kernel
def RJx145de : String := "java/io/Serializable"
def TJx145de : u_T := fun k => match k with
  | _ => ("", "", "", false)
def tyJx145de : Nat → FieldType := fun k => match k with
  | _ => .int
abbrev wsJx145de0 : List Cond := u_ws RJx145de TJx145de 0
theorem nmJx145de : ∀ a, a < 0 → ∀ b, b < 0 → a ≠ b → (TJx145de a).2.1 ≠ (TJx145de b).2.1 := by decide +kernel
theorem tyJx145de_ok : ∀ k, k < 0 → parseFieldDescriptor (TJx145de k).2.2.1 = some (tyJx145de k) := by decide +kernel
def RJ6 : String := "java/lang/Integer"
def TJ6 : u_T := fun k => match k with
  | _ => ("", "", "", false)
def tyJ6 : Nat → FieldType := fun k => match k with
  | _ => .int
abbrev wsJ60 : List Cond := u_ws RJ6 TJ6 0
theorem nmJ6 : ∀ a, a < 0 → ∀ b, b < 0 → a ≠ b → (TJ6 a).2.1 ≠ (TJ6 b).2.1 := by decide +kernel
theorem tyJ6_ok : ∀ k, k < 0 → parseFieldDescriptor (TJ6 k).2.2.1 = some (tyJ6 k) := by decide +kernel
abbrev cJ6_bitCount_0f7a4 : ByteArray := prog_14_method_49_code
def yJ6_bitCount_0f7a4 : MethodName := ⟨RJ6, "bitCount", "(I)I"⟩
def RJ13 : String := "java/lang/Long"
def TJ13 : u_T := fun k => match k with
  | _ => ("", "", "", false)
def tyJ13 : Nat → FieldType := fun k => match k with
  | _ => .int
abbrev wsJ130 : List Cond := u_ws RJ13 TJ13 0
theorem nmJ13 : ∀ a, a < 0 → ∀ b, b < 0 → a ≠ b → (TJ13 a).2.1 ≠ (TJ13 b).2.1 := by decide +kernel
theorem tyJ13_ok : ∀ k, k < 0 → parseFieldDescriptor (TJ13 k).2.2.1 = some (tyJ13 k) := by decide +kernel
abbrev cJ13_compare_74951 : ByteArray := prog_15_method_42_code
def yJ13_compare_74951 : MethodName := ⟨RJ13, "compare", "(JJ)I"⟩
def RJ9 : String := "java/lang/Math"
def TJ9 : u_T := fun k => match k with
  | _ => ("", "", "", false)
def tyJ9 : Nat → FieldType := fun k => match k with
  | _ => .int
abbrev wsJ90 : List Cond := u_ws RJ9 TJ9 0
theorem nmJ9 : ∀ a, a < 0 → ∀ b, b < 0 → a ≠ b → (TJ9 a).2.1 ≠ (TJ9 b).2.1 := by decide +kernel
theorem tyJ9_ok : ∀ k, k < 0 → parseFieldDescriptor (TJ9 k).2.2.1 = some (tyJ9 k) := by decide +kernel
abbrev cJ9_abs_0f7a4 : ByteArray := prog_16_method_59_code
def yJ9_abs_0f7a4 : MethodName := ⟨RJ9, "abs", "(I)I"⟩
abbrev cJ9_abs_067f4 : ByteArray := prog_16_method_61_code
def yJ9_abs_067f4 : MethodName := ⟨RJ9, "abs", "(J)J"⟩
def RJ0 : String := "java/lang/String"
def TJ0 : u_T := fun k => match k with
  | _ => ("", "", "", false)
def tyJ0 : Nat → FieldType := fun k => match k with
  | _ => .int
abbrev wsJ00 : List Cond := u_ws RJ0 TJ0 0
theorem nmJ0 : ∀ a, a < 0 → ∀ b, b < 0 → a ≠ b → (TJ0 a).2.1 ≠ (TJ0 b).2.1 := by decide +kernel
theorem tyJ0_ok : ∀ k, k < 0 → parseFieldDescriptor (TJ0 k).2.2.1 = some (tyJ0 k) := by decide +kernel
def RJ7 : String := "java/util/Arrays"
def TJ7 : u_T := fun k => match k with
  | _ => ("", "", "", false)
def tyJ7 : Nat → FieldType := fun k => match k with
  | _ => .int
abbrev wsJ70 : List Cond := u_ws RJ7 TJ7 0
theorem nmJ7 : ∀ a, a < 0 → ∀ b, b < 0 → a ≠ b → (TJ7 a).2.1 ≠ (TJ7 b).2.1 := by decide +kernel
theorem tyJ7_ok : ∀ k, k < 0 → parseFieldDescriptor (TJ7 k).2.2.1 = some (tyJ7 k) := by decide +kernel
abbrev cJ7_fill_d0a16 : ByteArray := prog_20_method_101_code
def yJ7_fill_d0a16 : MethodName := ⟨RJ7, "fill", "([JJ)V"⟩
def RL : String := "AmplifierDeskLaw"
abbrev cL_cell : ByteArray := method_2_code
def yL_cell : MethodName := ⟨RL, "cell", "([II)I"⟩
abbrev cL_at : ByteArray := method_3_code
def yL_at : MethodName := ⟨RL, "at", "(II)I"⟩
abbrev cL_kind : ByteArray := method_4_code
def yL_kind : MethodName := ⟨RL, "kind", "(I[I)I"⟩
abbrev cL_isAt : ByteArray := method_5_code
def yL_isAt : MethodName := ⟨RL, "isAt", "(II[I)Z"⟩
abbrev cL_used : ByteArray := method_6_code
def yL_used : MethodName := ⟨RL, "used", "(I[I[I)Z"⟩
abbrev cL_driver : ByteArray := method_7_code
def yL_driver : MethodName := ⟨RL, "driver", "(I[I[I)I"⟩
abbrev cL_amplifiers : ByteArray := method_8_code
def yL_amplifiers : MethodName := ⟨RL, "amplifiers", "(I[I)I"⟩
abbrev cL_place : ByteArray := method_9_code
def yL_place : MethodName := ⟨RL, "place", "(I[I[I)I"⟩
abbrev cL_power : ByteArray := method_10_code
def yL_power : MethodName := ⟨RL, "power", "(I)I"⟩
abbrev cL_state : ByteArray := method_11_code
def yL_state : MethodName := ⟨RL, "state", "(II)I"⟩
abbrev cL_equations : ByteArray := method_13_code
def yL_equations : MethodName := ⟨RL, "equations", "(II[I[I[J)V"⟩
abbrev cL_solve : ByteArray := method_14_code
def yL_solve : MethodName := ⟨RL, "solve", "([J)Z"⟩
abbrev cL_common : ByteArray := method_15_code
def yL_common : MethodName := ⟨RL, "common", "(JJ)J"⟩
abbrev cL_part : ByteArray := method_16_code
def yL_part : MethodName := ⟨RL, "part", "(II[J)J"⟩
abbrev cL_higher : ByteArray := method_17_code
def yL_higher : MethodName := ⟨RL, "higher", "(II[J)I"⟩
abbrev cL_why : ByteArray := method_18_code
def yL_why : MethodName := ⟨RL, "why", "(I[I[I[J[J)I"⟩
abbrev cL_settle : ByteArray := method_19_code
def yL_settle : MethodName := ⟨RL, "settle", "([I[I[J[J)I"⟩
abbrev cL_told : ByteArray := method_20_code
def yL_told : MethodName := ⟨RL, "told", "(LAmplifierDesk;I[I[I)Z"⟩
abbrev cL_currents : ByteArray := method_21_code
def yL_currents : MethodName := ⟨RL, "currents", "(LAmplifierDesk;Z[I[I[J)Z"⟩
abbrev cL_mean : ByteArray := method_22_code
def yL_mean : MethodName := ⟨RL, "mean", "(LAmplifierDesk;ZI[I[I[J)Z"⟩
abbrev cL_ahead : ByteArray := method_23_code
def yL_ahead : MethodName := ⟨RL, "ahead", "(LAmplifierDesk;I[I[I)Z"⟩
abbrev cL_put : ByteArray := method_24_code
def yL_put : MethodName := ⟨RL, "put", "(IIII[I[I)V"⟩
abbrev cL_type : ByteArray := method_25_code
def yL_type : MethodName := ⟨RL, "type", "(LAmplifierDesk;I[II)I"⟩
abbrev cL_load : ByteArray := method_26_code
def yL_load : MethodName := ⟨RL, "load", "(LAmplifierDesk;II[I[I[J[J)Z"⟩
abbrev cL_stage : ByteArray := method_27_code
def yL_stage : MethodName := ⟨RL, "stage", "(LAmplifierDesk;I[I[I[J[J)Z"⟩
abbrev cL_act : ByteArray := method_28_code
def yL_act : MethodName := ⟨RL, "act", "(LAmplifierDesk;III[I[I[J[J)Z"⟩
abbrev cL_law : ByteArray := code
def yL_law : MethodName := ⟨RL, "law", "([I)Z"⟩
abbrev vwCl : List vw_C := [(RX0, TX0, 8), (RX1, TX1, 3), (RX2, TX2, 5), (RX3, TX3, 3), (RX4, TX4, 4), (RX5, TX5, 9), (RX6, TX6, 6)]
