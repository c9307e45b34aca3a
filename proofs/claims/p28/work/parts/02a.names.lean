/-! ===== BEGIN printed: names, fields, word lists, decode rows ===== -/
def RX0 : String := "FalsePan$History"
def TX0 : u_T := fun k => match k with
  | 0 => ("FalsePan$History", "ring", "[LFalsePan$Table;", true)
  | 1 => ("FalsePan$History", "next", "I", false)
  | _ => ("FalsePan$History", "count", "I", false)
def tyX0 : Nat → FieldType := fun k => match k with
  | 0 => .array (.object "FalsePan$Table")
  | 1 => .int
  | _ => .int
theorem nmX0 : ∀ a, a < 3 → ∀ b, b < 3 → a ≠ b → (TX0 a).2.1 ≠ (TX0 b).2.1 := by decide +kernel
theorem tyX0_ok : ∀ k, k < 3 → parseFieldDescriptor (TX0 k).2.2.1 = some (tyX0 k) := by decide +kernel
abbrev cX0_init : ByteArray := prog_2_method_1_code
def yX0_init : MethodName := ⟨RX0, "<init>", "()V"⟩
abbrev cX0_clear : ByteArray := prog_2_method_2_code
def yX0_clear : MethodName := ⟨RX0, "clear", "()V"⟩
abbrev cX0_remember : ByteArray := prog_2_method_3_code
def yX0_remember : MethodName := ⟨RX0, "remember", "(LFalsePan$Table;)V"⟩
abbrev cX0_takeBack : ByteArray := prog_2_method_4_code
def yX0_takeBack : MethodName := ⟨RX0, "takeBack", "(LFalsePan$Table;)V"⟩
abbrev cX0_placeAt : ByteArray := prog_2_method_5_code
def yX0_placeAt : MethodName := ⟨RX0, "placeAt", "(I)LFalsePan$Table;"⟩
def RX1 : String := "FalsePan$Scale"
def TX1 : u_T := fun k => match k with
  | 0 => ("FalsePan$Scale", "left", "I", false)
  | 1 => ("FalsePan$Scale", "right", "I", false)
  | 2 => ("FalsePan$Scale", "leftArm", "I", false)
  | 3 => ("FalsePan$Scale", "rightArm", "I", false)
  | 4 => ("FalsePan$Scale", "leftTrueWeight", "I", false)
  | _ => ("FalsePan$Scale", "rightTrueWeight", "I", false)
def tyX1 : Nat → FieldType := fun k => match k with
  | 0 => .int
  | 1 => .int
  | 2 => .int
  | 3 => .int
  | 4 => .int
  | _ => .int
theorem nmX1 : ∀ a, a < 6 → ∀ b, b < 6 → a ≠ b → (TX1 a).2.1 ≠ (TX1 b).2.1 := by decide +kernel
theorem tyX1_ok : ∀ k, k < 6 → parseFieldDescriptor (TX1 k).2.2.1 = some (tyX1 k) := by decide +kernel
abbrev cX1_init : ByteArray := prog_3_method_1_code
def yX1_init : MethodName := ⟨RX1, "<init>", "()V"⟩
abbrev cX1_set : ByteArray := prog_3_method_2_code
def yX1_set : MethodName := ⟨RX1, "set", "(IIII)V"⟩
abbrev cX1_outcome : ByteArray := prog_3_method_3_code
def yX1_outcome : MethodName := ⟨RX1, "outcome", "(III)I"⟩
abbrev cX1_outcomeInCase : ByteArray := prog_3_method_4_code
def yX1_outcomeInCase : MethodName := ⟨RX1, "outcomeInCase", "(I)I"⟩
def RX2 : String := "FalsePan$Slot"
def TX2 : u_T := fun k => match k with
  | 0 => ("FalsePan$Slot", "saved", "LFalsePan$Table;", true)
  | _ => ("FalsePan$Slot", "filled", "Z", false)
def tyX2 : Nat → FieldType := fun k => match k with
  | 0 => .object "FalsePan$Table"
  | _ => .boolean
theorem nmX2 : ∀ a, a < 2 → ∀ b, b < 2 → a ≠ b → (TX2 a).2.1 ≠ (TX2 b).2.1 := by decide +kernel
theorem tyX2_ok : ∀ k, k < 2 → parseFieldDescriptor (TX2 k).2.2.1 = some (tyX2 k) := by decide +kernel
abbrev cX2_init : ByteArray := prog_4_method_1_code
def yX2_init : MethodName := ⟨RX2, "<init>", "()V"⟩
def RX3 : String := "FalsePan$Suspects"
def TX3 : u_T := fun k => match k with
  | _ => ("FalsePan$Suspects", "sets", "[I", true)
def tyX3 : Nat → FieldType := fun k => match k with
  | _ => .array .int
theorem nmX3 : ∀ a, a < 1 → ∀ b, b < 1 → a ≠ b → (TX3 a).2.1 ≠ (TX3 b).2.1 := by decide +kernel
theorem tyX3_ok : ∀ k, k < 1 → parseFieldDescriptor (TX3 k).2.2.1 = some (tyX3 k) := by decide +kernel
abbrev cX3_init : ByteArray := prog_5_method_1_code
def yX3_init : MethodName := ⟨RX3, "<init>", "()V"⟩
abbrev cX3_copyFrom : ByteArray := prog_5_method_2_code
def yX3_copyFrom : MethodName := ⟨RX3, "copyFrom", "(LFalsePan$Suspects;)V"⟩
abbrev cX3_suspectAll : ByteArray := prog_5_method_3_code
def yX3_suspectAll : MethodName := ⟨RX3, "suspectAll", "(I)V"⟩
abbrev cX3_has : ByteArray := prog_5_method_4_code
def yX3_has : MethodName := ⟨RX3, "has", "(I)Z"⟩
abbrev cX3_count : ByteArray := prog_5_method_5_code
def yX3_count : MethodName := ⟨RX3, "count", "()I"⟩
abbrev cX3_coinMayBe : ByteArray := prog_5_method_6_code
def yX3_coinMayBe : MethodName := ⟨RX3, "coinMayBe", "(I)I"⟩
abbrev cX3_pansMayBe : ByteArray := prog_5_method_7_code
def yX3_pansMayBe : MethodName := ⟨RX3, "pansMayBe", "()I"⟩
abbrev cX3_keep : ByteArray := prog_5_method_8_code
def yX3_keep : MethodName := ⟨RX3, "keep", "(LFalsePan$Scale;I)V"⟩
abbrev cX3_sort : ByteArray := prog_5_method_9_code
def yX3_sort : MethodName := ⟨RX3, "sort", "(LFalsePan$Scale;LFalsePan$Tally;)V"⟩
def RX4 : String := "FalsePan$Table"
def TX4 : u_T := fun k => match k with
  | 0 => ("FalsePan$Table", "coins", "I", false)
  | 1 => ("FalsePan$Table", "hidden", "I", false)
  | 2 => ("FalsePan$Table", "leftArm", "I", false)
  | 3 => ("FalsePan$Table", "rightArm", "I", false)
  | 4 => ("FalsePan$Table", "rightly", "I", false)
  | 5 => ("FalsePan$Table", "wrongly", "I", false)
  | 6 => ("FalsePan$Table", "weighings", "I", false)
  | 7 => ("FalsePan$Table", "record", "[I", true)
  | 8 => ("FalsePan$Table", "suspects", "LFalsePan$Suspects;", true)
  | _ => ("FalsePan$Table", "scale", "LFalsePan$Scale;", true)
def tyX4 : Nat → FieldType := fun k => match k with
  | 0 => .int
  | 1 => .int
  | 2 => .int
  | 3 => .int
  | 4 => .int
  | 5 => .int
  | 6 => .int
  | 7 => .array .int
  | 8 => .object "FalsePan$Suspects"
  | _ => .object "FalsePan$Scale"
theorem nmX4 : ∀ a, a < 10 → ∀ b, b < 10 → a ≠ b → (TX4 a).2.1 ≠ (TX4 b).2.1 := by decide +kernel
theorem tyX4_ok : ∀ k, k < 10 → parseFieldDescriptor (TX4 k).2.2.1 = some (tyX4 k) := by decide +kernel
abbrev cX4_init : ByteArray := prog_6_method_1_code
def yX4_init : MethodName := ⟨RX4, "<init>", "()V"⟩
abbrev cX4_reset : ByteArray := prog_6_method_2_code
def yX4_reset : MethodName := ⟨RX4, "reset", "()V"⟩
abbrev cX4_copyFrom : ByteArray := prog_6_method_3_code
def yX4_copyFrom : MethodName := ⟨RX4, "copyFrom", "(LFalsePan$Table;)V"⟩
abbrev cX4_layOut : ByteArray := prog_6_method_4_code
def yX4_layOut : MethodName := ⟨RX4, "layOut", "(II)V"⟩
abbrev cX4_allCases : ByteArray := prog_6_method_5_code
def yX4_allCases : MethodName := ⟨RX4, "allCases", "()I"⟩
abbrev cX4_hasCoin : ByteArray := prog_6_method_6_code
def yX4_hasCoin : MethodName := ⟨RX4, "hasCoin", "(I)Z"⟩
abbrev cX4_isFull : ByteArray := prog_6_method_7_code
def yX4_isFull : MethodName := ⟨RX4, "isFull", "()Z"⟩
abbrev cX4_canWeigh : ByteArray := prog_6_method_8_code
def yX4_canWeigh : MethodName := ⟨RX4, "canWeigh", "(II)Z"⟩
abbrev cX4_tryArms : ByteArray := prog_6_method_9_code
def yX4_tryArms : MethodName := ⟨RX4, "tryArms", "(II)Z"⟩
abbrev cX4_tryWeighing : ByteArray := prog_6_method_10_code
def yX4_tryWeighing : MethodName := ⟨RX4, "tryWeighing", "(II)Z"⟩
abbrev cX4_lastOutcome : ByteArray := prog_6_method_11_code
def yX4_lastOutcome : MethodName := ⟨RX4, "lastOutcome", "()I"⟩
abbrev cX4_tryForgetting : ByteArray := prog_6_method_12_code
def yX4_tryForgetting : MethodName := ⟨RX4, "tryForgetting", "()Z"⟩
abbrev cX4_blameCoin : ByteArray := prog_6_method_13_code
def yX4_blameCoin : MethodName := ⟨RX4, "blameCoin", "(IZ)Z"⟩
abbrev cX4_blamePan : ByteArray := prog_6_method_14_code
def yX4_blamePan : MethodName := ⟨RX4, "blamePan", "(I)Z"⟩
abbrev cX4_noteBlame : ByteArray := prog_6_method_15_code
def yX4_noteBlame : MethodName := ⟨RX4, "noteBlame", "(Z)Z"⟩
abbrev cX4_idleWeighings : ByteArray := prog_6_method_16_code
def yX4_idleWeighings : MethodName := ⟨RX4, "idleWeighings", "()I"⟩
abbrev cX4_foresee : ByteArray := prog_6_method_17_code
def yX4_foresee : MethodName := ⟨RX4, "foresee", "(IILFalsePan$Tally;)V"⟩
abbrev cX4_foreseeWith : ByteArray := prog_6_method_18_code
def yX4_foreseeWith : MethodName := ⟨RX4, "foreseeWith", "(IIIILFalsePan$Tally;)V"⟩
abbrev cX4_kept : ByteArray := prog_6_method_19_code
def yX4_kept : MethodName := ⟨RX4, "kept", "(II)I"⟩
abbrev cX4_write : ByteArray := prog_6_method_20_code
def yX4_write : MethodName := ⟨RX4, "write", "(III)V"⟩
def RX5 : String := "FalsePan$Tally"
def TX5 : u_T := fun k => match k with
  | 0 => ("FalsePan$Tally", "level", "I", false)
  | 1 => ("FalsePan$Tally", "leftSinks", "I", false)
  | _ => ("FalsePan$Tally", "rightSinks", "I", false)
def tyX5 : Nat → FieldType := fun k => match k with
  | 0 => .int
  | 1 => .int
  | _ => .int
theorem nmX5 : ∀ a, a < 3 → ∀ b, b < 3 → a ≠ b → (TX5 a).2.1 ≠ (TX5 b).2.1 := by decide +kernel
theorem tyX5_ok : ∀ k, k < 3 → parseFieldDescriptor (TX5 k).2.2.1 = some (tyX5 k) := by decide +kernel
abbrev cX5_init : ByteArray := prog_7_method_1_code
def yX5_init : MethodName := ⟨RX5, "<init>", "()V"⟩
abbrev cX5_clear : ByteArray := prog_7_method_2_code
def yX5_clear : MethodName := ⟨RX5, "clear", "()V"⟩
abbrev cX5_add : ByteArray := prog_7_method_3_code
def yX5_add : MethodName := ⟨RX5, "add", "(II)V"⟩
abbrev cX5_of : ByteArray := prog_7_method_4_code
def yX5_of : MethodName := ⟨RX5, "of", "(I)I"⟩
abbrev cX5_worst : ByteArray := prog_7_method_5_code
def yX5_worst : MethodName := ⟨RX5, "worst", "()I"⟩
abbrev cX5_unlikePairs : ByteArray := prog_7_method_6_code
def yX5_unlikePairs : MethodName := ⟨RX5, "unlikePairs", "()I"⟩
def RX6 : String := "FalsePan$Text"
def TX6 : u_T := fun k => match k with
  | 0 => ("FalsePan$Text", "signs", "[C", true)
  | 1 => ("FalsePan$Text", "length", "I", false)
  | 2 => ("FalsePan$Text", "at", "I", false)
  | 3 => ("FalsePan$Text", "wrong", "Z", false)
  | 4 => ("FalsePan$Text", "coins", "I", false)
  | 5 => ("FalsePan$Text", "hidden", "I", false)
  | 6 => ("FalsePan$Text", "command", "I", false)
  | 7 => ("FalsePan$Text", "first", "I", false)
  | _ => ("FalsePan$Text", "second", "I", false)
def tyX6 : Nat → FieldType := fun k => match k with
  | 0 => .array .char
  | 1 => .int
  | 2 => .int
  | 3 => .boolean
  | 4 => .int
  | 5 => .int
  | 6 => .int
  | 7 => .int
  | _ => .int
theorem nmX6 : ∀ a, a < 9 → ∀ b, b < 9 → a ≠ b → (TX6 a).2.1 ≠ (TX6 b).2.1 := by decide +kernel
theorem tyX6_ok : ∀ k, k < 9 → parseFieldDescriptor (TX6 k).2.2.1 = some (tyX6 k) := by decide +kernel
abbrev cX6_init : ByteArray := prog_8_method_1_code
def yX6_init : MethodName := ⟨RX6, "<init>", "()V"⟩
abbrev cX6_add : ByteArray := prog_8_method_2_code
def yX6_add : MethodName := ⟨RX6, "add", "(C)V"⟩
abbrev cX6_hasMore : ByteArray := prog_8_method_3_code
def yX6_hasMore : MethodName := ⟨RX6, "hasMore", "()Z"⟩
abbrev cX6_readHead : ByteArray := prog_8_method_4_code
def yX6_readHead : MethodName := ⟨RX6, "readHead", "()V"⟩
abbrev cX6_readCommand : ByteArray := prog_8_method_5_code
def yX6_readCommand : MethodName := ⟨RX6, "readCommand", "()V"⟩
abbrev cX6_nextSign : ByteArray := prog_8_method_6_code
def yX6_nextSign : MethodName := ⟨RX6, "nextSign", "()I"⟩
abbrev cX6_readOneOf : ByteArray := prog_8_method_7_code
def yX6_readOneOf : MethodName := ⟨RX6, "readOneOf", "(Ljava/lang/String;)I"⟩
abbrev cX6_readDigit : ByteArray := prog_8_method_8_code
def yX6_readDigit : MethodName := ⟨RX6, "readDigit", "(II)I"⟩
abbrev cX6_readNumber : ByteArray := prog_8_method_9_code
def yX6_readNumber : MethodName := ⟨RX6, "readNumber", "(II)I"⟩
abbrev cX6_readCoins : ByteArray := prog_8_method_10_code
def yX6_readCoins : MethodName := ⟨RX6, "readCoins", "()I"⟩
def RX7 : String := "FalsePan"
def TX7 : u_T := fun k => match k with
  | 0 => ("FalsePan", "text", "LFalsePan$Text;", true)
  | 1 => ("FalsePan", "table", "LFalsePan$Table;", true)
  | 2 => ("FalsePan", "trial", "LFalsePan$Table;", true)
  | 3 => ("FalsePan", "history", "LFalsePan$History;", true)
  | 4 => ("FalsePan", "firstSlot", "LFalsePan$Slot;", true)
  | 5 => ("FalsePan", "secondSlot", "LFalsePan$Slot;", true)
  | 6 => ("FalsePan", "tally", "LFalsePan$Tally;", true)
  | 7 => ("FalsePan", "singles", "[I", true)
  | _ => ("FalsePan", "pairs", "[I", true)
def tyX7 : Nat → FieldType := fun k => match k with
  | 0 => .object "FalsePan$Text"
  | 1 => .object "FalsePan$Table"
  | 2 => .object "FalsePan$Table"
  | 3 => .object "FalsePan$History"
  | 4 => .object "FalsePan$Slot"
  | 5 => .object "FalsePan$Slot"
  | 6 => .object "FalsePan$Tally"
  | 7 => .array .int
  | _ => .array .int
theorem nmX7 : ∀ a, a < 9 → ∀ b, b < 9 → a ≠ b → (TX7 a).2.1 ≠ (TX7 b).2.1 := by decide +kernel
theorem tyX7_ok : ∀ k, k < 9 → parseFieldDescriptor (TX7 k).2.2.1 = some (tyX7 k) := by decide +kernel
abbrev cX7_init : ByteArray := prog_1_method_1_code
def yX7_init : MethodName := ⟨RX7, "<init>", "()V"⟩
abbrev cX7_append : ByteArray := prog_1_method_2_code
def yX7_append : MethodName := ⟨RX7, "append", "(I)I"⟩
abbrev cX7_errorPosition : ByteArray := prog_1_method_4_code
def yX7_errorPosition : MethodName := ⟨RX7, "errorPosition", "()I"⟩
abbrev cX7_load : ByteArray := prog_1_method_5_code
def yX7_load : MethodName := ⟨RX7, "load", "()I"⟩
abbrev cX7_obeyText : ByteArray := prog_1_method_6_code
def yX7_obeyText : MethodName := ⟨RX7, "obeyText", "()Z"⟩
abbrev cX7_about : ByteArray := prog_1_method_7_code
def yX7_about : MethodName := ⟨RX7, "about", "(I)I"⟩
abbrev cX7_coin : ByteArray := prog_1_method_8_code
def yX7_coin : MethodName := ⟨RX7, "coin", "(I)I"⟩
abbrev cX7_pans : ByteArray := prog_1_method_9_code
def yX7_pans : MethodName := ⟨RX7, "pans", "()I"⟩
abbrev cX7_isLeft : ByteArray := prog_1_method_10_code
def yX7_isLeft : MethodName := ⟨RX7, "isLeft", "(I)I"⟩
abbrev cX7_weighing : ByteArray := prog_1_method_11_code
def yX7_weighing : MethodName := ⟨RX7, "weighing", "(II)I"⟩
abbrev cX7_hide : ByteArray := prog_1_method_12_code
def yX7_hide : MethodName := ⟨RX7, "hide", "(II)I"⟩
abbrev cX7_arms : ByteArray := prog_1_method_13_code
def yX7_arms : MethodName := ⟨RX7, "arms", "(II)I"⟩
abbrev cX7_weigh : ByteArray := prog_1_method_14_code
def yX7_weigh : MethodName := ⟨RX7, "weigh", "(II)I"⟩
abbrev cX7_accuse : ByteArray := prog_1_method_15_code
def yX7_accuse : MethodName := ⟨RX7, "accuse", "(IZ)I"⟩
abbrev cX7_accusePan : ByteArray := prog_1_method_16_code
def yX7_accusePan : MethodName := ⟨RX7, "accusePan", "(I)I"⟩
abbrev cX7_forget : ByteArray := prog_1_method_17_code
def yX7_forget : MethodName := ⟨RX7, "forget", "()I"⟩
abbrev cX7_undo : ByteArray := prog_1_method_18_code
def yX7_undo : MethodName := ⟨RX7, "undo", "()I"⟩
abbrev cX7_leaves : ByteArray := prog_1_method_19_code
def yX7_leaves : MethodName := ⟨RX7, "leaves", "(III)I"⟩
abbrev cX7_best : ByteArray := prog_1_method_20_code
def yX7_best : MethodName := ⟨RX7, "best", "(II)I"⟩
abbrev cX7_sharpest : ByteArray := prog_1_method_21_code
def yX7_sharpest : MethodName := ⟨RX7, "sharpest", "()I"⟩
abbrev cX7_needs : ByteArray := prog_1_method_22_code
def yX7_needs : MethodName := ⟨RX7, "needs", "()I"⟩
abbrev cX7_bestArms : ByteArray := prog_1_method_23_code
def yX7_bestArms : MethodName := ⟨RX7, "bestArms", "(II)I"⟩
abbrev cX7_runScript : ByteArray := prog_1_method_24_code
def yX7_runScript : MethodName := ⟨RX7, "runScript", "(IJ)I"⟩
abbrev cX7_simulate : ByteArray := prog_1_method_25_code
def yX7_simulate : MethodName := ⟨RX7, "simulate", "(JI)I"⟩
abbrev cX7_save : ByteArray := prog_1_method_26_code
def yX7_save : MethodName := ⟨RX7, "save", "(I)I"⟩
abbrev cX7_restore : ByteArray := prog_1_method_27_code
def yX7_restore : MethodName := ⟨RX7, "restore", "(I)I"⟩
abbrev cX7_refuseBadSets : ByteArray := prog_1_method_28_code
def yX7_refuseBadSets : MethodName := ⟨RX7, "refuseBadSets", "(II)V"⟩
abbrev cX7_obeyGroup : ByteArray := prog_1_method_29_code
def yX7_obeyGroup : MethodName := ⟨RX7, "obeyGroup", "(I)Z"⟩
abbrev cX7_tryCoins : ByteArray := prog_1_method_30_code
def yX7_tryCoins : MethodName := ⟨RX7, "tryCoins", "(II)Z"⟩
abbrev cX7_takeTurn : ByteArray := prog_1_method_31_code
def yX7_takeTurn : MethodName := ⟨RX7, "takeTurn", "(I)V"⟩
abbrev cX7_withoutGroups : ByteArray := prog_1_method_32_code
def yX7_withoutGroups : MethodName := ⟨RX7, "withoutGroups", "(JI)J"⟩
abbrev cX7_weighingsFor : ByteArray := prog_1_method_33_code
def yX7_weighingsFor : MethodName := ⟨RX7, "weighingsFor", "(I)I"⟩
abbrev cX7_casesOf : ByteArray := prog_1_method_34_code
def yX7_casesOf : MethodName := ⟨RX7, "casesOf", "(I)I"⟩
abbrev cX7_isArm : ByteArray := prog_1_method_35_code
def yX7_isArm : MethodName := ⟨RX7, "isArm", "(I)Z"⟩
abbrev cX7_isPan : ByteArray := prog_1_method_36_code
def yX7_isPan : MethodName := ⟨RX7, "isPan", "(I)Z"⟩
abbrev cX7_setsOfOne : ByteArray := prog_1_method_37_code
def yX7_setsOfOne : MethodName := ⟨RX7, "setsOfOne", "()[I"⟩
abbrev cX7_setsOfTwo : ByteArray := prog_1_method_38_code
def yX7_setsOfTwo : MethodName := ⟨RX7, "setsOfTwo", "()[I"⟩
def RX8 : String := "FalsePanModel"
def TX8 : u_T := fun k => match k with
  | _ => ("", "", "", false)
def tyX8 : Nat → FieldType := fun k => match k with
  | _ => .int
theorem nmX8 : ∀ a, a < 0 → ∀ b, b < 0 → a ≠ b → (TX8 a).2.1 ≠ (TX8 b).2.1 := by decide +kernel
theorem tyX8_ok : ∀ k, k < 0 → parseFieldDescriptor (TX8 k).2.2.1 = some (tyX8 k) := by decide +kernel
def RJ11 : String := "java/lang/Character"
def TJ11 : u_T := fun k => match k with
  | _ => ("", "", "", false)
def tyJ11 : Nat → FieldType := fun k => match k with
  | _ => .int
theorem nmJ11 : ∀ a, a < 0 → ∀ b, b < 0 → a ≠ b → (TJ11 a).2.1 ≠ (TJ11 b).2.1 := by decide +kernel
theorem tyJ11_ok : ∀ k, k < 0 → parseFieldDescriptor (TJ11 k).2.2.1 = some (tyJ11 k) := by decide +kernel
abbrev cJ11_isValidCodePoint_9a6ad : ByteArray := prog_11_method_11_code
def yJ11_isValidCodePoint_9a6ad : MethodName := ⟨RJ11, "isValidCodePoint", "(I)Z"⟩
abbrev cJ11_highSurrogate_5068e : ByteArray := prog_11_method_28_code
def yJ11_highSurrogate_5068e : MethodName := ⟨RJ11, "highSurrogate", "(I)C"⟩
abbrev cJ11_lowSurrogate_5068e : ByteArray := prog_11_method_29_code
def yJ11_lowSurrogate_5068e : MethodName := ⟨RJ11, "lowSurrogate", "(I)C"⟩
def RJ6 : String := "java/lang/Integer"
def TJ6 : u_T := fun k => match k with
  | _ => ("", "", "", false)
def tyJ6 : Nat → FieldType := fun k => match k with
  | _ => .int
theorem nmJ6 : ∀ a, a < 0 → ∀ b, b < 0 → a ≠ b → (TJ6 a).2.1 ≠ (TJ6 b).2.1 := by decide +kernel
theorem tyJ6_ok : ∀ k, k < 0 → parseFieldDescriptor (TJ6 k).2.2.1 = some (tyJ6 k) := by decide +kernel
abbrev cJ6_bitCount_0f7a4 : ByteArray := prog_16_method_49_code
def yJ6_bitCount_0f7a4 : MethodName := ⟨RJ6, "bitCount", "(I)I"⟩
def RJ9 : String := "java/lang/Math"
def TJ9 : u_T := fun k => match k with
  | _ => ("", "", "", false)
def tyJ9 : Nat → FieldType := fun k => match k with
  | _ => .int
theorem nmJ9 : ∀ a, a < 0 → ∀ b, b < 0 → a ≠ b → (TJ9 a).2.1 ≠ (TJ9 b).2.1 := by decide +kernel
theorem tyJ9_ok : ∀ k, k < 0 → parseFieldDescriptor (TJ9 k).2.2.1 = some (tyJ9 k) := by decide +kernel
abbrev cJ9_max_7cf53 : ByteArray := prog_17_method_65_code
def yJ9_max_7cf53 : MethodName := ⟨RJ9, "max", "(II)I"⟩
abbrev cJ9_min_7cf53 : ByteArray := prog_17_method_69_code
def yJ9_min_7cf53 : MethodName := ⟨RJ9, "min", "(II)I"⟩
def RJ0 : String := "java/lang/String"
def TJ0 : u_T := fun k => match k with
  | _ => ("", "", "", false)
def tyJ0 : Nat → FieldType := fun k => match k with
  | _ => .int
theorem nmJ0 : ∀ a, a < 0 → ∀ b, b < 0 → a ≠ b → (TJ0 a).2.1 ≠ (TJ0 b).2.1 := by decide +kernel
theorem tyJ0_ok : ∀ k, k < 0 → parseFieldDescriptor (TJ0 k).2.2.1 = some (tyJ0 k) := by decide +kernel
abbrev cJ0_length_8abf5 : ByteArray := prog_19_method_54_code
def yJ0_length_8abf5 : MethodName := ⟨RJ0, "length", "()I"⟩
abbrev cJ0_indexOf_0f7a4 : ByteArray := prog_19_method_79_code
def yJ0_indexOf_0f7a4 : MethodName := ⟨RJ0, "indexOf", "(I)I"⟩
abbrev cJ0_indexOf_7cf53 : ByteArray := prog_19_method_80_code
def yJ0_indexOf_7cf53 : MethodName := ⟨RJ0, "indexOf", "(II)I"⟩
abbrev cJ0_coder_7d493 : ByteArray := prog_19_method_152_code
def yJ0_coder_7d493 : MethodName := ⟨RJ0, "coder", "()B"⟩
abbrev cJ0_isLatin1_aae02 : ByteArray := prog_19_method_154_code
def yJ0_isLatin1_aae02 : MethodName := ⟨RJ0, "isLatin1", "()Z"⟩
abbrev cJ0_checkBoundsBeginEnd_23922 : ByteArray := prog_19_method_158_code
def yJ0_checkBoundsBeginEnd_23922 : MethodName := ⟨RJ0, "checkBoundsBeginEnd", "(III)V"⟩
def RJ1 : String := "java/lang/StringLatin1"
def TJ1 : u_T := fun k => match k with
  | _ => ("", "", "", false)
def tyJ1 : Nat → FieldType := fun k => match k with
  | _ => .int
theorem nmJ1 : ∀ a, a < 0 → ∀ b, b < 0 → a ≠ b → (TJ1 a).2.1 ≠ (TJ1 b).2.1 := by decide +kernel
theorem tyJ1_ok : ∀ k, k < 0 → parseFieldDescriptor (TJ1 k).2.2.1 = some (tyJ1 k) := by decide +kernel
abbrev cJ1_canEncode_9a6ad : ByteArray := prog_20_method_4_code
def yJ1_canEncode_9a6ad : MethodName := ⟨RJ1, "canEncode", "(I)Z"⟩
abbrev cJ1_indexOf_4cfef : ByteArray := prog_20_method_22_code
def yJ1_indexOf_4cfef : MethodName := ⟨RJ1, "indexOf", "([BIII)I"⟩
abbrev cJ1_indexOfChar_4cfef : ByteArray := prog_20_method_23_code
def yJ1_indexOfChar_4cfef : MethodName := ⟨RJ1, "indexOfChar", "([BIII)I"⟩
def RJ2 : String := "java/lang/StringUTF16"
def TJ2 : u_T := fun k => match k with
  | _ => ("", "", "", false)
def tyJ2 : Nat → FieldType := fun k => match k with
  | _ => .int
theorem nmJ2 : ∀ a, a < 0 → ∀ b, b < 0 → a ≠ b → (TJ2 a).2.1 ≠ (TJ2 b).2.1 := by decide +kernel
theorem tyJ2_ok : ∀ k, k < 0 → parseFieldDescriptor (TJ2 k).2.2.1 = some (tyJ2 k) := by decide +kernel
abbrev cJ2_getChar_3b067 : ByteArray := prog_21_method_5_code
def yJ2_getChar_3b067 : MethodName := ⟨RJ2, "getChar", "([BI)C"⟩
abbrev cJ2_length_9d52b : ByteArray := prog_21_method_6_code
def yJ2_length_9d52b : MethodName := ⟨RJ2, "length", "([B)I"⟩
abbrev cJ2_indexOf_4cfef : ByteArray := prog_21_method_40_code
def yJ2_indexOf_4cfef : MethodName := ⟨RJ2, "indexOf", "([BIII)I"⟩
abbrev cJ2_indexOfChar_4cfef : ByteArray := prog_21_method_47_code
def yJ2_indexOfChar_4cfef : MethodName := ⟨RJ2, "indexOfChar", "([BIII)I"⟩
abbrev cJ2_indexOfCharUnsafe_4cfef : ByteArray := prog_21_method_48_code
def yJ2_indexOfCharUnsafe_4cfef : MethodName := ⟨RJ2, "indexOfCharUnsafe", "([BIII)I"⟩
abbrev cJ2_indexOfSupplementary_4cfef : ByteArray := prog_21_method_49_code
def yJ2_indexOfSupplementary_4cfef : MethodName := ⟨RJ2, "indexOfSupplementary", "([BIII)I"⟩
abbrev cJ2_checkBoundsBeginEnd_d044e : ByteArray := prog_21_method_93_code
def yJ2_checkBoundsBeginEnd_d044e : MethodName := ⟨RJ2, "checkBoundsBeginEnd", "(II[B)V"⟩
def RJ3 : String := "jdk/internal/util/Preconditions"
def TJ3 : u_T := fun k => match k with
  | _ => ("", "", "", false)
def tyJ3 : Nat → FieldType := fun k => match k with
  | _ => .int
theorem nmJ3 : ∀ a, a < 0 → ∀ b, b < 0 → a ≠ b → (TJ3 a).2.1 ≠ (TJ3 b).2.1 := by decide +kernel
theorem tyJ3_ok : ∀ k, k < 0 → parseFieldDescriptor (TJ3 k).2.2.1 = some (tyJ3 k) := by decide +kernel
abbrev cJ3_checkFromToIndex_8c36e : ByteArray := prog_23_method_12_code
def yJ3_checkFromToIndex_8c36e : MethodName := ⟨RJ3, "checkFromToIndex", "(IIILjava/util/function/BiFunction;)I"⟩
def RL : String := "FalsePanLaw"
abbrev cL_accuses : ByteArray := method_2_code
def yL_accuses : MethodName := ⟨RL, "accuses", "(LFalsePan;IZ)I"⟩
abbrev cL_doScript : ByteArray := method_3_code
def yL_doScript : MethodName := ⟨RL, "doScript", "(LFalsePan;IJ)I"⟩
abbrev cL_doSimulate : ByteArray := method_4_code
def yL_doSimulate : MethodName := ⟨RL, "doSimulate", "(LFalsePan;JI)I"⟩
abbrev cL_tryAppend : ByteArray := method_5_code
def yL_tryAppend : MethodName := ⟨RL, "tryAppend", "(LFalsePan;I)I"⟩
abbrev cL_tryLoad : ByteArray := method_6_code
def yL_tryLoad : MethodName := ⟨RL, "tryLoad", "(LFalsePan;)I"⟩
abbrev cL_tryAbout : ByteArray := method_7_code
def yL_tryAbout : MethodName := ⟨RL, "tryAbout", "(LFalsePan;I)I"⟩
abbrev cL_tryCoin : ByteArray := method_8_code
def yL_tryCoin : MethodName := ⟨RL, "tryCoin", "(LFalsePan;I)I"⟩
abbrev cL_tryIs : ByteArray := method_9_code
def yL_tryIs : MethodName := ⟨RL, "tryIs", "(LFalsePan;I)I"⟩
abbrev cL_tryTold : ByteArray := method_10_code
def yL_tryTold : MethodName := ⟨RL, "tryTold", "(LFalsePan;II)I"⟩
abbrev cL_tryHide : ByteArray := method_11_code
def yL_tryHide : MethodName := ⟨RL, "tryHide", "(LFalsePan;II)I"⟩
abbrev cL_tryArms : ByteArray := method_12_code
def yL_tryArms : MethodName := ⟨RL, "tryArms", "(LFalsePan;II)I"⟩
abbrev cL_tryWeigh : ByteArray := method_13_code
def yL_tryWeigh : MethodName := ⟨RL, "tryWeigh", "(LFalsePan;II)I"⟩
abbrev cL_tryPan : ByteArray := method_14_code
def yL_tryPan : MethodName := ⟨RL, "tryPan", "(LFalsePan;I)I"⟩
abbrev cL_tryForget : ByteArray := method_15_code
def yL_tryForget : MethodName := ⟨RL, "tryForget", "(LFalsePan;)I"⟩
abbrev cL_tryUndo : ByteArray := method_16_code
def yL_tryUndo : MethodName := ⟨RL, "tryUndo", "(LFalsePan;)I"⟩
abbrev cL_tryLeaves : ByteArray := method_17_code
def yL_tryLeaves : MethodName := ⟨RL, "tryLeaves", "(LFalsePan;III)I"⟩
abbrev cL_tryBest : ByteArray := method_18_code
def yL_tryBest : MethodName := ⟨RL, "tryBest", "(LFalsePan;II)I"⟩
abbrev cL_tryTry : ByteArray := method_19_code
def yL_tryTry : MethodName := ⟨RL, "tryTry", "(LFalsePan;II)I"⟩
abbrev cL_tryKeep : ByteArray := method_20_code
def yL_tryKeep : MethodName := ⟨RL, "tryKeep", "(LFalsePan;I)I"⟩
abbrev cL_tryBack : ByteArray := method_21_code
def yL_tryBack : MethodName := ⟨RL, "tryBack", "(LFalsePan;I)I"⟩
abbrev cL_call : ByteArray := method_22_code
def yL_call : MethodName := ⟨RL, "call", "(LFalsePan;IIII)I"⟩
abbrev cL_cell : ByteArray := method_23_code
def yL_cell : MethodName := ⟨RL, "cell", "([II)I"⟩
abbrev cL_thrown : ByteArray := method_24_code
def yL_thrown : MethodName := ⟨RL, "thrown", "(I)Z"⟩
abbrev cL_refuses : ByteArray := method_25_code
def yL_refuses : MethodName := ⟨RL, "refuses", "(LFalsePan;I)Z"⟩
abbrev cL_holds : ByteArray := method_26_code
def yL_holds : MethodName := ⟨RL, "holds", "(LFalsePan;I)Z"⟩
abbrev cL_most : ByteArray := method_27_code
def yL_most : MethodName := ⟨RL, "most", "(LFalsePan;II)I"⟩
abbrev cL_act : ByteArray := method_28_code
def yL_act : MethodName := ⟨RL, "act", "(LFalsePan;I)I"⟩
abbrev cL_alike : ByteArray := method_29_code
def yL_alike : MethodName := ⟨RL, "alike", "(LFalsePan;LFalsePan;I)Z"⟩
abbrev cL_law : ByteArray := code
def yL_law : MethodName := ⟨RL, "law", "([I)Z"⟩
abbrev cL_weighs : ByteArray := method_31_code
def yL_weighs : MethodName := ⟨RL, "weighs", "(LFalsePan;LFalsePan;II)Z"⟩
abbrev cL_arms : ByteArray := method_32_code
def yL_arms : MethodName := ⟨RL, "arms", "(LFalsePan;LFalsePan;III)Z"⟩
abbrev vwCl : List vw_C := [(RX0, TX0, 3), (RX1, TX1, 6), (RX2, TX2, 2), (RX3, TX3, 1), (RX4, TX4, 10), (RX5, TX5, 3), (RX6, TX6, 9), (RX7, TX7, 9)]
