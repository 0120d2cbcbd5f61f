/-! Names, classes, words: printed by wip/whole/gen_names.py -/
abbrev R_BS : String := "SpendScript$ByteString"
def F_BS : u_T := fun k => match k with
  | 0 => ("SpendScript$ByteString", "bytes", "[I", true)
  | _ => ("SpendScript$ByteString", "size", "I", false)
def t_BS : Nat → FieldType := fun k => match k with
  | 0 => .array .int
  | _ => .int
theorem nk_BS : ∀ a, a < 2 → ∀ b, b < 2 → a ≠ b → (F_BS a).2.1 ≠ (F_BS b).2.1 := by decide +kernel
theorem tk_BS : ∀ k, k < 2 → parseFieldDescriptor (F_BS k).2.2.1 = some (t_BS k) := by decide +kernel
abbrev R_IS : String := "SpendScript$ItemStack"
def F_IS : u_T := fun k => match k with
  | 0 => ("SpendScript$ItemStack", "rows", "[LSpendScript$ByteString;", true)
  | 1 => ("SpendScript$ItemStack", "nothing", "LSpendScript$ByteString;", true)
  | _ => ("SpendScript$ItemStack", "size", "I", false)
def t_IS : Nat → FieldType := fun k => match k with
  | 0 => .array (.object "SpendScript$ByteString")
  | 1 => .object "SpendScript$ByteString"
  | _ => .int
theorem nk_IS : ∀ a, a < 3 → ∀ b, b < 3 → a ≠ b → (F_IS a).2.1 ≠ (F_IS b).2.1 := by decide +kernel
theorem tk_IS : ∀ k, k < 3 → parseFieldDescriptor (F_IS k).2.2.1 = some (t_IS k) := by decide +kernel
abbrev R_ST : String := "SpendScript$SignatureTable"
def F_ST : u_T := fun k => match k with
  | 0 => ("SpendScript$SignatureTable", "signatures", "[I", true)
  | 1 => ("SpendScript$SignatureTable", "keys", "[I", true)
  | _ => ("SpendScript$SignatureTable", "count", "I", false)
def t_ST : Nat → FieldType := fun k => match k with
  | 0 => .array .int
  | 1 => .array .int
  | _ => .int
theorem nk_ST : ∀ a, a < 3 → ∀ b, b < 3 → a ≠ b → (F_ST a).2.1 ≠ (F_ST b).2.1 := by decide +kernel
theorem tk_ST : ∀ k, k < 3 → parseFieldDescriptor (F_ST k).2.2.1 = some (t_ST k) := by decide +kernel
abbrev R_BR : String := "SpendScript$Branches"
def F_BR : u_T := fun k => match k with
  | 0 => ("SpendScript$Branches", "active", "[Z", true)
  | _ => ("SpendScript$Branches", "open", "I", false)
def t_BR : Nat → FieldType := fun k => match k with
  | 0 => .array .boolean
  | _ => .int
theorem nk_BR : ∀ a, a < 2 → ∀ b, b < 2 → a ≠ b → (F_BR a).2.1 ≠ (F_BR b).2.1 := by decide +kernel
theorem tk_BR : ∀ k, k < 2 → parseFieldDescriptor (F_BR k).2.2.1 = some (t_BR k) := by decide +kernel
abbrev R_MC : String := "SpendScript$Machine"
def F_MC : u_T := fun k => match k with
  | 0 => ("SpendScript$Machine", "stack", "LSpendScript$ItemStack;", true)
  | 1 => ("SpendScript$Machine", "second", "LSpendScript$ItemStack;", true)
  | 2 => ("SpendScript$Machine", "branches", "LSpendScript$Branches;", true)
  | 3 => ("SpendScript$Machine", "operations", "LSpendScript$Operations;", true)
  | 4 => ("SpendScript$Machine", "met", "I", false)
  | 5 => ("SpendScript$Machine", "place", "I", false)
  | _ => ("SpendScript$Machine", "doneCount", "I", false)
def t_MC : Nat → FieldType := fun k => match k with
  | 0 => .object "SpendScript$ItemStack"
  | 1 => .object "SpendScript$ItemStack"
  | 2 => .object "SpendScript$Branches"
  | 3 => .object "SpendScript$Operations"
  | 4 => .int
  | 5 => .int
  | _ => .int
theorem nk_MC : ∀ a, a < 7 → ∀ b, b < 7 → a ≠ b → (F_MC a).2.1 ≠ (F_MC b).2.1 := by decide +kernel
theorem tk_MC : ∀ k, k < 7 → parseFieldDescriptor (F_MC k).2.2.1 = some (t_MC k) := by decide +kernel
abbrev R_OP : String := "SpendScript$Operations"
def F_OP : u_T := fun k => match k with
  | 0 => ("SpendScript$Operations", "stack", "LSpendScript$ItemStack;", true)
  | 1 => ("SpendScript$Operations", "second", "LSpendScript$ItemStack;", true)
  | _ => ("SpendScript$Operations", "table", "LSpendScript$SignatureTable;", true)
def t_OP : Nat → FieldType := fun k => match k with
  | 0 => .object "SpendScript$ItemStack"
  | 1 => .object "SpendScript$ItemStack"
  | _ => .object "SpendScript$SignatureTable"
theorem nk_OP : ∀ a, a < 3 → ∀ b, b < 3 → a ≠ b → (F_OP a).2.1 ≠ (F_OP b).2.1 := by decide +kernel
theorem tk_OP : ∀ k, k < 3 → parseFieldDescriptor (F_OP k).2.2.1 = some (t_OP k) := by decide +kernel
abbrev R_SS : String := "SpendScript"
def F_SS : u_T := fun k => match k with
  | 0 => ("SpendScript", "unlocking", "LSpendScript$ByteString;", true)
  | 1 => ("SpendScript", "locking", "LSpendScript$ByteString;", true)
  | 2 => ("SpendScript", "fromStack", "LSpendScript$ByteString;", true)
  | 3 => ("SpendScript", "table", "LSpendScript$SignatureTable;", true)
  | 4 => ("SpendScript", "stack", "LSpendScript$ItemStack;", true)
  | 5 => ("SpendScript", "leftByUnlocking", "LSpendScript$ItemStack;", true)
  | 6 => ("SpendScript", "machine", "LSpendScript$Machine;", true)
  | 7 => ("SpendScript", "latestFault", "I", false)
  | 8 => ("SpendScript", "latestScript", "I", false)
  | _ => ("SpendScript", "latestPlace", "I", false)
def t_SS : Nat → FieldType := fun k => match k with
  | 0 => .object "SpendScript$ByteString"
  | 1 => .object "SpendScript$ByteString"
  | 2 => .object "SpendScript$ByteString"
  | 3 => .object "SpendScript$SignatureTable"
  | 4 => .object "SpendScript$ItemStack"
  | 5 => .object "SpendScript$ItemStack"
  | 6 => .object "SpendScript$Machine"
  | 7 => .int
  | 8 => .int
  | _ => .int
theorem nk_SS : ∀ a, a < 10 → ∀ b, b < 10 → a ≠ b → (F_SS a).2.1 ≠ (F_SS b).2.1 := by decide +kernel
theorem tk_SS : ∀ k, k < 10 → parseFieldDescriptor (F_SS k).2.2.1 = some (t_SS k) := by decide +kernel
abbrev R_MD : String := "SpendScriptModel"
def F_MD : u_T := fun k => match k with
  | 0 => ("SpendScriptModel", "scripts", "[I", true)
  | 1 => ("SpendScriptModel", "sizes", "[I", true)
  | 2 => ("SpendScriptModel", "stack", "[I", true)
  | 3 => ("SpendScriptModel", "second", "[I", true)
  | 4 => ("SpendScriptModel", "kept", "[I", true)
  | 5 => ("SpendScriptModel", "n", "I", false)
  | 6 => ("SpendScriptModel", "s", "I", false)
  | 7 => ("SpendScriptModel", "active", "[Z", true)
  | 8 => ("SpendScriptModel", "open", "I", false)
  | 9 => ("SpendScriptModel", "met", "I", false)
  | 10 => ("SpendScriptModel", "next", "I", false)
  | 11 => ("SpendScriptModel", "tableSignature", "[I", true)
  | 12 => ("SpendScriptModel", "tableKey", "[I", true)
  | 13 => ("SpendScriptModel", "pairs", "I", false)
  | 14 => ("SpendScriptModel", "result", "I", false)
  | 15 => ("SpendScriptModel", "ended", "I", false)
  | 16 => ("SpendScriptModel", "place", "I", false)
  | 17 => ("SpendScriptModel", "done", "I", false)
  | _ => ("SpendScriptModel", "number", "[J", true)
def t_MD : Nat → FieldType := fun k => match k with
  | 0 => .array .int
  | 1 => .array .int
  | 2 => .array .int
  | 3 => .array .int
  | 4 => .array .int
  | 5 => .int
  | 6 => .int
  | 7 => .array .boolean
  | 8 => .int
  | 9 => .int
  | 10 => .int
  | 11 => .array .int
  | 12 => .array .int
  | 13 => .int
  | 14 => .int
  | 15 => .int
  | 16 => .int
  | 17 => .int
  | _ => .array .long
theorem nk_MD : ∀ a, a < 19 → ∀ b, b < 19 → a ≠ b → (F_MD a).2.1 ≠ (F_MD b).2.1 := by decide +kernel
theorem tk_MD : ∀ k, k < 19 → parseFieldDescriptor (F_MD k).2.2.1 = some (t_MD k) := by decide +kernel
abbrev b_SS_init : ByteArray := prog_1_method_1_code
def y_SS_init : MethodName := ⟨"SpendScript", "<init>", "()V"⟩
abbrev b_SS_feed : ByteArray := prog_1_method_2_code
def y_SS_feed : MethodName := ⟨"SpendScript", "feed", "(II)Z"⟩
abbrev b_SS_length : ByteArray := prog_1_method_3_code
def y_SS_length : MethodName := ⟨"SpendScript", "length", "(I)I"⟩
abbrev b_SS_clear : ByteArray := prog_1_method_4_code
def y_SS_clear : MethodName := ⟨"SpendScript", "clear", "(I)Z"⟩
abbrev b_SS_confirm : ByteArray := prog_1_method_5_code
def y_SS_confirm : MethodName := ⟨"SpendScript", "confirm", "(II)Z"⟩
abbrev b_SS_digest : ByteArray := prog_1_method_6_code
def y_SS_digest : MethodName := ⟨"SpendScript", "digest", "(III)I"⟩
abbrev b_SS_spend : ByteArray := prog_1_method_7_code
def y_SS_spend : MethodName := ⟨"SpendScript", "spend", "()I"⟩
abbrev b_SS_result : ByteArray := prog_1_method_8_code
def y_SS_result : MethodName := ⟨"SpendScript", "result", "()I"⟩
abbrev b_SS_ended : ByteArray := prog_1_method_9_code
def y_SS_ended : MethodName := ⟨"SpendScript", "ended", "()I"⟩
abbrev b_SS_faultAt : ByteArray := prog_1_method_10_code
def y_SS_faultAt : MethodName := ⟨"SpendScript", "faultAt", "()I"⟩
abbrev b_SS_done : ByteArray := prog_1_method_11_code
def y_SS_done : MethodName := ⟨"SpendScript", "done", "()I"⟩
abbrev b_SS_items : ByteArray := prog_1_method_12_code
def y_SS_items : MethodName := ⟨"SpendScript", "items", "()I"⟩
abbrev b_SS_itemLength : ByteArray := prog_1_method_13_code
def y_SS_itemLength : MethodName := ⟨"SpendScript", "itemLength", "(I)I"⟩
abbrev b_SS_itemByte : ByteArray := prog_1_method_14_code
def y_SS_itemByte : MethodName := ⟨"SpendScript", "itemByte", "(II)I"⟩
abbrev b_SS_isFed : ByteArray := prog_1_method_15_code
def y_SS_isFed : MethodName := ⟨"SpendScript", "isFed", "(I)Z"⟩
abbrev b_SS_scriptAt : ByteArray := prog_1_method_16_code
def y_SS_scriptAt : MethodName := ⟨"SpendScript", "scriptAt", "(I)LSpendScript$ByteString;"⟩
abbrev b_SS_truthFault : ByteArray := prog_1_method_17_code
def y_SS_truthFault : MethodName := ⟨"SpendScript", "truthFault", "()I"⟩
abbrev b_SS_takeScriptFromStack : ByteArray := prog_1_method_18_code
def y_SS_takeScriptFromStack : MethodName := ⟨"SpendScript", "takeScriptFromStack", "()V"⟩
abbrev b_SS_locksByDigest : ByteArray := prog_1_method_19_code
def y_SS_locksByDigest : MethodName := ⟨"SpendScript", "locksByDigest", "()Z"⟩
abbrev b_MD_init : ByteArray := prog_10_method_1_code
def y_MD_init : MethodName := ⟨"SpendScriptModel", "<init>", "()V"⟩
abbrev b_MD_isScript : ByteArray := prog_10_method_2_code
def y_MD_isScript : MethodName := ⟨"SpendScriptModel", "isScript", "(I)Z"⟩
abbrev b_MD_feed : ByteArray := prog_10_method_3_code
def y_MD_feed : MethodName := ⟨"SpendScriptModel", "feed", "(II)Z"⟩
abbrev b_MD_length : ByteArray := prog_10_method_4_code
def y_MD_length : MethodName := ⟨"SpendScriptModel", "length", "(I)I"⟩
abbrev b_MD_clear : ByteArray := prog_10_method_5_code
def y_MD_clear : MethodName := ⟨"SpendScriptModel", "clear", "(I)Z"⟩
abbrev b_MD_confirm : ByteArray := prog_10_method_6_code
def y_MD_confirm : MethodName := ⟨"SpendScriptModel", "confirm", "(II)Z"⟩
abbrev b_MD_digest : ByteArray := prog_10_method_7_code
def y_MD_digest : MethodName := ⟨"SpendScriptModel", "digest", "(III)I"⟩
abbrev b_MD_row : ByteArray := prog_10_method_8_code
def y_MD_row : MethodName := ⟨"SpendScriptModel", "row", "(I)I"⟩
abbrev b_MD_size : ByteArray := prog_10_method_9_code
def y_MD_size : MethodName := ⟨"SpendScriptModel", "size", "(I)I"⟩
abbrev b_MD_at : ByteArray := prog_10_method_10_code
def y_MD_at : MethodName := ⟨"SpendScriptModel", "at", "(II)I"⟩
abbrev b_MD_isTrue : ByteArray := prog_10_method_11_code
def y_MD_isTrue : MethodName := ⟨"SpendScriptModel", "isTrue", "(I)Z"⟩
abbrev b_MD_same : ByteArray := prog_10_method_12_code
def y_MD_same : MethodName := ⟨"SpendScriptModel", "same", "(II)Z"⟩
abbrev b_MD_hash : ByteArray := prog_10_method_13_code
def y_MD_hash : MethodName := ⟨"SpendScriptModel", "hash", "(I)I"⟩
abbrev b_MD_copy : ByteArray := prog_10_method_14_code
def y_MD_copy : MethodName := ⟨"SpendScriptModel", "copy", "([II[II)V"⟩
abbrev b_MD_again : ByteArray := prog_10_method_15_code
def y_MD_again : MethodName := ⟨"SpendScriptModel", "again", "(I)V"⟩
abbrev b_MD_remove : ByteArray := prog_10_method_16_code
def y_MD_remove : MethodName := ⟨"SpendScriptModel", "remove", "(I)V"⟩
abbrev b_MD_pop : ByteArray := prog_10_method_17_code
def y_MD_pop : MethodName := ⟨"SpendScriptModel", "pop", "(I)V"⟩
abbrev b_MD_pushNumber : ByteArray := prog_10_method_18_code
def y_MD_pushNumber : MethodName := ⟨"SpendScriptModel", "pushNumber", "(J)V"⟩
abbrev b_MD_full : ByteArray := prog_10_method_19_code
def y_MD_full : MethodName := ⟨"SpendScriptModel", "full", "(I)Z"⟩
abbrev b_MD_take : ByteArray := prog_10_method_20_code
def y_MD_take : MethodName := ⟨"SpendScriptModel", "take", "(I)I"⟩
abbrev b_MD_valueInto : ByteArray := prog_10_method_21_code
def y_MD_valueInto : MethodName := ⟨"SpendScriptModel", "valueInto", "(II)I"⟩
abbrev b_MD_wellFormed : ByteArray := prog_10_method_22_code
def y_MD_wellFormed : MethodName := ⟨"SpendScriptModel", "wellFormed", "(I)Z"⟩
abbrev b_MD_valid : ByteArray := prog_10_method_23_code
def y_MD_valid : MethodName := ⟨"SpendScriptModel", "valid", "(II)Z"⟩
abbrev b_MD_live : ByteArray := prog_10_method_24_code
def y_MD_live : MethodName := ⟨"SpendScriptModel", "live", "()Z"⟩
abbrev b_MD_run : ByteArray := prog_10_method_25_code
def y_MD_run : MethodName := ⟨"SpendScriptModel", "run", "(I)I"⟩
abbrev b_MD_push : ByteArray := prog_10_method_26_code
def y_MD_push : MethodName := ⟨"SpendScriptModel", "push", "(II)I"⟩
abbrev b_MD_known : ByteArray := prog_10_method_27_code
def y_MD_known : MethodName := ⟨"SpendScriptModel", "known", "(I)Z"⟩
abbrev b_MD_operate : ByteArray := prog_10_method_28_code
def y_MD_operate : MethodName := ⟨"SpendScriptModel", "operate", "(II)I"⟩
abbrev b_MD_branch : ByteArray := prog_10_method_29_code
def y_MD_branch : MethodName := ⟨"SpendScriptModel", "branch", "(IZ)I"⟩
abbrev b_MD_needs : ByteArray := prog_10_method_30_code
def y_MD_needs : MethodName := ⟨"SpendScriptModel", "needs", "(I)I"⟩
abbrev b_MD_grows : ByteArray := prog_10_method_31_code
def y_MD_grows : MethodName := ⟨"SpendScriptModel", "grows", "(I)I"⟩
abbrev b_MD_move : ByteArray := prog_10_method_32_code
def y_MD_move : MethodName := ⟨"SpendScriptModel", "move", "(I)I"⟩
abbrev b_MD_pick : ByteArray := prog_10_method_33_code
def y_MD_pick : MethodName := ⟨"SpendScriptModel", "pick", "(I)I"⟩
abbrev b_MD_compare : ByteArray := prog_10_method_34_code
def y_MD_compare : MethodName := ⟨"SpendScriptModel", "compare", "(I)I"⟩
abbrev b_MD_many : ByteArray := prog_10_method_35_code
def y_MD_many : MethodName := ⟨"SpendScriptModel", "many", "()I"⟩
abbrev b_MD_calculate : ByteArray := prog_10_method_36_code
def y_MD_calculate : MethodName := ⟨"SpendScriptModel", "calculate", "(I)I"⟩
abbrev b_MD_value : ByteArray := prog_10_method_37_code
def y_MD_value : MethodName := ⟨"SpendScriptModel", "value", "(IJJJ)J"⟩
abbrev b_MD_isForm : ByteArray := prog_10_method_38_code
def y_MD_isForm : MethodName := ⟨"SpendScriptModel", "isForm", "()Z"⟩
abbrev b_MD_spend : ByteArray := prog_10_method_39_code
def y_MD_spend : MethodName := ⟨"SpendScriptModel", "spend", "()I"⟩
abbrev b_MD_result : ByteArray := prog_10_method_40_code
def y_MD_result : MethodName := ⟨"SpendScriptModel", "result", "()I"⟩
abbrev b_MD_ended : ByteArray := prog_10_method_41_code
def y_MD_ended : MethodName := ⟨"SpendScriptModel", "ended", "()I"⟩
abbrev b_MD_faultAt : ByteArray := prog_10_method_42_code
def y_MD_faultAt : MethodName := ⟨"SpendScriptModel", "faultAt", "()I"⟩
abbrev b_MD_done : ByteArray := prog_10_method_43_code
def y_MD_done : MethodName := ⟨"SpendScriptModel", "done", "()I"⟩
abbrev b_MD_items : ByteArray := prog_10_method_44_code
def y_MD_items : MethodName := ⟨"SpendScriptModel", "items", "()I"⟩
abbrev b_MD_itemLength : ByteArray := prog_10_method_45_code
def y_MD_itemLength : MethodName := ⟨"SpendScriptModel", "itemLength", "(I)I"⟩
abbrev b_MD_itemByte : ByteArray := prog_10_method_46_code
def y_MD_itemByte : MethodName := ⟨"SpendScriptModel", "itemByte", "(II)I"⟩
abbrev b_BR_init : ByteArray := prog_2_method_1_code
def y_BR_init : MethodName := ⟨"SpendScript$Branches", "<init>", "()V"⟩
abbrev b_BR_closeAll : ByteArray := prog_2_method_2_code
def y_BR_closeAll : MethodName := ⟨"SpendScript$Branches", "closeAll", "()V"⟩
abbrev b_BR_anyOpen : ByteArray := prog_2_method_3_code
def y_BR_anyOpen : MethodName := ⟨"SpendScript$Branches", "anyOpen", "()Z"⟩
abbrev b_BR_mayOpen : ByteArray := prog_2_method_4_code
def y_BR_mayOpen : MethodName := ⟨"SpendScript$Branches", "mayOpen", "()Z"⟩
abbrev b_BR_allActive : ByteArray := prog_2_method_5_code
def y_BR_allActive : MethodName := ⟨"SpendScript$Branches", "allActive", "()Z"⟩
abbrev b_BR_openOne : ByteArray := prog_2_method_6_code
def y_BR_openOne : MethodName := ⟨"SpendScript$Branches", "openOne", "(Z)V"⟩
abbrev b_BR_flipLast : ByteArray := prog_2_method_7_code
def y_BR_flipLast : MethodName := ⟨"SpendScript$Branches", "flipLast", "()V"⟩
abbrev b_BR_closeLast : ByteArray := prog_2_method_8_code
def y_BR_closeLast : MethodName := ⟨"SpendScript$Branches", "closeLast", "()V"⟩
abbrev b_BS_init : ByteArray := prog_3_method_1_code
def y_BS_init : MethodName := ⟨"SpendScript$ByteString", "<init>", "(I)V"⟩
abbrev b_BS_size : ByteArray := prog_3_method_2_code
def y_BS_size : MethodName := ⟨"SpendScript$ByteString", "size", "()I"⟩
abbrev b_BS_byteAt : ByteArray := prog_3_method_3_code
def y_BS_byteAt : MethodName := ⟨"SpendScript$ByteString", "byteAt", "(I)I"⟩
abbrev b_BS_makeEmpty : ByteArray := prog_3_method_4_code
def y_BS_makeEmpty : MethodName := ⟨"SpendScript$ByteString", "makeEmpty", "()V"⟩
abbrev b_BS_append : ByteArray := prog_3_method_5_code
def y_BS_append : MethodName := ⟨"SpendScript$ByteString", "append", "(I)Z"⟩
abbrev b_BS_hasPart : ByteArray := prog_3_method_6_code
def y_BS_hasPart : MethodName := ⟨"SpendScript$ByteString", "hasPart", "(II)Z"⟩
abbrev b_BS_becomeCopyOf : ByteArray := prog_3_method_7_code
def y_BS_becomeCopyOf : MethodName := ⟨"SpendScript$ByteString", "becomeCopyOf", "(LSpendScript$ByteString;)V"⟩
abbrev b_BS_becomePartOf : ByteArray := prog_3_method_8_code
def y_BS_becomePartOf : MethodName := ⟨"SpendScript$ByteString", "becomePartOf", "(LSpendScript$ByteString;II)V"⟩
abbrev b_BS_sameBytesAs : ByteArray := prog_3_method_9_code
def y_BS_sameBytesAs : MethodName := ⟨"SpendScript$ByteString", "sameBytesAs", "(LSpendScript$ByteString;)Z"⟩
abbrev b_BS_hash : ByteArray := prog_3_method_10_code
def y_BS_hash : MethodName := ⟨"SpendScript$ByteString", "hash", "(II)I"⟩
abbrev b_BS_becomeDigest : ByteArray := prog_3_method_11_code
def y_BS_becomeDigest : MethodName := ⟨"SpendScript$ByteString", "becomeDigest", "(I)V"⟩
abbrev b_BS_isTrue : ByteArray := prog_3_method_12_code
def y_BS_isTrue : MethodName := ⟨"SpendScript$ByteString", "isTrue", "()Z"⟩
abbrev b_BS_isNumber : ByteArray := prog_3_method_13_code
def y_BS_isNumber : MethodName := ⟨"SpendScript$ByteString", "isNumber", "()Z"⟩
abbrev b_BS_number : ByteArray := prog_3_method_14_code
def y_BS_number : MethodName := ⟨"SpendScript$ByteString", "number", "()J"⟩
abbrev b_BS_becomeNumber : ByteArray := prog_3_method_15_code
def y_BS_becomeNumber : MethodName := ⟨"SpendScript$ByteString", "becomeNumber", "(J)V"⟩
abbrev b_BS_isWellFormedSignature : ByteArray := prog_3_method_16_code
def y_BS_isWellFormedSignature : MethodName := ⟨"SpendScript$ByteString", "isWellFormedSignature", "()Z"⟩
abbrev b_IS_init : ByteArray := prog_5_method_1_code
def y_IS_init : MethodName := ⟨"SpendScript$ItemStack", "<init>", "()V"⟩
abbrev b_IS_size : ByteArray := prog_5_method_2_code
def y_IS_size : MethodName := ⟨"SpendScript$ItemStack", "size", "()I"⟩
abbrev b_IS_has : ByteArray := prog_5_method_3_code
def y_IS_has : MethodName := ⟨"SpendScript$ItemStack", "has", "(I)Z"⟩
abbrev b_IS_item : ByteArray := prog_5_method_4_code
def y_IS_item : MethodName := ⟨"SpendScript$ItemStack", "item", "(I)LSpendScript$ByteString;"⟩
abbrev b_IS_makeEmpty : ByteArray := prog_5_method_5_code
def y_IS_makeEmpty : MethodName := ⟨"SpendScript$ItemStack", "makeEmpty", "()V"⟩
abbrev b_IS_becomeCopyOf : ByteArray := prog_5_method_6_code
def y_IS_becomeCopyOf : MethodName := ⟨"SpendScript$ItemStack", "becomeCopyOf", "(LSpendScript$ItemStack;)V"⟩
abbrev b_IS_push : ByteArray := prog_5_method_7_code
def y_IS_push : MethodName := ⟨"SpendScript$ItemStack", "push", "()LSpendScript$ByteString;"⟩
abbrev b_IS_pushCopy : ByteArray := prog_5_method_8_code
def y_IS_pushCopy : MethodName := ⟨"SpendScript$ItemStack", "pushCopy", "(I)V"⟩
abbrev b_IS_drop : ByteArray := prog_5_method_9_code
def y_IS_drop : MethodName := ⟨"SpendScript$ItemStack", "drop", "(I)V"⟩
abbrev b_IS_raise : ByteArray := prog_5_method_10_code
def y_IS_raise : MethodName := ⟨"SpendScript$ItemStack", "raise", "(I)V"⟩
abbrev b_IS_sinkTop : ByteArray := prog_5_method_11_code
def y_IS_sinkTop : MethodName := ⟨"SpendScript$ItemStack", "sinkTop", "(I)V"⟩
abbrev b_MC_init : ByteArray := prog_6_method_1_code
def y_MC_init : MethodName := ⟨"SpendScript$Machine", "<init>", "(LSpendScript$ItemStack;LSpendScript$SignatureTable;)V"⟩
abbrev b_MC_restart : ByteArray := prog_6_method_2_code
def y_MC_restart : MethodName := ⟨"SpendScript$Machine", "restart", "()V"⟩
abbrev b_MC_place : ByteArray := prog_6_method_3_code
def y_MC_place : MethodName := ⟨"SpendScript$Machine", "place", "()I"⟩
abbrev b_MC_doneCount : ByteArray := prog_6_method_4_code
def y_MC_doneCount : MethodName := ⟨"SpendScript$Machine", "doneCount", "()I"⟩
abbrev b_MC_run : ByteArray := prog_6_method_5_code
def y_MC_run : MethodName := ⟨"SpendScript$Machine", "run", "(LSpendScript$ByteString;Z)I"⟩
abbrev b_MC_dataBytes : ByteArray := prog_6_method_6_code
def y_MC_dataBytes : MethodName := ⟨"SpendScript$Machine", "dataBytes", "(I)I"⟩
abbrev b_MC_meetPush : ByteArray := prog_6_method_7_code
def y_MC_meetPush : MethodName := ⟨"SpendScript$Machine", "meetPush", "(LSpendScript$ByteString;I)I"⟩
abbrev b_MC_formFault : ByteArray := prog_6_method_8_code
def y_MC_formFault : MethodName := ⟨"SpendScript$Machine", "formFault", "(LSpendScript$ByteString;I)I"⟩
abbrev b_MC_meetOperation : ByteArray := prog_6_method_9_code
def y_MC_meetOperation : MethodName := ⟨"SpendScript$Machine", "meetOperation", "(I)I"⟩
abbrev b_MC_openBranch : ByteArray := prog_6_method_10_code
def y_MC_openBranch : MethodName := ⟨"SpendScript$Machine", "openBranch", "(Z)I"⟩
abbrev b_MC_turnBranch : ByteArray := prog_6_method_11_code
def y_MC_turnBranch : MethodName := ⟨"SpendScript$Machine", "turnBranch", "(Z)I"⟩
abbrev b_OP_init : ByteArray := prog_7_method_1_code
def y_OP_init : MethodName := ⟨"SpendScript$Operations", "<init>", "(LSpendScript$ItemStack;LSpendScript$ItemStack;LSpendScript$SignatureTable;)V"⟩
abbrev b_OP_isKnown : ByteArray := prog_7_method_2_code
def y_OP_isKnown : MethodName := ⟨"SpendScript$Operations", "isKnown", "(I)Z"⟩
abbrev b_OP_operate : ByteArray := prog_7_method_3_code
def y_OP_operate : MethodName := ⟨"SpendScript$Operations", "operate", "(I)I"⟩
abbrev b_OP_fetchFromSecond : ByteArray := prog_7_method_4_code
def y_OP_fetchFromSecond : MethodName := ⟨"SpendScript$Operations", "fetchFromSecond", "()I"⟩
abbrev b_OP_pick : ByteArray := prog_7_method_5_code
def y_OP_pick : MethodName := ⟨"SpendScript$Operations", "pick", "(Z)I"⟩
abbrev b_OP_countFault : ByteArray := prog_7_method_6_code
def y_OP_countFault : MethodName := ⟨"SpendScript$Operations", "countFault", "(II)I"⟩
abbrev b_OP_numberFault : ByteArray := prog_7_method_7_code
def y_OP_numberFault : MethodName := ⟨"SpendScript$Operations", "numberFault", "(I)I"⟩
abbrev b_OP_checkSeveralSignatures : ByteArray := prog_7_method_8_code
def y_OP_checkSeveralSignatures : MethodName := ⟨"SpendScript$Operations", "checkSeveralSignatures", "()I"⟩
abbrev b_OP_allSigned : ByteArray := prog_7_method_9_code
def y_OP_allSigned : MethodName := ⟨"SpendScript$Operations", "allSigned", "(II)Z"⟩
abbrev b_OP_calculate : ByteArray := prog_7_method_10_code
def y_OP_calculate : MethodName := ⟨"SpendScript$Operations", "calculate", "(I)I"⟩
abbrev b_OP_ofOne : ByteArray := prog_7_method_11_code
def y_OP_ofOne : MethodName := ⟨"SpendScript$Operations", "ofOne", "(IJ)J"⟩
abbrev b_OP_ofTwo : ByteArray := prog_7_method_12_code
def y_OP_ofTwo : MethodName := ⟨"SpendScript$Operations", "ofTwo", "(IJJ)J"⟩
abbrev b_OP_oneIf : ByteArray := prog_7_method_13_code
def y_OP_oneIf : MethodName := ⟨"SpendScript$Operations", "oneIf", "(Z)I"⟩
abbrev b_OP_itemsFault : ByteArray := prog_7_method_14_code
def y_OP_itemsFault : MethodName := ⟨"SpendScript$Operations", "itemsFault", "(I)I"⟩
abbrev b_OP_itemsNamed : ByteArray := prog_7_method_15_code
def y_OP_itemsNamed : MethodName := ⟨"SpendScript$Operations", "itemsNamed", "(I)I"⟩
abbrev b_OP_isVerified : ByteArray := prog_7_method_16_code
def y_OP_isVerified : MethodName := ⟨"SpendScript$Operations", "isVerified", "(I)Z"⟩
abbrev b_OP_itemsMore : ByteArray := prog_7_method_17_code
def y_OP_itemsMore : MethodName := ⟨"SpendScript$Operations", "itemsMore", "(I)I"⟩
abbrev b_OP_arrange : ByteArray := prog_7_method_18_code
def y_OP_arrange : MethodName := ⟨"SpendScript$Operations", "arrange", "(I)V"⟩
abbrev b_OP_judge : ByteArray := prog_7_method_19_code
def y_OP_judge : MethodName := ⟨"SpendScript$Operations", "judge", "(I)V"⟩
abbrev b_OP_answer : ByteArray := prog_7_method_20_code
def y_OP_answer : MethodName := ⟨"SpendScript$Operations", "answer", "(IZ)V"⟩
abbrev b_OP_pushNumber : ByteArray := prog_7_method_21_code
def y_OP_pushNumber : MethodName := ⟨"SpendScript$Operations", "pushNumber", "(J)V"⟩
abbrev b_ST_init : ByteArray := prog_8_method_1_code
def y_ST_init : MethodName := ⟨"SpendScript$SignatureTable", "<init>", "()V"⟩
abbrev b_ST_add : ByteArray := prog_8_method_2_code
def y_ST_add : MethodName := ⟨"SpendScript$SignatureTable", "add", "(II)Z"⟩
abbrev b_ST_isValid : ByteArray := prog_8_method_3_code
def y_ST_isValid : MethodName := ⟨"SpendScript$SignatureTable", "isValid", "(LSpendScript$ByteString;LSpendScript$ByteString;)Z"⟩
abbrev b_LW_law : ByteArray := code
abbrev sp_cl : List vw_C := [(R_BS, F_BS, 2), (R_IS, F_IS, 3), (R_ST, F_ST, 3), (R_BR, F_BR, 2), (R_MC, F_MC, 7), (R_OP, F_OP, 3), (R_SS, F_SS, 10), (R_MD, F_MD, 19)]
def sp_ws : List Cond := lw_tbl.filter goodWord
theorem sp_tb {w : Cond} (h : w ∈ tables_1) (hg : goodWord w = true := by rfl) : w ∈ sp_ws := List.mem_filter.mpr ⟨List.mem_append_right _ h, hg⟩
theorem sp_pv {q : MethodName × Nat} (h : q ∈ lw_privs) : Cond.selects q.1.cls q.1 q.1 ∈ sp_ws := List.mem_filter.mpr ⟨List.mem_append_left _ (List.mem_map.mpr ⟨q, h, rfl⟩), rfl⟩
set_option maxRecDepth 100000 in
theorem sp_wgood : sp_ws.all goodWord = true := List.all_eq_true.mpr (fun w h => (List.mem_filter.mp h).2)
theorem sp_good {y : MethodName} {bytes : ByteArray} {maxL : Nat} {ret : Option FieldType} (h : Cond.code y bytes maxL ret ∈ sp_ws) : GoodIn sp_ws (Cond.code y bytes maxL ret :: sp_ws) := fun w hw => by
  have hm : w ∈ sp_ws := (List.mem_cons.mp hw).elim (fun e => e ▸ h) id
  exact ⟨hm, good_of_word (List.all_eq_true.mp sp_wgood w hm)⟩
theorem ia_BS_0 : u_lay R_BS F_BS 0 ∈ sp_ws := (sp_tb (List.mem_of_getElem? (i := 27) (by decide +kernel)))
theorem ia_BS_1 : u_lay R_BS F_BS 1 ∈ sp_ws := (sp_tb (List.mem_of_getElem? (i := 29) (by decide +kernel)))
theorem iw_BS : ∀ w ∈ u_ws R_BS F_BS 2, w ∈ sp_ws := fun w h => by
  obtain ⟨k, hk, rfl⟩ := List.mem_map.mp h
  have hk := List.mem_range.mp hk
  rcases (show k = 0 ∨ k = 1 by omega) with rfl | rfl
  · exact ia_BS_0
  · exact ia_BS_1
theorem ia_IS_0 : u_lay R_IS F_IS 0 ∈ sp_ws := (sp_tb (List.mem_of_getElem? (i := 61) (by decide +kernel)))
theorem ia_IS_1 : u_lay R_IS F_IS 1 ∈ sp_ws := (sp_tb (List.mem_of_getElem? (i := 63) (by decide +kernel)))
theorem ia_IS_2 : u_lay R_IS F_IS 2 ∈ sp_ws := (sp_tb (List.mem_of_getElem? (i := 65) (by decide +kernel)))
theorem iw_IS : ∀ w ∈ u_ws R_IS F_IS 3, w ∈ sp_ws := fun w h => by
  obtain ⟨k, hk, rfl⟩ := List.mem_map.mp h
  have hk := List.mem_range.mp hk
  rcases (show k = 0 ∨ k = 1 ∨ k = 2 by omega) with rfl | rfl | rfl
  · exact ia_IS_0
  · exact ia_IS_1
  · exact ia_IS_2
theorem ia_ST_0 : u_lay R_ST F_ST 0 ∈ sp_ws := (sp_tb (List.mem_of_getElem? (i := 42) (by decide +kernel)))
theorem ia_ST_1 : u_lay R_ST F_ST 1 ∈ sp_ws := (sp_tb (List.mem_of_getElem? (i := 44) (by decide +kernel)))
theorem ia_ST_2 : u_lay R_ST F_ST 2 ∈ sp_ws := (sp_tb (List.mem_of_getElem? (i := 46) (by decide +kernel)))
theorem iw_ST : ∀ w ∈ u_ws R_ST F_ST 3, w ∈ sp_ws := fun w h => by
  obtain ⟨k, hk, rfl⟩ := List.mem_map.mp h
  have hk := List.mem_range.mp hk
  rcases (show k = 0 ∨ k = 1 ∨ k = 2 by omega) with rfl | rfl | rfl
  · exact ia_ST_0
  · exact ia_ST_1
  · exact ia_ST_2
theorem ia_BR_0 : u_lay R_BR F_BR 0 ∈ sp_ws := (sp_tb (List.mem_of_getElem? (i := 84) (by decide +kernel)))
theorem ia_BR_1 : u_lay R_BR F_BR 1 ∈ sp_ws := (sp_tb (List.mem_of_getElem? (i := 86) (by decide +kernel)))
theorem iw_BR : ∀ w ∈ u_ws R_BR F_BR 2, w ∈ sp_ws := fun w h => by
  obtain ⟨k, hk, rfl⟩ := List.mem_map.mp h
  have hk := List.mem_range.mp hk
  rcases (show k = 0 ∨ k = 1 by omega) with rfl | rfl
  · exact ia_BR_0
  · exact ia_BR_1
theorem ia_MC_0 : u_lay R_MC F_MC 0 ∈ sp_ws := (sp_tb (List.mem_of_getElem? (i := 113) (by decide +kernel)))
theorem ia_MC_1 : u_lay R_MC F_MC 1 ∈ sp_ws := (sp_tb (List.mem_of_getElem? (i := 115) (by decide +kernel)))
theorem ia_MC_2 : u_lay R_MC F_MC 2 ∈ sp_ws := (sp_tb (List.mem_of_getElem? (i := 117) (by decide +kernel)))
theorem ia_MC_3 : u_lay R_MC F_MC 3 ∈ sp_ws := (sp_tb (List.mem_of_getElem? (i := 119) (by decide +kernel)))
theorem ia_MC_4 : u_lay R_MC F_MC 4 ∈ sp_ws := (sp_tb (List.mem_of_getElem? (i := 121) (by decide +kernel)))
theorem ia_MC_5 : u_lay R_MC F_MC 5 ∈ sp_ws := (sp_tb (List.mem_of_getElem? (i := 123) (by decide +kernel)))
theorem ia_MC_6 : u_lay R_MC F_MC 6 ∈ sp_ws := (sp_tb (List.mem_of_getElem? (i := 125) (by decide +kernel)))
theorem iw_MC : ∀ w ∈ u_ws R_MC F_MC 7, w ∈ sp_ws := fun w h => by
  obtain ⟨k, hk, rfl⟩ := List.mem_map.mp h
  have hk := List.mem_range.mp hk
  rcases (show k = 0 ∨ k = 1 ∨ k = 2 ∨ k = 3 ∨ k = 4 ∨ k = 5 ∨ k = 6 by omega) with rfl | rfl | rfl | rfl | rfl | rfl | rfl
  · exact ia_MC_0
  · exact ia_MC_1
  · exact ia_MC_2
  · exact ia_MC_3
  · exact ia_MC_4
  · exact ia_MC_5
  · exact ia_MC_6
theorem ia_OP_0 : u_lay R_OP F_OP 0 ∈ sp_ws := (sp_tb (List.mem_of_getElem? (i := 99) (by decide +kernel)))
theorem ia_OP_1 : u_lay R_OP F_OP 1 ∈ sp_ws := (sp_tb (List.mem_of_getElem? (i := 101) (by decide +kernel)))
theorem ia_OP_2 : u_lay R_OP F_OP 2 ∈ sp_ws := (sp_tb (List.mem_of_getElem? (i := 103) (by decide +kernel)))
theorem iw_OP : ∀ w ∈ u_ws R_OP F_OP 3, w ∈ sp_ws := fun w h => by
  obtain ⟨k, hk, rfl⟩ := List.mem_map.mp h
  have hk := List.mem_range.mp hk
  rcases (show k = 0 ∨ k = 1 ∨ k = 2 by omega) with rfl | rfl | rfl
  · exact ia_OP_0
  · exact ia_OP_1
  · exact ia_OP_2
theorem ia_SS_0 : u_lay R_SS F_SS 0 ∈ sp_ws := (sp_tb (List.mem_of_getElem? (i := 138) (by decide +kernel)))
theorem ia_SS_1 : u_lay R_SS F_SS 1 ∈ sp_ws := (sp_tb (List.mem_of_getElem? (i := 140) (by decide +kernel)))
theorem ia_SS_2 : u_lay R_SS F_SS 2 ∈ sp_ws := (sp_tb (List.mem_of_getElem? (i := 142) (by decide +kernel)))
theorem ia_SS_3 : u_lay R_SS F_SS 3 ∈ sp_ws := (sp_tb (List.mem_of_getElem? (i := 144) (by decide +kernel)))
theorem ia_SS_4 : u_lay R_SS F_SS 4 ∈ sp_ws := (sp_tb (List.mem_of_getElem? (i := 146) (by decide +kernel)))
theorem ia_SS_5 : u_lay R_SS F_SS 5 ∈ sp_ws := (sp_tb (List.mem_of_getElem? (i := 148) (by decide +kernel)))
theorem ia_SS_6 : u_lay R_SS F_SS 6 ∈ sp_ws := (sp_tb (List.mem_of_getElem? (i := 150) (by decide +kernel)))
theorem ia_SS_7 : u_lay R_SS F_SS 7 ∈ sp_ws := (sp_tb (List.mem_of_getElem? (i := 152) (by decide +kernel)))
theorem ia_SS_8 : u_lay R_SS F_SS 8 ∈ sp_ws := (sp_tb (List.mem_of_getElem? (i := 154) (by decide +kernel)))
theorem ia_SS_9 : u_lay R_SS F_SS 9 ∈ sp_ws := (sp_tb (List.mem_of_getElem? (i := 156) (by decide +kernel)))
theorem iw_SS : ∀ w ∈ u_ws R_SS F_SS 10, w ∈ sp_ws := fun w h => by
  obtain ⟨k, hk, rfl⟩ := List.mem_map.mp h
  have hk := List.mem_range.mp hk
  rcases (show k = 0 ∨ k = 1 ∨ k = 2 ∨ k = 3 ∨ k = 4 ∨ k = 5 ∨ k = 6 ∨ k = 7 ∨ k = 8 ∨ k = 9 by omega) with rfl | rfl | rfl | rfl | rfl | rfl | rfl | rfl | rfl | rfl
  · exact ia_SS_0
  · exact ia_SS_1
  · exact ia_SS_2
  · exact ia_SS_3
  · exact ia_SS_4
  · exact ia_SS_5
  · exact ia_SS_6
  · exact ia_SS_7
  · exact ia_SS_8
  · exact ia_SS_9
theorem ia_MD_0 : u_lay R_MD F_MD 0 ∈ sp_ws := (sp_tb (List.mem_of_getElem? (i := 556) (by decide +kernel)))
theorem ia_MD_1 : u_lay R_MD F_MD 1 ∈ sp_ws := (sp_tb (List.mem_of_getElem? (i := 558) (by decide +kernel)))
theorem ia_MD_2 : u_lay R_MD F_MD 2 ∈ sp_ws := (sp_tb (List.mem_of_getElem? (i := 560) (by decide +kernel)))
theorem ia_MD_3 : u_lay R_MD F_MD 3 ∈ sp_ws := (sp_tb (List.mem_of_getElem? (i := 562) (by decide +kernel)))
theorem ia_MD_4 : u_lay R_MD F_MD 4 ∈ sp_ws := (sp_tb (List.mem_of_getElem? (i := 564) (by decide +kernel)))
theorem ia_MD_5 : u_lay R_MD F_MD 5 ∈ sp_ws := (sp_tb (List.mem_of_getElem? (i := 566) (by decide +kernel)))
theorem ia_MD_6 : u_lay R_MD F_MD 6 ∈ sp_ws := (sp_tb (List.mem_of_getElem? (i := 568) (by decide +kernel)))
theorem ia_MD_7 : u_lay R_MD F_MD 7 ∈ sp_ws := (sp_tb (List.mem_of_getElem? (i := 570) (by decide +kernel)))
theorem ia_MD_8 : u_lay R_MD F_MD 8 ∈ sp_ws := (sp_tb (List.mem_of_getElem? (i := 572) (by decide +kernel)))
theorem ia_MD_9 : u_lay R_MD F_MD 9 ∈ sp_ws := (sp_tb (List.mem_of_getElem? (i := 574) (by decide +kernel)))
theorem ia_MD_10 : u_lay R_MD F_MD 10 ∈ sp_ws := (sp_tb (List.mem_of_getElem? (i := 576) (by decide +kernel)))
theorem ia_MD_11 : u_lay R_MD F_MD 11 ∈ sp_ws := (sp_tb (List.mem_of_getElem? (i := 578) (by decide +kernel)))
theorem ia_MD_12 : u_lay R_MD F_MD 12 ∈ sp_ws := (sp_tb (List.mem_of_getElem? (i := 580) (by decide +kernel)))
theorem ia_MD_13 : u_lay R_MD F_MD 13 ∈ sp_ws := (sp_tb (List.mem_of_getElem? (i := 582) (by decide +kernel)))
theorem ia_MD_14 : u_lay R_MD F_MD 14 ∈ sp_ws := (sp_tb (List.mem_of_getElem? (i := 584) (by decide +kernel)))
theorem ia_MD_15 : u_lay R_MD F_MD 15 ∈ sp_ws := (sp_tb (List.mem_of_getElem? (i := 586) (by decide +kernel)))
theorem ia_MD_16 : u_lay R_MD F_MD 16 ∈ sp_ws := (sp_tb (List.mem_of_getElem? (i := 588) (by decide +kernel)))
theorem ia_MD_17 : u_lay R_MD F_MD 17 ∈ sp_ws := (sp_tb (List.mem_of_getElem? (i := 590) (by decide +kernel)))
theorem ia_MD_18 : u_lay R_MD F_MD 18 ∈ sp_ws := (sp_tb (List.mem_of_getElem? (i := 592) (by decide +kernel)))
theorem iw_MD : ∀ w ∈ u_ws R_MD F_MD 19, w ∈ sp_ws := fun w h => by
  obtain ⟨k, hk, rfl⟩ := List.mem_map.mp h
  have hk := List.mem_range.mp hk
  rcases (show k = 0 ∨ k = 1 ∨ k = 2 ∨ k = 3 ∨ k = 4 ∨ k = 5 ∨ k = 6 ∨ k = 7 ∨ k = 8 ∨ k = 9 ∨ k = 10 ∨ k = 11 ∨ k = 12 ∨ k = 13 ∨ k = 14 ∨ k = 15 ∨ k = 16 ∨ k = 17 ∨ k = 18 by omega) with rfl | rfl | rfl | rfl | rfl | rfl | rfl | rfl | rfl | rfl | rfl | rfl | rfl | rfl | rfl | rfl | rfl | rfl | rfl
  · exact ia_MD_0
  · exact ia_MD_1
  · exact ia_MD_2
  · exact ia_MD_3
  · exact ia_MD_4
  · exact ia_MD_5
  · exact ia_MD_6
  · exact ia_MD_7
  · exact ia_MD_8
  · exact ia_MD_9
  · exact ia_MD_10
  · exact ia_MD_11
  · exact ia_MD_12
  · exact ia_MD_13
  · exact ia_MD_14
  · exact ia_MD_15
  · exact ia_MD_16
  · exact ia_MD_17
  · exact ia_MD_18
