/-! ===== printed: names, fields ===== -/
def RX0 : String := "SharedLog$Cells"
def TX0 : u_T := fun k => match k with
  | _ => ("SharedLog$Cells", "contents", "[I", true)
def tyX0 : Nat → FieldType := fun k => match k with
  | _ => .array .int
abbrev wsX00 : List Cond := u_ws RX0 TX0 1
theorem nmX0 : ∀ a, a < 1 → ∀ b, b < 1 → a ≠ b → (TX0 a).2.1 ≠ (TX0 b).2.1 := by decide +kernel
theorem tyX0_ok : ∀ k, k < 1 → parseFieldDescriptor (TX0 k).2.2.1 = some (tyX0 k) := by decide +kernel
abbrev cX0_init : ByteArray := prog_2_method_1_code
def yX0_init : MethodName := ⟨RX0, "<init>", "()V"⟩
abbrev cX0_get : ByteArray := prog_2_method_2_code
def yX0_get : MethodName := ⟨RX0, "get", "(II)I"⟩
abbrev cX0_put : ByteArray := prog_2_method_3_code
def yX0_put : MethodName := ⟨RX0, "put", "(III)V"⟩
abbrev cX0_countWritten : ByteArray := prog_2_method_4_code
def yX0_countWritten : MethodName := ⟨RX0, "countWritten", "(I)I"⟩
abbrev cX0_isComplete : ByteArray := prog_2_method_5_code
def yX0_isComplete : MethodName := ⟨RX0, "isComplete", "(I)Z"⟩
abbrev cX0_completeFromStart : ByteArray := prog_2_method_6_code
def yX0_completeFromStart : MethodName := ⟨RX0, "completeFromStart", "()I"⟩
abbrev cX0_end : ByteArray := prog_2_method_7_code
def yX0_end : MethodName := ⟨RX0, "end", "()I"⟩
def RX1 : String := "SharedLog$Entry"
def TX1 : u_T := fun k => match k with
  | 0 => ("SharedLog$Entry", "position", "I", true)
  | 1 => ("SharedLog$Entry", "epoch", "I", true)
  | 2 => ("SharedLog$Entry", "streams", "I", true)
  | 3 => ("SharedLog$Entry", "amount", "I", true)
  | 4 => ("SharedLog$Entry", "read", "I", true)
  | 5 => ("SharedLog$Entry", "version", "I", true)
  | 6 => ("SharedLog$Entry", "pointers", "LSharedLog$Trail;", true)
  | _ => ("SharedLog$Entry", "steps", "I", false)
def tyX1 : Nat → FieldType := fun k => match k with
  | 0 => .int
  | 1 => .int
  | 2 => .int
  | 3 => .int
  | 4 => .int
  | 5 => .int
  | 6 => .object "SharedLog$Trail"
  | _ => .int
abbrev wsX10 : List Cond := u_ws RX1 TX1 8
theorem nmX1 : ∀ a, a < 8 → ∀ b, b < 8 → a ≠ b → (TX1 a).2.1 ≠ (TX1 b).2.1 := by decide +kernel
theorem tyX1_ok : ∀ k, k < 8 → parseFieldDescriptor (TX1 k).2.2.1 = some (tyX1 k) := by decide +kernel
abbrev cX1_init : ByteArray := prog_3_method_1_code
def yX1_init : MethodName := ⟨RX1, "<init>", "(IIIIIILSharedLog$Trail;)V"⟩
def RX2 : String := "SharedLog$Fold"
def TX2 : u_T := fun k => match k with
  | 0 => ("SharedLog$Fold", "effects", "[Z", true)
  | 1 => ("SharedLog$Fold", "changes", "[I", true)
  | _ => ("SharedLog$Fold", "folded", "I", false)
def tyX2 : Nat → FieldType := fun k => match k with
  | 0 => .array .boolean
  | 1 => .array .int
  | _ => .int
abbrev wsX20 : List Cond := u_ws RX2 TX2 3
theorem nmX2 : ∀ a, a < 3 → ∀ b, b < 3 → a ≠ b → (TX2 a).2.1 ≠ (TX2 b).2.1 := by decide +kernel
theorem tyX2_ok : ∀ k, k < 3 → parseFieldDescriptor (TX2 k).2.2.1 = some (tyX2 k) := by decide +kernel
abbrev cX2_init : ByteArray := prog_4_method_1_code
def yX2_init : MethodName := ⟨RX2, "<init>", "()V"⟩
abbrev cX2_restart : ByteArray := prog_4_method_2_code
def yX2_restart : MethodName := ⟨RX2, "restart", "()V"⟩
abbrev cX2_add : ByteArray := prog_4_method_3_code
def yX2_add : MethodName := ⟨RX2, "add", "(LSharedLog$Entry;)V"⟩
abbrev cX2_hasEffect : ByteArray := prog_4_method_4_code
def yX2_hasEffect : MethodName := ⟨RX2, "hasEffect", "(I)Z"⟩
abbrev cX2_isUnchanged : ByteArray := prog_4_method_5_code
def yX2_isUnchanged : MethodName := ⟨RX2, "isUnchanged", "(II)Z"⟩
abbrev cX2_noteChange : ByteArray := prog_4_method_6_code
def yX2_noteChange : MethodName := ⟨RX2, "noteChange", "(I)V"⟩
def RX3 : String := "SharedLog$Trail"
def TX3 : u_T := fun k => match k with
  | _ => ("SharedLog$Trail", "positions", "[I", true)
def tyX3 : Nat → FieldType := fun k => match k with
  | _ => .array .int
abbrev wsX30 : List Cond := u_ws RX3 TX3 1
theorem nmX3 : ∀ a, a < 1 → ∀ b, b < 1 → a ≠ b → (TX3 a).2.1 ≠ (TX3 b).2.1 := by decide +kernel
theorem tyX3_ok : ∀ k, k < 1 → parseFieldDescriptor (TX3 k).2.2.1 = some (tyX3 k) := by decide +kernel
abbrev cX3_init : ByteArray := prog_5_method_1_code
def yX3_init : MethodName := ⟨RX3, "<init>", "()V"⟩
abbrev cX3_clear : ByteArray := prog_5_method_2_code
def yX3_clear : MethodName := ⟨RX3, "clear", "()V"⟩
abbrev cX3_get : ByteArray := prog_5_method_3_code
def yX3_get : MethodName := ⟨RX3, "get", "(II)I"⟩
abbrev cX3_set : ByteArray := prog_5_method_4_code
def yX3_set : MethodName := ⟨RX3, "set", "(III)V"⟩
abbrev cX3_push : ByteArray := prog_5_method_5_code
def yX3_push : MethodName := ⟨RX3, "push", "(II)V"⟩
abbrev cX3_copyFor : ByteArray := prog_5_method_6_code
def yX3_copyFor : MethodName := ⟨RX3, "copyFor", "(I)LSharedLog$Trail;"⟩
def RX4 : String := "SharedLog"
def TX4 : u_T := fun k => match k with
  | 0 => ("SharedLog", "entries", "[LSharedLog$Entry;", true)
  | 1 => ("SharedLog", "cells", "LSharedLog$Cells;", true)
  | 2 => ("SharedLog", "sequencerKnows", "LSharedLog$Trail;", true)
  | 3 => ("SharedLog", "fold", "LSharedLog$Fold;", true)
  | 4 => ("SharedLog", "handedOut", "I", false)
  | 5 => ("SharedLog", "epoch", "I", false)
  | 6 => ("SharedLog", "tail", "I", false)
  | _ => ("SharedLog", "sequencerLost", "Z", false)
def tyX4 : Nat → FieldType := fun k => match k with
  | 0 => .array (.object "SharedLog$Entry")
  | 1 => .object "SharedLog$Cells"
  | 2 => .object "SharedLog$Trail"
  | 3 => .object "SharedLog$Fold"
  | 4 => .int
  | 5 => .int
  | 6 => .int
  | _ => .boolean
abbrev wsX40 : List Cond := u_ws RX4 TX4 8
theorem nmX4 : ∀ a, a < 8 → ∀ b, b < 8 → a ≠ b → (TX4 a).2.1 ≠ (TX4 b).2.1 := by decide +kernel
theorem tyX4_ok : ∀ k, k < 8 → parseFieldDescriptor (TX4 k).2.2.1 = some (tyX4 k) := by decide +kernel
abbrev cX4_init : ByteArray := prog_1_method_1_code
def yX4_init : MethodName := ⟨RX4, "<init>", "()V"⟩
abbrev cX4_take : ByteArray := prog_1_method_2_code
def yX4_take : MethodName := ⟨RX4, "take", "(II)I"⟩
abbrev cX4_takeIf : ByteArray := prog_1_method_3_code
def yX4_takeIf : MethodName := ⟨RX4, "takeIf", "(IIII)I"⟩
abbrev cX4_lose : ByteArray := prog_1_method_4_code
def yX4_lose : MethodName := ⟨RX4, "lose", "()I"⟩
abbrev cX4_seal : ByteArray := prog_1_method_5_code
def yX4_seal : MethodName := ⟨RX4, "seal", "()I"⟩
abbrev cX4_write : ByteArray := prog_1_method_6_code
def yX4_write : MethodName := ⟨RX4, "write", "(I)I"⟩
abbrev cX4_fill : ByteArray := prog_1_method_7_code
def yX4_fill : MethodName := ⟨RX4, "fill", "(I)Z"⟩
abbrev cX4_epoch : ByteArray := prog_1_method_8_code
def yX4_epoch : MethodName := ⟨RX4, "epoch", "()I"⟩
abbrev cX4_tail : ByteArray := prog_1_method_9_code
def yX4_tail : MethodName := ⟨RX4, "tail", "()I"⟩
abbrev cX4_positionOf : ByteArray := prog_1_method_11_code
def yX4_positionOf : MethodName := ⟨RX4, "positionOf", "(I)I"⟩
abbrev cX4_stateOf : ByteArray := prog_1_method_12_code
def yX4_stateOf : MethodName := ⟨RX4, "stateOf", "(I)I"⟩
abbrev cX4_cellAt : ByteArray := prog_1_method_14_code
def yX4_cellAt : MethodName := ⟨RX4, "cellAt", "(II)I"⟩
abbrev cX4_known : ByteArray := prog_1_method_15_code
def yX4_known : MethodName := ⟨RX4, "known", "()I"⟩
abbrev cX4_takesEffect : ByteArray := prog_1_method_16_code
def yX4_takesEffect : MethodName := ⟨RX4, "takesEffect", "(I)Z"⟩
abbrev cX4_value : ByteArray := prog_1_method_17_code
def yX4_value : MethodName := ⟨RX4, "value", "(II)I"⟩
abbrev cX4_valueByPointers : ByteArray := prog_1_method_18_code
def yX4_valueByPointers : MethodName := ⟨RX4, "valueByPointers", "(II)I"⟩
abbrev cX4_latest : ByteArray := prog_1_method_19_code
def yX4_latest : MethodName := ⟨RX4, "latest", "(II)I"⟩
abbrev cX4_isStream : ByteArray := prog_1_method_20_code
def yX4_isStream : MethodName := ⟨RX4, "isStream", "(I)Z"⟩
abbrev cX4_isSetOfStreams : ByteArray := prog_1_method_21_code
def yX4_isSetOfStreams : MethodName := ⟨RX4, "isSetOfStreams", "(I)Z"⟩
abbrev cX4_isAmount : ByteArray := prog_1_method_22_code
def yX4_isAmount : MethodName := ⟨RX4, "isAmount", "(I)Z"⟩
abbrev cX4_isPosition : ByteArray := prog_1_method_23_code
def yX4_isPosition : MethodName := ⟨RX4, "isPosition", "(I)Z"⟩
abbrev cX4_isReplica : ByteArray := prog_1_method_24_code
def yX4_isReplica : MethodName := ⟨RX4, "isReplica", "(I)Z"⟩
abbrev cX4_isPointerNumber : ByteArray := prog_1_method_25_code
def yX4_isPointerNumber : MethodName := ⟨RX4, "isPointerNumber", "(I)Z"⟩
abbrev cX4_isIn : ByteArray := prog_1_method_26_code
def yX4_isIn : MethodName := ⟨RX4, "isIn", "(II)Z"⟩
abbrev cX4_isEndOfKnown : ByteArray := prog_1_method_27_code
def yX4_isEndOfKnown : MethodName := ⟨RX4, "isEndOfKnown", "(I)Z"⟩
abbrev cX4_handOut : ByteArray := prog_1_method_28_code
def yX4_handOut : MethodName := ⟨RX4, "handOut", "(IIII)I"⟩
abbrev cX4_entryOf : ByteArray := prog_1_method_29_code
def yX4_entryOf : MethodName := ⟨RX4, "entryOf", "(I)LSharedLog$Entry;"⟩
abbrev cX4_entryIn : ByteArray := prog_1_method_30_code
def yX4_entryIn : MethodName := ⟨RX4, "entryIn", "(I)LSharedLog$Entry;"⟩
abbrev cX4_holdsStream : ByteArray := prog_1_method_31_code
def yX4_holdsStream : MethodName := ⟨RX4, "holdsStream", "(II)Z"⟩
abbrev cX4_latestAhead : ByteArray := prog_1_method_32_code
def yX4_latestAhead : MethodName := ⟨RX4, "latestAhead", "(II)I"⟩
abbrev cX4_previousByPointers : ByteArray := prog_1_method_33_code
def yX4_previousByPointers : MethodName := ⟨RX4, "previousByPointers", "(II)I"⟩
abbrev cX4_foldUpTo : ByteArray := prog_1_method_34_code
def yX4_foldUpTo : MethodName := ⟨RX4, "foldUpTo", "(I)V"⟩
abbrev cX4_effectOf : ByteArray := prog_1_method_35_code
def yX4_effectOf : MethodName := ⟨RX4, "effectOf", "(I)I"⟩
def RJx145de : String := "java/io/Serializable"
def TJx145de : u_T := fun k => match k with
  | _ => ("", "", "", false)
def tyJx145de : Nat → FieldType := fun k => match k with
  | _ => .int
abbrev wsJx145de0 : List Cond := u_ws RJx145de TJx145de 0
theorem nmJx145de : ∀ a, a < 0 → ∀ b, b < 0 → a ≠ b → (TJx145de a).2.1 ≠ (TJx145de b).2.1 := by decide +kernel
theorem tyJx145de_ok : ∀ k, k < 0 → parseFieldDescriptor (TJx145de k).2.2.1 = some (tyJx145de k) := by decide +kernel
def RJ0 : String := "java/lang/String"
def TJ0 : u_T := fun k => match k with
  | _ => ("", "", "", false)
def tyJ0 : Nat → FieldType := fun k => match k with
  | _ => .int
abbrev wsJ00 : List Cond := u_ws RJ0 TJ0 0
theorem nmJ0 : ∀ a, a < 0 → ∀ b, b < 0 → a ≠ b → (TJ0 a).2.1 ≠ (TJ0 b).2.1 := by decide +kernel
theorem tyJ0_ok : ∀ k, k < 0 → parseFieldDescriptor (TJ0 k).2.2.1 = some (tyJ0 k) := by decide +kernel
def RJ7 : String := "java/util/Arrays"
def TJ7 : u_T := fun k => match k with
  | _ => ("", "", "", false)
def tyJ7 : Nat → FieldType := fun k => match k with
  | _ => .int
abbrev wsJ70 : List Cond := u_ws RJ7 TJ7 0
theorem nmJ7 : ∀ a, a < 0 → ∀ b, b < 0 → a ≠ b → (TJ7 a).2.1 ≠ (TJ7 b).2.1 := by decide +kernel
theorem tyJ7_ok : ∀ k, k < 0 → parseFieldDescriptor (TJ7 k).2.2.1 = some (tyJ7 k) := by decide +kernel
abbrev cJ7_fill_53178 : ByteArray := prog_15_method_103_code
def yJ7_fill_53178 : MethodName := ⟨RJ7, "fill", "([II)V"⟩
def RL : String := "SharedLogLaw"
abbrev cL_cell : ByteArray := method_2_code
def yL_cell : MethodName := ⟨RL, "cell", "([II)I"⟩
abbrev cL_low : ByteArray := method_3_code
def yL_low : MethodName := ⟨RL, "low", "(II)I"⟩
abbrev cL_folds : ByteArray := method_4_code
def yL_folds : MethodName := ⟨RL, "folds", "(LSharedLog;[I[I[I[II)V"⟩
abbrev cL_isFolded : ByteArray := method_5_code
def yL_isFolded : MethodName := ⟨RL, "isFolded", "(LSharedLog;[I[I[IIII)Z"⟩
abbrev cL_writes : ByteArray := method_6_code
def yL_writes : MethodName := ⟨RL, "writes", "(LSharedLog;I)Z"⟩
abbrev cL_law : ByteArray := code
def yL_law : MethodName := ⟨RL, "law", "([I)Z"⟩
abbrev vwCl : List vw_C := [(RX0, TX0, 1), (RX1, TX1, 8), (RX2, TX2, 3), (RX3, TX3, 1), (RX4, TX4, 8)]
