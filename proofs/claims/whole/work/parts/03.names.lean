/-! ===== BEGIN printed: names, fields, word lists, decode rows ===== -/
def RX0 : String := "CountedHeap$Memory"
def TX0 : u_T := fun k => match k with
  | 0 => ("CountedHeap$Memory", "sizes", "[I", true)
  | 1 => ("CountedHeap$Memory", "maps", "[I", true)
  | 2 => ("CountedHeap$Memory", "cells", "[I", true)
  | 3 => ("CountedHeap$Memory", "used", "[Z", true)
  | 4 => ("CountedHeap$Memory", "types", "[I", true)
  | 5 => ("CountedHeap$Memory", "counts", "[I", true)
  | 6 => ("CountedHeap$Memory", "reached", "[Z", true)
  | 7 => ("CountedHeap$Memory", "queue", "[I", true)
  | 8 => ("CountedHeap$Memory", "queued", "I", false)
  | 9 => ("CountedHeap$Memory", "usedTotal", "I", false)
  | _ => ("CountedHeap$Memory", "givenBack", "I", false)
def tyX0 : Nat → FieldType := fun k => match k with
  | 0 => .array .int
  | 1 => .array .int
  | 2 => .array .int
  | 3 => .array .boolean
  | 4 => .array .int
  | 5 => .array .int
  | 6 => .array .boolean
  | 7 => .array .int
  | 8 => .int
  | 9 => .int
  | _ => .int
abbrev wsX00 : List Cond := u_ws RX0 TX0 11
theorem nmX0 : ∀ a, a < 11 → ∀ b, b < 11 → a ≠ b → (TX0 a).2.1 ≠ (TX0 b).2.1 := by decide +kernel
theorem tyX0_ok : ∀ k, k < 11 → parseFieldDescriptor (TX0 k).2.2.1 = some (tyX0 k) := by decide +kernel
abbrev cX0_init : ByteArray := prog_2_method_1_code
def yX0_init : MethodName := ⟨RX0, "<init>", "()V"⟩
abbrev cX0_wordOf : ByteArray := prog_2_method_2_code
def yX0_wordOf : MethodName := ⟨RX0, "wordOf", "(I)I"⟩
abbrev cX0_cellOfWord : ByteArray := prog_2_method_3_code
def yX0_cellOfWord : MethodName := ⟨RX0, "cellOfWord", "(II)I"⟩
abbrev cX0_blockOf : ByteArray := prog_2_method_4_code
def yX0_blockOf : MethodName := ⟨RX0, "blockOf", "(I)I"⟩
abbrev cX0_cellOf : ByteArray := prog_2_method_5_code
def yX0_cellOf : MethodName := ⟨RX0, "cellOf", "(I)I"⟩
abbrev cX0_holdsPointer : ByteArray := prog_2_method_6_code
def yX0_holdsPointer : MethodName := ⟨RX0, "holdsPointer", "(I)Z"⟩
abbrev cX0_isBlock : ByteArray := prog_2_method_7_code
def yX0_isBlock : MethodName := ⟨RX0, "isBlock", "(I)Z"⟩
abbrev cX0_hasWord : ByteArray := prog_2_method_8_code
def yX0_hasWord : MethodName := ⟨RX0, "hasWord", "(II)Z"⟩
abbrev cX0_isPointerWord : ByteArray := prog_2_method_9_code
def yX0_isPointerWord : MethodName := ⟨RX0, "isPointerWord", "(II)Z"⟩
abbrev cX0_isMapped : ByteArray := prog_2_method_10_code
def yX0_isMapped : MethodName := ⟨RX0, "isMapped", "(II)Z"⟩
abbrev cX0_isFull : ByteArray := prog_2_method_11_code
def yX0_isFull : MethodName := ⟨RX0, "isFull", "()Z"⟩
abbrev cX0_blockTotal : ByteArray := prog_2_method_12_code
def yX0_blockTotal : MethodName := ⟨RX0, "blockTotal", "()I"⟩
abbrev cX0_givenTotal : ByteArray := prog_2_method_13_code
def yX0_givenTotal : MethodName := ⟨RX0, "givenTotal", "()I"⟩
abbrev cX0_countOf : ByteArray := prog_2_method_14_code
def yX0_countOf : MethodName := ⟨RX0, "countOf", "(I)I"⟩
abbrev cX0_blockType : ByteArray := prog_2_method_15_code
def yX0_blockType : MethodName := ⟨RX0, "blockType", "(I)I"⟩
abbrev cX0_hasBlockOfType : ByteArray := prog_2_method_16_code
def yX0_hasBlockOfType : MethodName := ⟨RX0, "hasBlockOfType", "(I)Z"⟩
abbrev cX0_changeType : ByteArray := prog_2_method_17_code
def yX0_changeType : MethodName := ⟨RX0, "changeType", "(III)V"⟩
abbrev cX0_read : ByteArray := prog_2_method_18_code
def yX0_read : MethodName := ⟨RX0, "read", "(I)I"⟩
abbrev cX0_writeInt : ByteArray := prog_2_method_19_code
def yX0_writeInt : MethodName := ⟨RX0, "writeInt", "(II)V"⟩
abbrev cX0_writePointer : ByteArray := prog_2_method_20_code
def yX0_writePointer : MethodName := ⟨RX0, "writePointer", "(II)V"⟩
abbrev cX0_makeBlock : ByteArray := prog_2_method_21_code
def yX0_makeBlock : MethodName := ⟨RX0, "makeBlock", "(I)I"⟩
abbrev cX0_emptyWords : ByteArray := prog_2_method_22_code
def yX0_emptyWords : MethodName := ⟨RX0, "emptyWords", "(I)V"⟩
abbrev cX0_dropPointer : ByteArray := prog_2_method_23_code
def yX0_dropPointer : MethodName := ⟨RX0, "dropPointer", "(I)V"⟩
abbrev cX0_dropPointersOf : ByteArray := prog_2_method_24_code
def yX0_dropPointersOf : MethodName := ⟨RX0, "dropPointersOf", "(I)V"⟩
abbrev cX0_countLess : ByteArray := prog_2_method_25_code
def yX0_countLess : MethodName := ⟨RX0, "countLess", "(I)V"⟩
abbrev cX0_giveBack : ByteArray := prog_2_method_26_code
def yX0_giveBack : MethodName := ⟨RX0, "giveBack", "(I)V"⟩
abbrev cX0_enqueue : ByteArray := prog_2_method_27_code
def yX0_enqueue : MethodName := ⟨RX0, "enqueue", "(I)V"⟩
abbrev cX0_findLost : ByteArray := prog_2_method_28_code
def yX0_findLost : MethodName := ⟨RX0, "findLost", "()I"⟩
abbrev cX0_reachPointersOf : ByteArray := prog_2_method_29_code
def yX0_reachPointersOf : MethodName := ⟨RX0, "reachPointersOf", "(I)V"⟩
abbrev cX0_reach : ByteArray := prog_2_method_30_code
def yX0_reach : MethodName := ⟨RX0, "reach", "(I)V"⟩
abbrev cX0_giveBackLost : ByteArray := prog_2_method_31_code
def yX0_giveBackLost : MethodName := ⟨RX0, "giveBackLost", "()I"⟩
abbrev cX0_takeOffCountsOf : ByteArray := prog_2_method_32_code
def yX0_takeOffCountsOf : MethodName := ⟨RX0, "takeOffCountsOf", "(I)V"⟩
def RX1 : String := "CountedHeap$Program"
def TX1 : u_T := fun k => match k with
  | 0 => ("CountedHeap$Program", "ops", "[I", true)
  | 1 => ("CountedHeap$Program", "xs", "[I", true)
  | 2 => ("CountedHeap$Program", "ys", "[I", true)
  | 3 => ("CountedHeap$Program", "zs", "[I", true)
  | _ => ("CountedHeap$Program", "length", "I", false)
def tyX1 : Nat → FieldType := fun k => match k with
  | 0 => .array .int
  | 1 => .array .int
  | 2 => .array .int
  | 3 => .array .int
  | _ => .int
abbrev wsX10 : List Cond := u_ws RX1 TX1 5
theorem nmX1 : ∀ a, a < 5 → ∀ b, b < 5 → a ≠ b → (TX1 a).2.1 ≠ (TX1 b).2.1 := by decide +kernel
theorem tyX1_ok : ∀ k, k < 5 → parseFieldDescriptor (TX1 k).2.2.1 = some (tyX1 k) := by decide +kernel
abbrev cX1_init : ByteArray := prog_3_method_1_code
def yX1_init : MethodName := ⟨RX1, "<init>", "()V"⟩
abbrev cX1_isFull : ByteArray := prog_3_method_2_code
def yX1_isFull : MethodName := ⟨RX1, "isFull", "()Z"⟩
abbrev cX1_has : ByteArray := prog_3_method_3_code
def yX1_has : MethodName := ⟨RX1, "has", "(I)Z"⟩
abbrev cX1_append : ByteArray := prog_3_method_4_code
def yX1_append : MethodName := ⟨RX1, "append", "(IIII)I"⟩
abbrev cX1_removeAll : ByteArray := prog_3_method_5_code
def yX1_removeAll : MethodName := ⟨RX1, "removeAll", "()I"⟩
abbrev cX1_opAt : ByteArray := prog_3_method_6_code
def yX1_opAt : MethodName := ⟨RX1, "opAt", "(I)I"⟩
abbrev cX1_xAt : ByteArray := prog_3_method_7_code
def yX1_xAt : MethodName := ⟨RX1, "xAt", "(I)I"⟩
abbrev cX1_yAt : ByteArray := prog_3_method_8_code
def yX1_yAt : MethodName := ⟨RX1, "yAt", "(I)I"⟩
abbrev cX1_zAt : ByteArray := prog_3_method_9_code
def yX1_zAt : MethodName := ⟨RX1, "zAt", "(I)I"⟩
def RX2 : String := "CountedHeap"
def TX2 : u_T := fun k => match k with
  | 0 => ("CountedHeap", "program", "LCountedHeap$Program;", true)
  | 1 => ("CountedHeap", "memory", "LCountedHeap$Memory;", true)
  | 2 => ("CountedHeap", "returnPlaces", "[I", true)
  | 3 => ("CountedHeap", "openCalls", "I", false)
  | _ => ("CountedHeap", "nextPlace", "I", false)
def tyX2 : Nat → FieldType := fun k => match k with
  | 0 => .object "CountedHeap$Program"
  | 1 => .object "CountedHeap$Memory"
  | 2 => .array .int
  | 3 => .int
  | _ => .int
abbrev wsX20 : List Cond := u_ws RX2 TX2 5
theorem nmX2 : ∀ a, a < 5 → ∀ b, b < 5 → a ≠ b → (TX2 a).2.1 ≠ (TX2 b).2.1 := by decide +kernel
theorem tyX2_ok : ∀ k, k < 5 → parseFieldDescriptor (TX2 k).2.2.1 = some (tyX2 k) := by decide +kernel
abbrev cX2_init : ByteArray := prog_1_method_1_code
def yX2_init : MethodName := ⟨RX2, "<init>", "()V"⟩
abbrev cX2_type : ByteArray := prog_1_method_2_code
def yX2_type : MethodName := ⟨RX2, "type", "(III)Z"⟩
abbrev cX2_add : ByteArray := prog_1_method_3_code
def yX2_add : MethodName := ⟨RX2, "add", "(IIII)I"⟩
abbrev cX2_clear : ByteArray := prog_1_method_4_code
def yX2_clear : MethodName := ⟨RX2, "clear", "()I"⟩
abbrev cX2_start : ByteArray := prog_1_method_5_code
def yX2_start : MethodName := ⟨RX2, "start", "(I)Z"⟩
abbrev cX2_run : ByteArray := prog_1_method_6_code
def yX2_run : MethodName := ⟨RX2, "run", "(I)I"⟩
abbrev cX2_next : ByteArray := prog_1_method_7_code
def yX2_next : MethodName := ⟨RX2, "next", "()I"⟩
abbrev cX2_open : ByteArray := prog_1_method_8_code
def yX2_open : MethodName := ⟨RX2, "open", "()I"⟩
abbrev cX2_frame : ByteArray := prog_1_method_9_code
def yX2_frame : MethodName := ⟨RX2, "frame", "(I)I"⟩
abbrev cX2_set : ByteArray := prog_1_method_10_code
def yX2_set : MethodName := ⟨RX2, "set", "(II)Z"⟩
abbrev cX2_root : ByteArray := prog_1_method_11_code
def yX2_root : MethodName := ⟨RX2, "root", "(I)I"⟩
abbrev cX2_blocks : ByteArray := prog_1_method_12_code
def yX2_blocks : MethodName := ⟨RX2, "blocks", "()I"⟩
abbrev cX2_count : ByteArray := prog_1_method_13_code
def yX2_count : MethodName := ⟨RX2, "count", "(I)I"⟩
abbrev cX2_typeOf : ByteArray := prog_1_method_14_code
def yX2_typeOf : MethodName := ⟨RX2, "typeOf", "(I)I"⟩
abbrev cX2_word : ByteArray := prog_1_method_15_code
def yX2_word : MethodName := ⟨RX2, "word", "(II)J"⟩
abbrev cX2_given : ByteArray := prog_1_method_16_code
def yX2_given : MethodName := ⟨RX2, "given", "()I"⟩
abbrev cX2_lost : ByteArray := prog_1_method_17_code
def yX2_lost : MethodName := ⟨RX2, "lost", "()I"⟩
abbrev cX2_collect : ByteArray := prog_1_method_18_code
def yX2_collect : MethodName := ⟨RX2, "collect", "()I"⟩
abbrev cX2_isType : ByteArray := prog_1_method_19_code
def yX2_isType : MethodName := ⟨RX2, "isType", "(I)Z"⟩
abbrev cX2_isPlace : ByteArray := prog_1_method_20_code
def yX2_isPlace : MethodName := ⟨RX2, "isPlace", "(I)Z"⟩
abbrev cX2_isFrameInt : ByteArray := prog_1_method_21_code
def yX2_isFrameInt : MethodName := ⟨RX2, "isFrameInt", "(I)Z"⟩
abbrev cX2_isOperand : ByteArray := prog_1_method_22_code
def yX2_isOperand : MethodName := ⟨RX2, "isOperand", "(I)Z"⟩
abbrev cX2_fits : ByteArray := prog_1_method_23_code
def yX2_fits : MethodName := ⟨RX2, "fits", "(II)Z"⟩
abbrev cX2_goTo : ByteArray := prog_1_method_24_code
def yX2_goTo : MethodName := ⟨RX2, "goTo", "(I)V"⟩
abbrev cX2_doInstruction : ByteArray := prog_1_method_25_code
def yX2_doInstruction : MethodName := ⟨RX2, "doInstruction", "(I)V"⟩
abbrev cX2_checkOperand : ByteArray := prog_1_method_26_code
def yX2_checkOperand : MethodName := ⟨RX2, "checkOperand", "(II)V"⟩
abbrev cX2_checkWord : ByteArray := prog_1_method_27_code
def yX2_checkWord : MethodName := ⟨RX2, "checkWord", "(II)V"⟩
abbrev cX2_checkRoom : ByteArray := prog_1_method_28_code
def yX2_checkRoom : MethodName := ⟨RX2, "checkRoom", "(I)V"⟩
abbrev cX2_intResult : ByteArray := prog_1_method_29_code
def yX2_intResult : MethodName := ⟨RX2, "intResult", "(III)I"⟩
abbrev cX2_pointerResult : ByteArray := prog_1_method_30_code
def yX2_pointerResult : MethodName := ⟨RX2, "pointerResult", "(II)I"⟩
abbrev cX2_valueOf : ByteArray := prog_1_method_31_code
def yX2_valueOf : MethodName := ⟨RX2, "valueOf", "(I)I"⟩
abbrev cX2_placeAfter : ByteArray := prog_1_method_32_code
def yX2_placeAfter : MethodName := ⟨RX2, "placeAfter", "(IIII)I"⟩
def RX3 : String := "CountedHeapModel"
def TX3 : u_T := fun k => match k with
  | 0 => ("CountedHeapModel", "size", "[I", true)
  | 1 => ("CountedHeapModel", "map", "[I", true)
  | 2 => ("CountedHeapModel", "code", "[I", true)
  | 3 => ("CountedHeapModel", "length", "I", false)
  | 4 => ("CountedHeapModel", "next", "I", false)
  | 5 => ("CountedHeapModel", "depth", "I", false)
  | 6 => ("CountedHeapModel", "given", "I", false)
  | 7 => ("CountedHeapModel", "thrown", "I", false)
  | 8 => ("CountedHeapModel", "stack", "[I", true)
  | 9 => ("CountedHeapModel", "ints", "[I", true)
  | 10 => ("CountedHeapModel", "roots", "[I", true)
  | 11 => ("CountedHeapModel", "kind", "[I", true)
  | 12 => ("CountedHeapModel", "words", "[I", true)
  | 13 => ("CountedHeapModel", "pointers", "[I", true)
  | 14 => ("CountedHeapModel", "seen", "[Z", true)
  | 15 => ("CountedHeapModel", "block", "I", false)
  | _ => ("CountedHeapModel", "word", "I", false)
def tyX3 : Nat → FieldType := fun k => match k with
  | 0 => .array .int
  | 1 => .array .int
  | 2 => .array .int
  | 3 => .int
  | 4 => .int
  | 5 => .int
  | 6 => .int
  | 7 => .int
  | 8 => .array .int
  | 9 => .array .int
  | 10 => .array .int
  | 11 => .array .int
  | 12 => .array .int
  | 13 => .array .int
  | 14 => .array .boolean
  | 15 => .int
  | _ => .int
abbrev wsX30 : List Cond := u_ws RX3 TX3 17
theorem nmX3 : ∀ a, a < 17 → ∀ b, b < 17 → a ≠ b → (TX3 a).2.1 ≠ (TX3 b).2.1 := by decide +kernel
theorem tyX3_ok : ∀ k, k < 17 → parseFieldDescriptor (TX3 k).2.2.1 = some (tyX3 k) := by decide +kernel
abbrev cX3_init : ByteArray := prog_5_method_1_code
def yX3_init : MethodName := ⟨RX3, "<init>", "()V"⟩
abbrev cX3_thrown : ByteArray := prog_5_method_2_code
def yX3_thrown : MethodName := ⟨RX3, "thrown", "()I"⟩
abbrev cX3_within : ByteArray := prog_5_method_3_code
def yX3_within : MethodName := ⟨RX3, "within", "(III)Z"⟩
abbrev cX3_type : ByteArray := prog_5_method_4_code
def yX3_type : MethodName := ⟨RX3, "type", "(III)Z"⟩
abbrev cX3_isOperand : ByteArray := prog_5_method_5_code
def yX3_isOperand : MethodName := ⟨RX3, "isOperand", "(I)Z"⟩
abbrev cX3_takes : ByteArray := prog_5_method_6_code
def yX3_takes : MethodName := ⟨RX3, "takes", "(II)I"⟩
abbrev cX3_isRight : ByteArray := prog_5_method_7_code
def yX3_isRight : MethodName := ⟨RX3, "isRight", "(III)Z"⟩
abbrev cX3_add : ByteArray := prog_5_method_8_code
def yX3_add : MethodName := ⟨RX3, "add", "(IIII)I"⟩
abbrev cX3_clear : ByteArray := prog_5_method_9_code
def yX3_clear : MethodName := ⟨RX3, "clear", "()I"⟩
abbrev cX3_start : ByteArray := prog_5_method_10_code
def yX3_start : MethodName := ⟨RX3, "start", "(I)Z"⟩
abbrev cX3_isBlock : ByteArray := prog_5_method_11_code
def yX3_isBlock : MethodName := ⟨RX3, "isBlock", "(I)Z"⟩
abbrev cX3_isPointer : ByteArray := prog_5_method_12_code
def yX3_isPointer : MethodName := ⟨RX3, "isPointer", "(II)Z"⟩
abbrev cX3_countAll : ByteArray := prog_5_method_13_code
def yX3_countAll : MethodName := ⟨RX3, "countAll", "()V"⟩
abbrev cX3_giveBack : ByteArray := prog_5_method_14_code
def yX3_giveBack : MethodName := ⟨RX3, "giveBack", "()V"⟩
abbrev cX3_reach : ByteArray := prog_5_method_15_code
def yX3_reach : MethodName := ⟨RX3, "reach", "()V"⟩
abbrev cX3_find : ByteArray := prog_5_method_16_code
def yX3_find : MethodName := ⟨RX3, "find", "(II)I"⟩
abbrev cX3_read : ByteArray := prog_5_method_17_code
def yX3_read : MethodName := ⟨RX3, "read", "(I)I"⟩
abbrev cX3_write : ByteArray := prog_5_method_18_code
def yX3_write : MethodName := ⟨RX3, "write", "(II)V"⟩
abbrev cX3_fault : ByteArray := prog_5_method_19_code
def yX3_fault : MethodName := ⟨RX3, "fault", "(I)I"⟩
abbrev cX3_free : ByteArray := prog_5_method_20_code
def yX3_free : MethodName := ⟨RX3, "free", "()I"⟩
abbrev cX3_value : ByteArray := prog_5_method_21_code
def yX3_value : MethodName := ⟨RX3, "value", "(III)I"⟩
abbrev cX3_act : ByteArray := prog_5_method_22_code
def yX3_act : MethodName := ⟨RX3, "act", "(I)V"⟩
abbrev cX3_run : ByteArray := prog_5_method_23_code
def yX3_run : MethodName := ⟨RX3, "run", "(I)I"⟩
abbrev cX3_next : ByteArray := prog_5_method_24_code
def yX3_next : MethodName := ⟨RX3, "next", "()I"⟩
abbrev cX3_open : ByteArray := prog_5_method_25_code
def yX3_open : MethodName := ⟨RX3, "open", "()I"⟩
abbrev cX3_frame : ByteArray := prog_5_method_26_code
def yX3_frame : MethodName := ⟨RX3, "frame", "(I)I"⟩
abbrev cX3_set : ByteArray := prog_5_method_27_code
def yX3_set : MethodName := ⟨RX3, "set", "(II)Z"⟩
abbrev cX3_root : ByteArray := prog_5_method_28_code
def yX3_root : MethodName := ⟨RX3, "root", "(I)I"⟩
abbrev cX3_blocks : ByteArray := prog_5_method_29_code
def yX3_blocks : MethodName := ⟨RX3, "blocks", "()I"⟩
abbrev cX3_count : ByteArray := prog_5_method_30_code
def yX3_count : MethodName := ⟨RX3, "count", "(I)I"⟩
abbrev cX3_typeOf : ByteArray := prog_5_method_31_code
def yX3_typeOf : MethodName := ⟨RX3, "typeOf", "(I)I"⟩
abbrev cX3_word : ByteArray := prog_5_method_32_code
def yX3_word : MethodName := ⟨RX3, "word", "(II)J"⟩
abbrev cX3_given : ByteArray := prog_5_method_33_code
def yX3_given : MethodName := ⟨RX3, "given", "()I"⟩
abbrev cX3_lost : ByteArray := prog_5_method_34_code
def yX3_lost : MethodName := ⟨RX3, "lost", "()I"⟩
abbrev cX3_collect : ByteArray := prog_5_method_35_code
def yX3_collect : MethodName := ⟨RX3, "collect", "()I"⟩
def RJ0 : String := "java/lang/String"
def TJ0 : u_T := fun k => match k with
  | _ => ("", "", "", false)
def tyJ0 : Nat → FieldType := fun k => match k with
  | _ => .int
abbrev wsJ00 : List Cond := u_ws RJ0 TJ0 0
theorem nmJ0 : ∀ a, a < 0 → ∀ b, b < 0 → a ≠ b → (TJ0 a).2.1 ≠ (TJ0 b).2.1 := by decide +kernel
theorem tyJ0_ok : ∀ k, k < 0 → parseFieldDescriptor (TJ0 k).2.2.1 = some (tyJ0 k) := by decide +kernel
def RL : String := "CountedHeapLaw"
abbrev cL_run : ByteArray := method_3_code
def yL_run : MethodName := ⟨RL, "run", "(LCountedHeap;I[J)I"⟩
abbrev cL_law : ByteArray := code
def yL_law : MethodName := ⟨RL, "law", "([I)Z"⟩
def wsX0_init : List Cond := .code yX0_init cX0_init 1 none :: ([.methodLink RX0 3 objectInit, .instanceMethod objectInit, .code objectInit ⟨#[0xb1]⟩ 1 none, .arrayClass .int, .fieldLink RX0 9 "CountedHeap$Memory" "sizes" "[I", .fieldLink RX0 15 "CountedHeap$Memory" "maps" "[I", .fieldLink RX0 18 "CountedHeap$Memory" "cells" "[I", .arrayClass .boolean, .fieldLink RX0 21 "CountedHeap$Memory" "used" "[Z", .fieldLink RX0 25 "CountedHeap$Memory" "types" "[I", .fieldLink RX0 28 "CountedHeap$Memory" "counts" "[I", .fieldLink RX0 31 "CountedHeap$Memory" "reached" "[Z", .fieldLink RX0 34 "CountedHeap$Memory" "queue" "[I", .fieldLink RX0 37 "CountedHeap$Memory" "queued" "I", .fieldLink RX0 41 "CountedHeap$Memory" "usedTotal" "I", .fieldLink RX0 44 "CountedHeap$Memory" "givenBack" "I"] ++ wsX00)
def wsX0_wordOf : List Cond := .code yX0_wordOf cX0_wordOf 1 (some .int) :: ([])
def wsX0_cellOfWord : List Cond := .code yX0_cellOfWord cX0_cellOfWord 2 (some .int) :: ([])
def wsX0_blockOf : List Cond := .code yX0_blockOf cX0_blockOf 2 (some .int) :: ([.fieldLink RX0 18 "CountedHeap$Memory" "cells" "[I"] ++ wsX00)
def wsX0_cellOf : List Cond := .code yX0_cellOf cX0_cellOf 2 (some .int) :: ([.methodLink RX0 47 yX0_blockOf, .instanceMethod yX0_blockOf, .selects RX0 yX0_blockOf yX0_blockOf, .initialized RX0, .code yX0_blockOf cX0_blockOf 2 (some .int), .fieldLink RX0 18 "CountedHeap$Memory" "cells" "[I", .methodLink RX0 51 yX0_wordOf, .static yX0_wordOf, .code yX0_wordOf cX0_wordOf 1 (some .int), .methodLink RX0 54 yX0_cellOfWord, .static yX0_cellOfWord, .code yX0_cellOfWord cX0_cellOfWord 2 (some .int)] ++ wsX00)
def wsX0_isBlock : List Cond := .code yX0_isBlock cX0_isBlock 2 (some .boolean) :: ([.fieldLink RX0 21 "CountedHeap$Memory" "used" "[Z"] ++ wsX00)
def wsX0_hasWord : List Cond := .code yX0_hasWord cX0_hasWord 3 (some .boolean) :: ([.fieldLink RX0 9 "CountedHeap$Memory" "sizes" "[I", .fieldLink RX0 25 "CountedHeap$Memory" "types" "[I", .methodLink RX0 62 yX0_isBlock, .instanceMethod yX0_isBlock, .selects RX0 yX0_isBlock yX0_isBlock, .initialized RX0, .code yX0_isBlock cX0_isBlock 2 (some .boolean), .fieldLink RX0 21 "CountedHeap$Memory" "used" "[Z"] ++ wsX00)
def wsX0_isMapped : List Cond := .code yX0_isMapped cX0_isMapped 3 (some .boolean) :: ([.fieldLink RX0 15 "CountedHeap$Memory" "maps" "[I", .fieldLink RX0 25 "CountedHeap$Memory" "types" "[I"] ++ wsX00)
def wsX0_isPointerWord : List Cond := .code yX0_isPointerWord cX0_isPointerWord 3 (some .boolean) :: ([.methodLink RX0 66 yX0_hasWord, .instanceMethod yX0_hasWord, .selects RX0 yX0_hasWord yX0_hasWord, .initialized RX0, .code yX0_hasWord cX0_hasWord 3 (some .boolean), .fieldLink RX0 9 "CountedHeap$Memory" "sizes" "[I", .fieldLink RX0 25 "CountedHeap$Memory" "types" "[I", .methodLink RX0 62 yX0_isBlock, .instanceMethod yX0_isBlock, .selects RX0 yX0_isBlock yX0_isBlock, .code yX0_isBlock cX0_isBlock 2 (some .boolean), .fieldLink RX0 21 "CountedHeap$Memory" "used" "[Z", .methodLink RX0 69 yX0_isMapped, .instanceMethod yX0_isMapped, .selects RX0 yX0_isMapped yX0_isMapped, .code yX0_isMapped cX0_isMapped 3 (some .boolean), .fieldLink RX0 15 "CountedHeap$Memory" "maps" "[I"] ++ wsX00)
def wsX0_holdsPointer_r1 : List Cond := [Cond.methodLink RX0 47 yX0_blockOf, Cond.instanceMethod yX0_blockOf, Cond.selects RX0 yX0_blockOf yX0_blockOf, Cond.initialized RX0, Cond.code yX0_blockOf cX0_blockOf 2 (some .int), Cond.fieldLink RX0 18 "CountedHeap$Memory" "cells" "[I", Cond.methodLink RX0 51 yX0_wordOf, Cond.static yX0_wordOf, Cond.code yX0_wordOf cX0_wordOf 1 (some .int), Cond.methodLink RX0 58 yX0_isPointerWord, Cond.instanceMethod yX0_isPointerWord, Cond.selects RX0 yX0_isPointerWord yX0_isPointerWord, Cond.code yX0_isPointerWord cX0_isPointerWord 3 (some .boolean), Cond.methodLink RX0 66 yX0_hasWord, Cond.instanceMethod yX0_hasWord, Cond.selects RX0 yX0_hasWord yX0_hasWord, Cond.code yX0_hasWord cX0_hasWord 3 (some .boolean), Cond.fieldLink RX0 9 "CountedHeap$Memory" "sizes" "[I", Cond.fieldLink RX0 25 "CountedHeap$Memory" "types" "[I", Cond.methodLink RX0 62 yX0_isBlock, Cond.instanceMethod yX0_isBlock, Cond.selects RX0 yX0_isBlock yX0_isBlock, Cond.code yX0_isBlock cX0_isBlock 2 (some .boolean), Cond.fieldLink RX0 21 "CountedHeap$Memory" "used" "[Z"]
def wsX0_holdsPointer_r2 : List Cond := [Cond.methodLink RX0 69 yX0_isMapped, Cond.instanceMethod yX0_isMapped, Cond.selects RX0 yX0_isMapped yX0_isMapped, Cond.code yX0_isMapped cX0_isMapped 3 (some .boolean), Cond.fieldLink RX0 15 "CountedHeap$Memory" "maps" "[I"]
def wsX0_holdsPointer : List Cond := .code yX0_holdsPointer cX0_holdsPointer 2 (some .boolean) :: ((wsX0_holdsPointer_r1 ++ wsX0_holdsPointer_r2) ++ wsX00)
def wsX0_isFull : List Cond := .code yX0_isFull cX0_isFull 1 (some .boolean) :: ([.fieldLink RX0 41 "CountedHeap$Memory" "usedTotal" "I"] ++ wsX00)
def wsX0_blockTotal : List Cond := .code yX0_blockTotal cX0_blockTotal 1 (some .int) :: ([.fieldLink RX0 41 "CountedHeap$Memory" "usedTotal" "I"] ++ wsX00)
def wsX0_givenTotal : List Cond := .code yX0_givenTotal cX0_givenTotal 1 (some .int) :: ([.fieldLink RX0 44 "CountedHeap$Memory" "givenBack" "I"] ++ wsX00)
def wsX0_countOf : List Cond := .code yX0_countOf cX0_countOf 2 (some .int) :: ([.fieldLink RX0 28 "CountedHeap$Memory" "counts" "[I", .methodLink RX0 62 yX0_isBlock, .instanceMethod yX0_isBlock, .selects RX0 yX0_isBlock yX0_isBlock, .initialized RX0, .code yX0_isBlock cX0_isBlock 2 (some .boolean), .fieldLink RX0 21 "CountedHeap$Memory" "used" "[Z"] ++ wsX00)
def wsX0_blockType : List Cond := .code yX0_blockType cX0_blockType 2 (some .int) :: ([.fieldLink RX0 25 "CountedHeap$Memory" "types" "[I", .methodLink RX0 62 yX0_isBlock, .instanceMethod yX0_isBlock, .selects RX0 yX0_isBlock yX0_isBlock, .initialized RX0, .code yX0_isBlock cX0_isBlock 2 (some .boolean), .fieldLink RX0 21 "CountedHeap$Memory" "used" "[Z"] ++ wsX00)
def wsX0_hasBlockOfType : List Cond := .code yX0_hasBlockOfType cX0_hasBlockOfType 3 (some .boolean) :: ([.fieldLink RX0 21 "CountedHeap$Memory" "used" "[Z", .fieldLink RX0 25 "CountedHeap$Memory" "types" "[I"] ++ wsX00)
def wsX0_changeType : List Cond := .code yX0_changeType cX0_changeType 4 none :: ([.fieldLink RX0 9 "CountedHeap$Memory" "sizes" "[I", .fieldLink RX0 15 "CountedHeap$Memory" "maps" "[I"] ++ wsX00)
def wsX0_read : List Cond := .code yX0_read cX0_read 2 (some .int) :: ([.fieldLink RX0 18 "CountedHeap$Memory" "cells" "[I"] ++ wsX00)
def wsX0_writeInt : List Cond := .code yX0_writeInt cX0_writeInt 3 none :: ([.fieldLink RX0 18 "CountedHeap$Memory" "cells" "[I"] ++ wsX00)
def wsX0_giveBack : List Cond := .code yX0_giveBack cX0_giveBack 2 none :: ([.fieldLink RX0 21 "CountedHeap$Memory" "used" "[Z", .fieldLink RX0 41 "CountedHeap$Memory" "usedTotal" "I", .fieldLink RX0 44 "CountedHeap$Memory" "givenBack" "I"] ++ wsX00)
def wsX0_enqueue : List Cond := .code yX0_enqueue cX0_enqueue 2 none :: ([.fieldLink RX0 37 "CountedHeap$Memory" "queued" "I", .fieldLink RX0 34 "CountedHeap$Memory" "queue" "[I"] ++ wsX00)
def wsX0_countLess : List Cond := .code yX0_countLess cX0_countLess 2 none :: ([.fieldLink RX0 28 "CountedHeap$Memory" "counts" "[I", .methodLink RX0 62 yX0_isBlock, .instanceMethod yX0_isBlock, .selects RX0 yX0_isBlock yX0_isBlock, .initialized RX0, .code yX0_isBlock cX0_isBlock 2 (some .boolean), .fieldLink RX0 21 "CountedHeap$Memory" "used" "[Z", .methodLink RX0 85 yX0_giveBack, .instanceMethod yX0_giveBack, .selects RX0 yX0_giveBack yX0_giveBack, .code yX0_giveBack cX0_giveBack 2 none, .fieldLink RX0 41 "CountedHeap$Memory" "usedTotal" "I", .fieldLink RX0 44 "CountedHeap$Memory" "givenBack" "I", .methodLink RX0 88 yX0_enqueue, .instanceMethod yX0_enqueue, .selects RX0 yX0_enqueue yX0_enqueue, .code yX0_enqueue cX0_enqueue 2 none, .fieldLink RX0 37 "CountedHeap$Memory" "queued" "I", .fieldLink RX0 34 "CountedHeap$Memory" "queue" "[I"] ++ wsX00)
def wsX0_dropPointersOf_r1 : List Cond := [Cond.fieldLink RX0 18 "CountedHeap$Memory" "cells" "[I", Cond.methodLink RX0 69 yX0_isMapped, Cond.instanceMethod yX0_isMapped, Cond.selects RX0 yX0_isMapped yX0_isMapped, Cond.initialized RX0, Cond.code yX0_isMapped cX0_isMapped 3 (some .boolean), Cond.fieldLink RX0 15 "CountedHeap$Memory" "maps" "[I", Cond.fieldLink RX0 25 "CountedHeap$Memory" "types" "[I", Cond.methodLink RX0 54 yX0_cellOfWord, Cond.static yX0_cellOfWord, Cond.code yX0_cellOfWord cX0_cellOfWord 2 (some .int), Cond.methodLink RX0 79 yX0_countLess, Cond.instanceMethod yX0_countLess, Cond.selects RX0 yX0_countLess yX0_countLess, Cond.code yX0_countLess cX0_countLess 2 none, Cond.fieldLink RX0 28 "CountedHeap$Memory" "counts" "[I", Cond.methodLink RX0 62 yX0_isBlock, Cond.instanceMethod yX0_isBlock, Cond.selects RX0 yX0_isBlock yX0_isBlock, Cond.code yX0_isBlock cX0_isBlock 2 (some .boolean), Cond.fieldLink RX0 21 "CountedHeap$Memory" "used" "[Z", Cond.methodLink RX0 85 yX0_giveBack, Cond.instanceMethod yX0_giveBack, Cond.selects RX0 yX0_giveBack yX0_giveBack]
def wsX0_dropPointersOf_r2 : List Cond := [Cond.code yX0_giveBack cX0_giveBack 2 none, Cond.fieldLink RX0 41 "CountedHeap$Memory" "usedTotal" "I", Cond.fieldLink RX0 44 "CountedHeap$Memory" "givenBack" "I", Cond.methodLink RX0 88 yX0_enqueue, Cond.instanceMethod yX0_enqueue, Cond.selects RX0 yX0_enqueue yX0_enqueue, Cond.code yX0_enqueue cX0_enqueue 2 none, Cond.fieldLink RX0 37 "CountedHeap$Memory" "queued" "I", Cond.fieldLink RX0 34 "CountedHeap$Memory" "queue" "[I"]
def wsX0_dropPointersOf : List Cond := .code yX0_dropPointersOf cX0_dropPointersOf 3 none :: ((wsX0_dropPointersOf_r1 ++ wsX0_dropPointersOf_r2) ++ wsX00)
def wsX0_dropPointer_r1 : List Cond := [Cond.fieldLink RX0 37 "CountedHeap$Memory" "queued" "I", Cond.fieldLink RX0 34 "CountedHeap$Memory" "queue" "[I", Cond.methodLink RX0 79 yX0_countLess, Cond.instanceMethod yX0_countLess, Cond.selects RX0 yX0_countLess yX0_countLess, Cond.initialized RX0, Cond.code yX0_countLess cX0_countLess 2 none, Cond.fieldLink RX0 28 "CountedHeap$Memory" "counts" "[I", Cond.methodLink RX0 62 yX0_isBlock, Cond.instanceMethod yX0_isBlock, Cond.selects RX0 yX0_isBlock yX0_isBlock, Cond.code yX0_isBlock cX0_isBlock 2 (some .boolean), Cond.fieldLink RX0 21 "CountedHeap$Memory" "used" "[Z", Cond.methodLink RX0 85 yX0_giveBack, Cond.instanceMethod yX0_giveBack, Cond.selects RX0 yX0_giveBack yX0_giveBack, Cond.code yX0_giveBack cX0_giveBack 2 none, Cond.fieldLink RX0 41 "CountedHeap$Memory" "usedTotal" "I", Cond.fieldLink RX0 44 "CountedHeap$Memory" "givenBack" "I", Cond.methodLink RX0 88 yX0_enqueue, Cond.instanceMethod yX0_enqueue, Cond.selects RX0 yX0_enqueue yX0_enqueue, Cond.code yX0_enqueue cX0_enqueue 2 none, Cond.methodLink RX0 82 yX0_dropPointersOf]
def wsX0_dropPointer_r2 : List Cond := [Cond.instanceMethod yX0_dropPointersOf, Cond.selects RX0 yX0_dropPointersOf yX0_dropPointersOf, Cond.code yX0_dropPointersOf cX0_dropPointersOf 3 none, Cond.fieldLink RX0 18 "CountedHeap$Memory" "cells" "[I", Cond.methodLink RX0 69 yX0_isMapped, Cond.instanceMethod yX0_isMapped, Cond.selects RX0 yX0_isMapped yX0_isMapped, Cond.code yX0_isMapped cX0_isMapped 3 (some .boolean), Cond.fieldLink RX0 15 "CountedHeap$Memory" "maps" "[I", Cond.fieldLink RX0 25 "CountedHeap$Memory" "types" "[I", Cond.methodLink RX0 54 yX0_cellOfWord, Cond.static yX0_cellOfWord, Cond.code yX0_cellOfWord cX0_cellOfWord 2 (some .int)]
def wsX0_dropPointer : List Cond := .code yX0_dropPointer cX0_dropPointer 3 none :: ((wsX0_dropPointer_r1 ++ wsX0_dropPointer_r2) ++ wsX00)
def wsX0_writePointer_r1 : List Cond := [Cond.fieldLink RX0 18 "CountedHeap$Memory" "cells" "[I", Cond.fieldLink RX0 28 "CountedHeap$Memory" "counts" "[I", Cond.methodLink RX0 62 yX0_isBlock, Cond.instanceMethod yX0_isBlock, Cond.selects RX0 yX0_isBlock yX0_isBlock, Cond.initialized RX0, Cond.code yX0_isBlock cX0_isBlock 2 (some .boolean), Cond.fieldLink RX0 21 "CountedHeap$Memory" "used" "[Z", Cond.methodLink RX0 72 yX0_dropPointer, Cond.instanceMethod yX0_dropPointer, Cond.selects RX0 yX0_dropPointer yX0_dropPointer, Cond.code yX0_dropPointer cX0_dropPointer 3 none, Cond.fieldLink RX0 37 "CountedHeap$Memory" "queued" "I", Cond.fieldLink RX0 34 "CountedHeap$Memory" "queue" "[I", Cond.methodLink RX0 79 yX0_countLess, Cond.instanceMethod yX0_countLess, Cond.selects RX0 yX0_countLess yX0_countLess, Cond.code yX0_countLess cX0_countLess 2 none, Cond.methodLink RX0 85 yX0_giveBack, Cond.instanceMethod yX0_giveBack, Cond.selects RX0 yX0_giveBack yX0_giveBack, Cond.code yX0_giveBack cX0_giveBack 2 none, Cond.fieldLink RX0 41 "CountedHeap$Memory" "usedTotal" "I", Cond.fieldLink RX0 44 "CountedHeap$Memory" "givenBack" "I"]
def wsX0_writePointer_r2 : List Cond := [Cond.methodLink RX0 88 yX0_enqueue, Cond.instanceMethod yX0_enqueue, Cond.selects RX0 yX0_enqueue yX0_enqueue, Cond.code yX0_enqueue cX0_enqueue 2 none, Cond.methodLink RX0 82 yX0_dropPointersOf, Cond.instanceMethod yX0_dropPointersOf, Cond.selects RX0 yX0_dropPointersOf yX0_dropPointersOf, Cond.code yX0_dropPointersOf cX0_dropPointersOf 3 none, Cond.methodLink RX0 69 yX0_isMapped, Cond.instanceMethod yX0_isMapped, Cond.selects RX0 yX0_isMapped yX0_isMapped, Cond.code yX0_isMapped cX0_isMapped 3 (some .boolean), Cond.fieldLink RX0 15 "CountedHeap$Memory" "maps" "[I", Cond.fieldLink RX0 25 "CountedHeap$Memory" "types" "[I", Cond.methodLink RX0 54 yX0_cellOfWord, Cond.static yX0_cellOfWord, Cond.code yX0_cellOfWord cX0_cellOfWord 2 (some .int)]
def wsX0_writePointer : List Cond := .code yX0_writePointer cX0_writePointer 4 none :: ((wsX0_writePointer_r1 ++ wsX0_writePointer_r2) ++ wsX00)
def wsX0_emptyWords : List Cond := .code yX0_emptyWords cX0_emptyWords 3 none :: ([.fieldLink RX0 18 "CountedHeap$Memory" "cells" "[I", .methodLink RX0 54 yX0_cellOfWord, .static yX0_cellOfWord, .initialized RX0, .code yX0_cellOfWord cX0_cellOfWord 2 (some .int)] ++ wsX00)
def wsX0_makeBlock : List Cond := .code yX0_makeBlock cX0_makeBlock 3 (some .int) :: ([.fieldLink RX0 21 "CountedHeap$Memory" "used" "[Z", .fieldLink RX0 25 "CountedHeap$Memory" "types" "[I", .fieldLink RX0 28 "CountedHeap$Memory" "counts" "[I", .fieldLink RX0 41 "CountedHeap$Memory" "usedTotal" "I", .methodLink RX0 76 yX0_emptyWords, .instanceMethod yX0_emptyWords, .selects RX0 yX0_emptyWords yX0_emptyWords, .initialized RX0, .code yX0_emptyWords cX0_emptyWords 3 none, .fieldLink RX0 18 "CountedHeap$Memory" "cells" "[I", .methodLink RX0 54 yX0_cellOfWord, .static yX0_cellOfWord, .code yX0_cellOfWord cX0_cellOfWord 2 (some .int)] ++ wsX00)
def wsX0_reach : List Cond := .code yX0_reach cX0_reach 2 none :: ([.fieldLink RX0 31 "CountedHeap$Memory" "reached" "[Z", .methodLink RX0 62 yX0_isBlock, .instanceMethod yX0_isBlock, .selects RX0 yX0_isBlock yX0_isBlock, .initialized RX0, .code yX0_isBlock cX0_isBlock 2 (some .boolean), .fieldLink RX0 21 "CountedHeap$Memory" "used" "[Z", .methodLink RX0 88 yX0_enqueue, .instanceMethod yX0_enqueue, .selects RX0 yX0_enqueue yX0_enqueue, .code yX0_enqueue cX0_enqueue 2 none, .fieldLink RX0 37 "CountedHeap$Memory" "queued" "I", .fieldLink RX0 34 "CountedHeap$Memory" "queue" "[I"] ++ wsX00)
def wsX0_reachPointersOf_r1 : List Cond := [Cond.fieldLink RX0 18 "CountedHeap$Memory" "cells" "[I", Cond.methodLink RX0 58 yX0_isPointerWord, Cond.instanceMethod yX0_isPointerWord, Cond.selects RX0 yX0_isPointerWord yX0_isPointerWord, Cond.initialized RX0, Cond.code yX0_isPointerWord cX0_isPointerWord 3 (some .boolean), Cond.methodLink RX0 66 yX0_hasWord, Cond.instanceMethod yX0_hasWord, Cond.selects RX0 yX0_hasWord yX0_hasWord, Cond.code yX0_hasWord cX0_hasWord 3 (some .boolean), Cond.fieldLink RX0 9 "CountedHeap$Memory" "sizes" "[I", Cond.fieldLink RX0 25 "CountedHeap$Memory" "types" "[I", Cond.methodLink RX0 62 yX0_isBlock, Cond.instanceMethod yX0_isBlock, Cond.selects RX0 yX0_isBlock yX0_isBlock, Cond.code yX0_isBlock cX0_isBlock 2 (some .boolean), Cond.fieldLink RX0 21 "CountedHeap$Memory" "used" "[Z", Cond.methodLink RX0 69 yX0_isMapped, Cond.instanceMethod yX0_isMapped, Cond.selects RX0 yX0_isMapped yX0_isMapped, Cond.code yX0_isMapped cX0_isMapped 3 (some .boolean), Cond.fieldLink RX0 15 "CountedHeap$Memory" "maps" "[I", Cond.methodLink RX0 54 yX0_cellOfWord, Cond.static yX0_cellOfWord]
def wsX0_reachPointersOf_r2 : List Cond := [Cond.code yX0_cellOfWord cX0_cellOfWord 2 (some .int), Cond.methodLink RX0 91 yX0_reach, Cond.instanceMethod yX0_reach, Cond.selects RX0 yX0_reach yX0_reach, Cond.code yX0_reach cX0_reach 2 none, Cond.fieldLink RX0 31 "CountedHeap$Memory" "reached" "[Z", Cond.methodLink RX0 88 yX0_enqueue, Cond.instanceMethod yX0_enqueue, Cond.selects RX0 yX0_enqueue yX0_enqueue, Cond.code yX0_enqueue cX0_enqueue 2 none, Cond.fieldLink RX0 37 "CountedHeap$Memory" "queued" "I", Cond.fieldLink RX0 34 "CountedHeap$Memory" "queue" "[I"]
def wsX0_reachPointersOf : List Cond := .code yX0_reachPointersOf cX0_reachPointersOf 3 none :: ((wsX0_reachPointersOf_r1 ++ wsX0_reachPointersOf_r2) ++ wsX00)
def wsX0_findLost_r1 : List Cond := [Cond.fieldLink RX0 37 "CountedHeap$Memory" "queued" "I", Cond.fieldLink RX0 31 "CountedHeap$Memory" "reached" "[Z", Cond.fieldLink RX0 18 "CountedHeap$Memory" "cells" "[I", Cond.fieldLink RX0 34 "CountedHeap$Memory" "queue" "[I", Cond.fieldLink RX0 41 "CountedHeap$Memory" "usedTotal" "I", Cond.methodLink RX0 91 yX0_reach, Cond.instanceMethod yX0_reach, Cond.selects RX0 yX0_reach yX0_reach, Cond.initialized RX0, Cond.code yX0_reach cX0_reach 2 none, Cond.methodLink RX0 62 yX0_isBlock, Cond.instanceMethod yX0_isBlock, Cond.selects RX0 yX0_isBlock yX0_isBlock, Cond.code yX0_isBlock cX0_isBlock 2 (some .boolean), Cond.fieldLink RX0 21 "CountedHeap$Memory" "used" "[Z", Cond.methodLink RX0 88 yX0_enqueue, Cond.instanceMethod yX0_enqueue, Cond.selects RX0 yX0_enqueue yX0_enqueue, Cond.code yX0_enqueue cX0_enqueue 2 none, Cond.methodLink RX0 94 yX0_reachPointersOf, Cond.instanceMethod yX0_reachPointersOf, Cond.selects RX0 yX0_reachPointersOf yX0_reachPointersOf, Cond.code yX0_reachPointersOf cX0_reachPointersOf 3 none, Cond.methodLink RX0 58 yX0_isPointerWord]
def wsX0_findLost_r2 : List Cond := [Cond.instanceMethod yX0_isPointerWord, Cond.selects RX0 yX0_isPointerWord yX0_isPointerWord, Cond.code yX0_isPointerWord cX0_isPointerWord 3 (some .boolean), Cond.methodLink RX0 66 yX0_hasWord, Cond.instanceMethod yX0_hasWord, Cond.selects RX0 yX0_hasWord yX0_hasWord, Cond.code yX0_hasWord cX0_hasWord 3 (some .boolean), Cond.fieldLink RX0 9 "CountedHeap$Memory" "sizes" "[I", Cond.fieldLink RX0 25 "CountedHeap$Memory" "types" "[I", Cond.methodLink RX0 69 yX0_isMapped, Cond.instanceMethod yX0_isMapped, Cond.selects RX0 yX0_isMapped yX0_isMapped, Cond.code yX0_isMapped cX0_isMapped 3 (some .boolean), Cond.fieldLink RX0 15 "CountedHeap$Memory" "maps" "[I", Cond.methodLink RX0 54 yX0_cellOfWord, Cond.static yX0_cellOfWord, Cond.code yX0_cellOfWord cX0_cellOfWord 2 (some .int)]
def wsX0_findLost : List Cond := .code yX0_findLost cX0_findLost 2 (some .int) :: ((wsX0_findLost_r1 ++ wsX0_findLost_r2) ++ wsX00)
def wsX0_takeOffCountsOf_r1 : List Cond := [Cond.fieldLink RX0 18 "CountedHeap$Memory" "cells" "[I", Cond.fieldLink RX0 31 "CountedHeap$Memory" "reached" "[Z", Cond.fieldLink RX0 28 "CountedHeap$Memory" "counts" "[I", Cond.methodLink RX0 58 yX0_isPointerWord, Cond.instanceMethod yX0_isPointerWord, Cond.selects RX0 yX0_isPointerWord yX0_isPointerWord, Cond.initialized RX0, Cond.code yX0_isPointerWord cX0_isPointerWord 3 (some .boolean), Cond.methodLink RX0 66 yX0_hasWord, Cond.instanceMethod yX0_hasWord, Cond.selects RX0 yX0_hasWord yX0_hasWord, Cond.code yX0_hasWord cX0_hasWord 3 (some .boolean), Cond.fieldLink RX0 9 "CountedHeap$Memory" "sizes" "[I", Cond.fieldLink RX0 25 "CountedHeap$Memory" "types" "[I", Cond.methodLink RX0 62 yX0_isBlock, Cond.instanceMethod yX0_isBlock, Cond.selects RX0 yX0_isBlock yX0_isBlock, Cond.code yX0_isBlock cX0_isBlock 2 (some .boolean), Cond.fieldLink RX0 21 "CountedHeap$Memory" "used" "[Z", Cond.methodLink RX0 69 yX0_isMapped, Cond.instanceMethod yX0_isMapped, Cond.selects RX0 yX0_isMapped yX0_isMapped, Cond.code yX0_isMapped cX0_isMapped 3 (some .boolean), Cond.fieldLink RX0 15 "CountedHeap$Memory" "maps" "[I"]
def wsX0_takeOffCountsOf_r2 : List Cond := [Cond.methodLink RX0 54 yX0_cellOfWord, Cond.static yX0_cellOfWord, Cond.code yX0_cellOfWord cX0_cellOfWord 2 (some .int)]
def wsX0_takeOffCountsOf : List Cond := .code yX0_takeOffCountsOf cX0_takeOffCountsOf 4 none :: ((wsX0_takeOffCountsOf_r1 ++ wsX0_takeOffCountsOf_r2) ++ wsX00)
def wsX0_giveBackLost_r1 : List Cond := [Cond.fieldLink RX0 21 "CountedHeap$Memory" "used" "[Z", Cond.fieldLink RX0 31 "CountedHeap$Memory" "reached" "[Z", Cond.methodLink RX0 97 yX0_findLost, Cond.instanceMethod yX0_findLost, Cond.selects RX0 yX0_findLost yX0_findLost, Cond.initialized RX0, Cond.code yX0_findLost cX0_findLost 2 (some .int), Cond.fieldLink RX0 37 "CountedHeap$Memory" "queued" "I", Cond.fieldLink RX0 18 "CountedHeap$Memory" "cells" "[I", Cond.fieldLink RX0 34 "CountedHeap$Memory" "queue" "[I", Cond.fieldLink RX0 41 "CountedHeap$Memory" "usedTotal" "I", Cond.methodLink RX0 91 yX0_reach, Cond.instanceMethod yX0_reach, Cond.selects RX0 yX0_reach yX0_reach, Cond.code yX0_reach cX0_reach 2 none, Cond.methodLink RX0 62 yX0_isBlock, Cond.instanceMethod yX0_isBlock, Cond.selects RX0 yX0_isBlock yX0_isBlock, Cond.code yX0_isBlock cX0_isBlock 2 (some .boolean), Cond.methodLink RX0 88 yX0_enqueue, Cond.instanceMethod yX0_enqueue, Cond.selects RX0 yX0_enqueue yX0_enqueue, Cond.code yX0_enqueue cX0_enqueue 2 none, Cond.methodLink RX0 94 yX0_reachPointersOf]
def wsX0_giveBackLost_r2 : List Cond := [Cond.instanceMethod yX0_reachPointersOf, Cond.selects RX0 yX0_reachPointersOf yX0_reachPointersOf, Cond.code yX0_reachPointersOf cX0_reachPointersOf 3 none, Cond.methodLink RX0 58 yX0_isPointerWord, Cond.instanceMethod yX0_isPointerWord, Cond.selects RX0 yX0_isPointerWord yX0_isPointerWord, Cond.code yX0_isPointerWord cX0_isPointerWord 3 (some .boolean), Cond.methodLink RX0 66 yX0_hasWord, Cond.instanceMethod yX0_hasWord, Cond.selects RX0 yX0_hasWord yX0_hasWord, Cond.code yX0_hasWord cX0_hasWord 3 (some .boolean), Cond.fieldLink RX0 9 "CountedHeap$Memory" "sizes" "[I", Cond.fieldLink RX0 25 "CountedHeap$Memory" "types" "[I", Cond.methodLink RX0 69 yX0_isMapped, Cond.instanceMethod yX0_isMapped, Cond.selects RX0 yX0_isMapped yX0_isMapped, Cond.code yX0_isMapped cX0_isMapped 3 (some .boolean), Cond.fieldLink RX0 15 "CountedHeap$Memory" "maps" "[I", Cond.methodLink RX0 54 yX0_cellOfWord, Cond.static yX0_cellOfWord, Cond.code yX0_cellOfWord cX0_cellOfWord 2 (some .int), Cond.methodLink RX0 101 yX0_takeOffCountsOf, Cond.instanceMethod yX0_takeOffCountsOf, Cond.selects RX0 yX0_takeOffCountsOf yX0_takeOffCountsOf]
def wsX0_giveBackLost_r3 : List Cond := [Cond.code yX0_takeOffCountsOf cX0_takeOffCountsOf 4 none, Cond.fieldLink RX0 28 "CountedHeap$Memory" "counts" "[I", Cond.methodLink RX0 85 yX0_giveBack, Cond.instanceMethod yX0_giveBack, Cond.selects RX0 yX0_giveBack yX0_giveBack, Cond.code yX0_giveBack cX0_giveBack 2 none, Cond.fieldLink RX0 44 "CountedHeap$Memory" "givenBack" "I"]
def wsX0_giveBackLost : List Cond := .code yX0_giveBackLost cX0_giveBackLost 3 (some .int) :: ((wsX0_giveBackLost_r1 ++ (wsX0_giveBackLost_r2 ++ wsX0_giveBackLost_r3)) ++ wsX00)
def wsX1_init : List Cond := .code yX1_init cX1_init 1 none :: ([.methodLink RX1 3 objectInit, .instanceMethod objectInit, .code objectInit ⟨#[0xb1]⟩ 1 none, .arrayClass .int, .fieldLink RX1 9 "CountedHeap$Program" "ops" "[I", .fieldLink RX1 15 "CountedHeap$Program" "xs" "[I", .fieldLink RX1 18 "CountedHeap$Program" "ys" "[I", .fieldLink RX1 21 "CountedHeap$Program" "zs" "[I", .fieldLink RX1 24 "CountedHeap$Program" "length" "I"] ++ wsX10)
def wsX1_isFull : List Cond := .code yX1_isFull cX1_isFull 1 (some .boolean) :: ([.fieldLink RX1 24 "CountedHeap$Program" "length" "I"] ++ wsX10)
def wsX1_has : List Cond := .code yX1_has cX1_has 2 (some .boolean) :: ([.fieldLink RX1 24 "CountedHeap$Program" "length" "I"] ++ wsX10)
def wsX1_append : List Cond := .code yX1_append cX1_append 6 (some .int) :: ([.fieldLink RX1 24 "CountedHeap$Program" "length" "I", .fieldLink RX1 9 "CountedHeap$Program" "ops" "[I", .fieldLink RX1 15 "CountedHeap$Program" "xs" "[I", .fieldLink RX1 18 "CountedHeap$Program" "ys" "[I", .fieldLink RX1 21 "CountedHeap$Program" "zs" "[I"] ++ wsX10)
def wsX1_removeAll : List Cond := .code yX1_removeAll cX1_removeAll 2 (some .int) :: ([.fieldLink RX1 24 "CountedHeap$Program" "length" "I"] ++ wsX10)
def wsX1_opAt : List Cond := .code yX1_opAt cX1_opAt 2 (some .int) :: ([.fieldLink RX1 9 "CountedHeap$Program" "ops" "[I"] ++ wsX10)
def wsX1_xAt : List Cond := .code yX1_xAt cX1_xAt 2 (some .int) :: ([.fieldLink RX1 15 "CountedHeap$Program" "xs" "[I"] ++ wsX10)
def wsX1_yAt : List Cond := .code yX1_yAt cX1_yAt 2 (some .int) :: ([.fieldLink RX1 18 "CountedHeap$Program" "ys" "[I"] ++ wsX10)
def wsX1_zAt : List Cond := .code yX1_zAt cX1_zAt 2 (some .int) :: ([.fieldLink RX1 21 "CountedHeap$Program" "zs" "[I"] ++ wsX10)
def wsX2_init_r1 : List Cond := [Cond.methodLink RX2 3 objectInit, Cond.instanceMethod objectInit, Cond.code objectInit ⟨#[0xb1]⟩ 1 none, Cond.classLink RX2 9 RX1, Cond.instantiable RX1 5, Cond.initialized RX1, Cond.fieldLink RX2 12 "CountedHeap" "program" "LCountedHeap$Program;", Cond.classLink RX2 16 RX0, Cond.instantiable RX0 11, Cond.initialized RX0, Cond.fieldLink RX2 19 "CountedHeap" "memory" "LCountedHeap$Memory;", Cond.arrayClass .int, Cond.fieldLink RX2 23 "CountedHeap" "returnPlaces" "[I", Cond.fieldLink RX2 27 "CountedHeap" "openCalls" "I", Cond.fieldLink RX2 31 "CountedHeap" "nextPlace" "I", Cond.instanceMethod yX1_init, Cond.code yX1_init cX1_init 1 none, Cond.methodLink RX1 3 objectInit, Cond.fieldLink RX1 9 "CountedHeap$Program" "ops" "[I", Cond.fieldLink RX1 15 "CountedHeap$Program" "xs" "[I", Cond.fieldLink RX1 18 "CountedHeap$Program" "ys" "[I", Cond.fieldLink RX1 21 "CountedHeap$Program" "zs" "[I", Cond.fieldLink RX1 24 "CountedHeap$Program" "length" "I", Cond.instanceMethod yX0_init]
def wsX2_init_r2 : List Cond := [Cond.code yX0_init cX0_init 1 none, Cond.methodLink RX0 3 objectInit, Cond.fieldLink RX0 9 "CountedHeap$Memory" "sizes" "[I", Cond.fieldLink RX0 15 "CountedHeap$Memory" "maps" "[I", Cond.fieldLink RX0 18 "CountedHeap$Memory" "cells" "[I", Cond.arrayClass .boolean, Cond.fieldLink RX0 21 "CountedHeap$Memory" "used" "[Z", Cond.fieldLink RX0 25 "CountedHeap$Memory" "types" "[I", Cond.fieldLink RX0 28 "CountedHeap$Memory" "counts" "[I", Cond.fieldLink RX0 31 "CountedHeap$Memory" "reached" "[Z", Cond.fieldLink RX0 34 "CountedHeap$Memory" "queue" "[I", Cond.fieldLink RX0 37 "CountedHeap$Memory" "queued" "I", Cond.fieldLink RX0 41 "CountedHeap$Memory" "usedTotal" "I", Cond.fieldLink RX0 44 "CountedHeap$Memory" "givenBack" "I"]
def wsX2_init : List Cond := .code yX2_init cX2_init 1 none :: ((wsX2_init_r1 ++ wsX2_init_r2) ++ wsX10 ++ wsX20 ++ wsX00)
def wsX2_isType : List Cond := .code yX2_isType cX2_isType 1 (some .boolean) :: ([])
def wsX2_type : List Cond := .code yX2_type cX2_type 4 (some .boolean) :: ([.fieldLink RX2 19 "CountedHeap" "memory" "LCountedHeap$Memory;", .methodLink RX2 34 yX2_isType, .static yX2_isType, .initialized RX2, .code yX2_isType cX2_isType 1 (some .boolean), .methodLink RX2 38 yX0_hasBlockOfType, .instanceMethod yX0_hasBlockOfType, .selects RX0 yX0_hasBlockOfType yX0_hasBlockOfType, .initialized RX0, .code yX0_hasBlockOfType cX0_hasBlockOfType 3 (some .boolean), .fieldLink RX0 21 "CountedHeap$Memory" "used" "[Z", .fieldLink RX0 25 "CountedHeap$Memory" "types" "[I", .methodLink RX2 41 yX0_changeType, .instanceMethod yX0_changeType, .selects RX0 yX0_changeType yX0_changeType, .code yX0_changeType cX0_changeType 4 none, .fieldLink RX0 9 "CountedHeap$Memory" "sizes" "[I", .fieldLink RX0 15 "CountedHeap$Memory" "maps" "[I"] ++ wsX20 ++ wsX00)
def wsX2_isOperand : List Cond := .code yX2_isOperand cX2_isOperand 1 (some .boolean) :: ([])
def wsX2_isPlace : List Cond := .code yX2_isPlace cX2_isPlace 1 (some .boolean) :: ([])
def wsX2_fits : List Cond := .code yX2_fits cX2_fits 2 (some .boolean) :: ([.methodLink RX2 131 yX2_isOperand, .static yX2_isOperand, .initialized RX2, .code yX2_isOperand cX2_isOperand 1 (some .boolean), .methodLink RX2 74 yX2_isPlace, .static yX2_isPlace, .code yX2_isPlace cX2_isPlace 1 (some .boolean), .methodLink RX2 34 yX2_isType, .static yX2_isType, .code yX2_isType cX2_isType 1 (some .boolean)])
def wsX2_add_r1 : List Cond := [Cond.fieldLink RX2 45 "CountedHeap" "ROLE_OF_X" "[I", Cond.fieldLink RX2 52 "CountedHeap" "ROLE_OF_Y" "[I", Cond.fieldLink RX2 55 "CountedHeap" "ROLE_OF_Z" "[I", Cond.fieldLink RX2 12 "CountedHeap" "program" "LCountedHeap$Program;", Cond.methodLink RX2 48 yX2_fits, Cond.static yX2_fits, Cond.initialized RX2, Cond.code yX2_fits cX2_fits 2 (some .boolean), Cond.methodLink RX2 131 yX2_isOperand, Cond.static yX2_isOperand, Cond.code yX2_isOperand cX2_isOperand 1 (some .boolean), Cond.methodLink RX2 74 yX2_isPlace, Cond.static yX2_isPlace, Cond.code yX2_isPlace cX2_isPlace 1 (some .boolean), Cond.methodLink RX2 34 yX2_isType, Cond.static yX2_isType, Cond.code yX2_isType cX2_isType 1 (some .boolean), Cond.methodLink RX2 58 yX1_isFull, Cond.instanceMethod yX1_isFull, Cond.selects RX1 yX1_isFull yX1_isFull, Cond.initialized RX1, Cond.code yX1_isFull cX1_isFull 1 (some .boolean), Cond.fieldLink RX1 24 "CountedHeap$Program" "length" "I", Cond.methodLink RX2 62 yX1_append]
def wsX2_add_r2 : List Cond := [Cond.instanceMethod yX1_append, Cond.selects RX1 yX1_append yX1_append, Cond.code yX1_append cX1_append 6 (some .int), Cond.fieldLink RX1 9 "CountedHeap$Program" "ops" "[I", Cond.fieldLink RX1 15 "CountedHeap$Program" "xs" "[I", Cond.fieldLink RX1 18 "CountedHeap$Program" "ys" "[I", Cond.fieldLink RX1 21 "CountedHeap$Program" "zs" "[I"]
def wsX2_add : List Cond := .code yX2_add cX2_add 5 (some .int) :: ((wsX2_add_r1 ++ wsX2_add_r2) ++ wsX20 ++ wsX10)
def wsX2_goTo : List Cond := .code yX2_goTo cX2_goTo 2 none :: ([.fieldLink RX2 31 "CountedHeap" "nextPlace" "I", .fieldLink RX2 27 "CountedHeap" "openCalls" "I"] ++ wsX20)
def wsX2_clear : List Cond := .code yX2_clear cX2_clear 1 (some .int) :: ([.fieldLink RX2 12 "CountedHeap" "program" "LCountedHeap$Program;", .methodLink RX2 66 yX2_goTo, .instanceMethod yX2_goTo, .selects RX2 yX2_goTo yX2_goTo, .initialized RX2, .code yX2_goTo cX2_goTo 2 none, .fieldLink RX2 31 "CountedHeap" "nextPlace" "I", .fieldLink RX2 27 "CountedHeap" "openCalls" "I", .methodLink RX2 70 yX1_removeAll, .instanceMethod yX1_removeAll, .selects RX1 yX1_removeAll yX1_removeAll, .initialized RX1, .code yX1_removeAll cX1_removeAll 2 (some .int), .fieldLink RX1 24 "CountedHeap$Program" "length" "I"] ++ wsX20 ++ wsX10)
def wsX2_start : List Cond := .code yX2_start cX2_start 2 (some .boolean) :: ([.methodLink RX2 74 yX2_isPlace, .static yX2_isPlace, .initialized RX2, .code yX2_isPlace cX2_isPlace 1 (some .boolean), .methodLink RX2 66 yX2_goTo, .instanceMethod yX2_goTo, .selects RX2 yX2_goTo yX2_goTo, .code yX2_goTo cX2_goTo 2 none, .fieldLink RX2 31 "CountedHeap" "nextPlace" "I", .fieldLink RX2 27 "CountedHeap" "openCalls" "I"] ++ wsX20)
def wsX2_checkWord : List Cond := .code yX2_checkWord cX2_checkWord 3 none :: ([.classLink RX2 179 "java/lang/IllegalStateException", .initialized "java/lang/IllegalStateException", .classLink RX2 184 "java/lang/IndexOutOfBoundsException", .initialized "java/lang/IndexOutOfBoundsException", .fieldLink RX2 19 "CountedHeap" "memory" "LCountedHeap$Memory;", .methodLink RX2 113 yX0_hasWord, .instanceMethod yX0_hasWord, .selects RX0 yX0_hasWord yX0_hasWord, .initialized RX0, .code yX0_hasWord cX0_hasWord 3 (some .boolean), .fieldLink RX0 9 "CountedHeap$Memory" "sizes" "[I", .fieldLink RX0 25 "CountedHeap$Memory" "types" "[I", .methodLink RX0 62 yX0_isBlock, .instanceMethod yX0_isBlock, .selects RX0 yX0_isBlock yX0_isBlock, .code yX0_isBlock cX0_isBlock 2 (some .boolean), .fieldLink RX0 21 "CountedHeap$Memory" "used" "[Z"] ++ wsX20 ++ wsX00 ++ (vx_atS RX2 183 "java/lang/IllegalStateException" ["java/lang/RuntimeException", "java/lang/Exception"]).filter goodWord ++ (vx_atS RX2 188 "java/lang/IndexOutOfBoundsException" ["java/lang/RuntimeException", "java/lang/Exception"]).filter goodWord)
def wsX2_checkOperand_r1 : List Cond := [Cond.classLink RX2 77 "java/lang/IllegalArgumentException", Cond.initialized "java/lang/IllegalArgumentException", Cond.fieldLink RX2 19 "CountedHeap" "memory" "LCountedHeap$Memory;", Cond.methodLink RX2 165 yX0_blockOf, Cond.instanceMethod yX0_blockOf, Cond.selects RX0 yX0_blockOf yX0_blockOf, Cond.initialized RX0, Cond.code yX0_blockOf cX0_blockOf 2 (some .int), Cond.fieldLink RX0 18 "CountedHeap$Memory" "cells" "[I", Cond.methodLink RX2 168 yX0_wordOf, Cond.static yX0_wordOf, Cond.code yX0_wordOf cX0_wordOf 1 (some .int), Cond.methodLink RX2 171 yX2_checkWord, Cond.instanceMethod yX2_checkWord, Cond.selects RX2 yX2_checkWord yX2_checkWord, Cond.initialized RX2, Cond.code yX2_checkWord cX2_checkWord 3 none, Cond.classLink RX2 179 "java/lang/IllegalStateException", Cond.initialized "java/lang/IllegalStateException", Cond.classLink RX2 184 "java/lang/IndexOutOfBoundsException", Cond.initialized "java/lang/IndexOutOfBoundsException", Cond.methodLink RX2 113 yX0_hasWord, Cond.instanceMethod yX0_hasWord, Cond.selects RX0 yX0_hasWord yX0_hasWord]
def wsX2_checkOperand_r2 : List Cond := [Cond.code yX0_hasWord cX0_hasWord 3 (some .boolean), Cond.fieldLink RX0 9 "CountedHeap$Memory" "sizes" "[I", Cond.fieldLink RX0 25 "CountedHeap$Memory" "types" "[I", Cond.methodLink RX0 62 yX0_isBlock, Cond.instanceMethod yX0_isBlock, Cond.selects RX0 yX0_isBlock yX0_isBlock, Cond.code yX0_isBlock cX0_isBlock 2 (some .boolean), Cond.fieldLink RX0 21 "CountedHeap$Memory" "used" "[Z", Cond.methodLink RX2 174 yX0_holdsPointer, Cond.instanceMethod yX0_holdsPointer, Cond.selects RX0 yX0_holdsPointer yX0_holdsPointer, Cond.code yX0_holdsPointer cX0_holdsPointer 2 (some .boolean), Cond.methodLink RX0 47 yX0_blockOf, Cond.methodLink RX0 51 yX0_wordOf, Cond.methodLink RX0 58 yX0_isPointerWord, Cond.instanceMethod yX0_isPointerWord, Cond.selects RX0 yX0_isPointerWord yX0_isPointerWord, Cond.code yX0_isPointerWord cX0_isPointerWord 3 (some .boolean), Cond.methodLink RX0 66 yX0_hasWord, Cond.methodLink RX0 69 yX0_isMapped, Cond.instanceMethod yX0_isMapped, Cond.selects RX0 yX0_isMapped yX0_isMapped, Cond.code yX0_isMapped cX0_isMapped 3 (some .boolean), Cond.fieldLink RX0 15 "CountedHeap$Memory" "maps" "[I"]
def wsX2_checkOperand : List Cond := .code yX2_checkOperand cX2_checkOperand 3 none :: ((wsX2_checkOperand_r1 ++ wsX2_checkOperand_r2) ++ wsX20 ++ wsX00 ++ (vx_atS RX2 81 "java/lang/IllegalArgumentException" ["java/lang/RuntimeException", "java/lang/Exception"]).filter goodWord ++ (vx_atS RX2 183 "java/lang/IllegalStateException" ["java/lang/RuntimeException", "java/lang/Exception"]).filter goodWord ++ (vx_atS RX2 188 "java/lang/IndexOutOfBoundsException" ["java/lang/RuntimeException", "java/lang/Exception"]).filter goodWord)
def wsX2_checkRoom : List Cond := .code yX2_checkRoom cX2_checkRoom 2 none :: ([.classLink RX2 190 "java/lang/UnsupportedOperationException", .initialized "java/lang/UnsupportedOperationException", .classLink RX2 179 "java/lang/IllegalStateException", .initialized "java/lang/IllegalStateException", .fieldLink RX2 19 "CountedHeap" "memory" "LCountedHeap$Memory;", .fieldLink RX2 27 "CountedHeap" "openCalls" "I", .methodLink RX2 189 yX0_isFull, .instanceMethod yX0_isFull, .selects RX0 yX0_isFull yX0_isFull, .initialized RX0, .code yX0_isFull cX0_isFull 1 (some .boolean), .fieldLink RX0 41 "CountedHeap$Memory" "usedTotal" "I"] ++ wsX20 ++ wsX00 ++ (vx_atS RX2 194 "java/lang/UnsupportedOperationException" ["java/lang/RuntimeException", "java/lang/Exception"]).filter goodWord ++ (vx_atS RX2 183 "java/lang/IllegalStateException" ["java/lang/RuntimeException", "java/lang/Exception"]).filter goodWord)
def wsX2_valueOf : List Cond := .code yX2_valueOf cX2_valueOf 2 (some .int) :: ([.fieldLink RX2 19 "CountedHeap" "memory" "LCountedHeap$Memory;", .methodLink RX2 149 yX0_cellOf, .instanceMethod yX0_cellOf, .selects RX0 yX0_cellOf yX0_cellOf, .initialized RX0, .code yX0_cellOf cX0_cellOf 2 (some .int), .methodLink RX0 47 yX0_blockOf, .instanceMethod yX0_blockOf, .selects RX0 yX0_blockOf yX0_blockOf, .code yX0_blockOf cX0_blockOf 2 (some .int), .fieldLink RX0 18 "CountedHeap$Memory" "cells" "[I", .methodLink RX0 51 yX0_wordOf, .static yX0_wordOf, .code yX0_wordOf cX0_wordOf 1 (some .int), .methodLink RX0 54 yX0_cellOfWord, .static yX0_cellOfWord, .code yX0_cellOfWord cX0_cellOfWord 2 (some .int), .methodLink RX2 97 yX0_read, .instanceMethod yX0_read, .selects RX0 yX0_read yX0_read, .code yX0_read cX0_read 2 (some .int)] ++ wsX20 ++ wsX00)
def wsX2_intResult_r1 : List Cond := [Cond.methodLink RX2 199 yX2_valueOf, Cond.instanceMethod yX2_valueOf, Cond.selects RX2 yX2_valueOf yX2_valueOf, Cond.initialized RX2, Cond.code yX2_valueOf cX2_valueOf 2 (some .int), Cond.fieldLink RX2 19 "CountedHeap" "memory" "LCountedHeap$Memory;", Cond.methodLink RX2 149 yX0_cellOf, Cond.instanceMethod yX0_cellOf, Cond.selects RX0 yX0_cellOf yX0_cellOf, Cond.initialized RX0, Cond.code yX0_cellOf cX0_cellOf 2 (some .int), Cond.methodLink RX0 47 yX0_blockOf, Cond.instanceMethod yX0_blockOf, Cond.selects RX0 yX0_blockOf yX0_blockOf, Cond.code yX0_blockOf cX0_blockOf 2 (some .int), Cond.fieldLink RX0 18 "CountedHeap$Memory" "cells" "[I", Cond.methodLink RX0 51 yX0_wordOf, Cond.static yX0_wordOf, Cond.code yX0_wordOf cX0_wordOf 1 (some .int), Cond.methodLink RX0 54 yX0_cellOfWord, Cond.static yX0_cellOfWord, Cond.code yX0_cellOfWord cX0_cellOfWord 2 (some .int), Cond.methodLink RX2 97 yX0_read, Cond.instanceMethod yX0_read]
def wsX2_intResult_r2 : List Cond := [Cond.selects RX0 yX0_read yX0_read, Cond.code yX0_read cX0_read 2 (some .int)]
def wsX2_intResult : List Cond := .code yX2_intResult cX2_intResult 4 (some .int) :: ((wsX2_intResult_r1 ++ wsX2_intResult_r2) ++ wsX20 ++ wsX00)
def wsX2_pointerResult_r1 : List Cond := [Cond.fieldLink RX2 19 "CountedHeap" "memory" "LCountedHeap$Memory;", Cond.methodLink RX2 202 yX0_makeBlock, Cond.instanceMethod yX0_makeBlock, Cond.selects RX0 yX0_makeBlock yX0_makeBlock, Cond.initialized RX0, Cond.code yX0_makeBlock cX0_makeBlock 3 (some .int), Cond.fieldLink RX0 21 "CountedHeap$Memory" "used" "[Z", Cond.fieldLink RX0 25 "CountedHeap$Memory" "types" "[I", Cond.fieldLink RX0 28 "CountedHeap$Memory" "counts" "[I", Cond.fieldLink RX0 41 "CountedHeap$Memory" "usedTotal" "I", Cond.methodLink RX0 76 yX0_emptyWords, Cond.instanceMethod yX0_emptyWords, Cond.selects RX0 yX0_emptyWords yX0_emptyWords, Cond.code yX0_emptyWords cX0_emptyWords 3 none, Cond.fieldLink RX0 18 "CountedHeap$Memory" "cells" "[I", Cond.methodLink RX0 54 yX0_cellOfWord, Cond.static yX0_cellOfWord, Cond.code yX0_cellOfWord cX0_cellOfWord 2 (some .int), Cond.methodLink RX2 199 yX2_valueOf, Cond.instanceMethod yX2_valueOf, Cond.selects RX2 yX2_valueOf yX2_valueOf, Cond.initialized RX2, Cond.code yX2_valueOf cX2_valueOf 2 (some .int), Cond.methodLink RX2 149 yX0_cellOf]
def wsX2_pointerResult_r2 : List Cond := [Cond.instanceMethod yX0_cellOf, Cond.selects RX0 yX0_cellOf yX0_cellOf, Cond.code yX0_cellOf cX0_cellOf 2 (some .int), Cond.methodLink RX0 47 yX0_blockOf, Cond.instanceMethod yX0_blockOf, Cond.selects RX0 yX0_blockOf yX0_blockOf, Cond.code yX0_blockOf cX0_blockOf 2 (some .int), Cond.methodLink RX0 51 yX0_wordOf, Cond.static yX0_wordOf, Cond.code yX0_wordOf cX0_wordOf 1 (some .int), Cond.methodLink RX2 97 yX0_read, Cond.instanceMethod yX0_read, Cond.selects RX0 yX0_read yX0_read, Cond.code yX0_read cX0_read 2 (some .int)]
def wsX2_pointerResult : List Cond := .code yX2_pointerResult cX2_pointerResult 3 (some .int) :: ((wsX2_pointerResult_r1 ++ wsX2_pointerResult_r2) ++ wsX20 ++ wsX00)
def wsX2_placeAfter_r1 : List Cond := [Cond.fieldLink RX2 23 "CountedHeap" "returnPlaces" "[I", Cond.fieldLink RX2 27 "CountedHeap" "openCalls" "I", Cond.methodLink RX2 199 yX2_valueOf, Cond.instanceMethod yX2_valueOf, Cond.selects RX2 yX2_valueOf yX2_valueOf, Cond.initialized RX2, Cond.code yX2_valueOf cX2_valueOf 2 (some .int), Cond.fieldLink RX2 19 "CountedHeap" "memory" "LCountedHeap$Memory;", Cond.methodLink RX2 149 yX0_cellOf, Cond.instanceMethod yX0_cellOf, Cond.selects RX0 yX0_cellOf yX0_cellOf, Cond.initialized RX0, Cond.code yX0_cellOf cX0_cellOf 2 (some .int), Cond.methodLink RX0 47 yX0_blockOf, Cond.instanceMethod yX0_blockOf, Cond.selects RX0 yX0_blockOf yX0_blockOf, Cond.code yX0_blockOf cX0_blockOf 2 (some .int), Cond.fieldLink RX0 18 "CountedHeap$Memory" "cells" "[I", Cond.methodLink RX0 51 yX0_wordOf, Cond.static yX0_wordOf, Cond.code yX0_wordOf cX0_wordOf 1 (some .int), Cond.methodLink RX0 54 yX0_cellOfWord, Cond.static yX0_cellOfWord, Cond.code yX0_cellOfWord cX0_cellOfWord 2 (some .int)]
def wsX2_placeAfter_r2 : List Cond := [Cond.methodLink RX2 97 yX0_read, Cond.instanceMethod yX0_read, Cond.selects RX0 yX0_read yX0_read, Cond.code yX0_read cX0_read 2 (some .int)]
def wsX2_placeAfter : List Cond := .code yX2_placeAfter cX2_placeAfter 5 (some .int) :: ((wsX2_placeAfter_r1 ++ wsX2_placeAfter_r2) ++ wsX20 ++ wsX00)
def wsX2_doInstruction_r1 : List Cond := [Cond.fieldLink RX2 12 "CountedHeap" "program" "LCountedHeap$Program;", Cond.fieldLink RX2 45 "CountedHeap" "ROLE_OF_X" "[I", Cond.fieldLink RX2 52 "CountedHeap" "ROLE_OF_Y" "[I", Cond.fieldLink RX2 55 "CountedHeap" "ROLE_OF_Z" "[I", Cond.fieldLink RX2 19 "CountedHeap" "memory" "LCountedHeap$Memory;", Cond.fieldLink RX2 31 "CountedHeap" "nextPlace" "I", Cond.methodLink RX2 87 yX1_opAt, Cond.instanceMethod yX1_opAt, Cond.selects RX1 yX1_opAt yX1_opAt, Cond.initialized RX1, Cond.code yX1_opAt cX1_opAt 2 (some .int), Cond.fieldLink RX1 9 "CountedHeap$Program" "ops" "[I", Cond.methodLink RX2 134 yX1_xAt, Cond.instanceMethod yX1_xAt, Cond.selects RX1 yX1_xAt yX1_xAt, Cond.code yX1_xAt cX1_xAt 2 (some .int), Cond.fieldLink RX1 15 "CountedHeap$Program" "xs" "[I", Cond.methodLink RX2 137 yX1_yAt, Cond.instanceMethod yX1_yAt, Cond.selects RX1 yX1_yAt yX1_yAt, Cond.code yX1_yAt cX1_yAt 2 (some .int), Cond.fieldLink RX1 18 "CountedHeap$Program" "ys" "[I", Cond.methodLink RX2 140 yX1_zAt, Cond.instanceMethod yX1_zAt]
def wsX2_doInstruction_r2 : List Cond := [Cond.selects RX1 yX1_zAt yX1_zAt, Cond.code yX1_zAt cX1_zAt 2 (some .int), Cond.fieldLink RX1 21 "CountedHeap$Program" "zs" "[I", Cond.methodLink RX2 143 yX2_checkOperand, Cond.instanceMethod yX2_checkOperand, Cond.selects RX2 yX2_checkOperand yX2_checkOperand, Cond.initialized RX2, Cond.code yX2_checkOperand cX2_checkOperand 3 none, Cond.classLink RX2 77 "java/lang/IllegalArgumentException", Cond.initialized "java/lang/IllegalArgumentException", Cond.methodLink RX2 165 yX0_blockOf, Cond.instanceMethod yX0_blockOf, Cond.selects RX0 yX0_blockOf yX0_blockOf, Cond.initialized RX0, Cond.code yX0_blockOf cX0_blockOf 2 (some .int), Cond.fieldLink RX0 18 "CountedHeap$Memory" "cells" "[I", Cond.methodLink RX2 168 yX0_wordOf, Cond.static yX0_wordOf, Cond.code yX0_wordOf cX0_wordOf 1 (some .int), Cond.methodLink RX2 171 yX2_checkWord, Cond.instanceMethod yX2_checkWord, Cond.selects RX2 yX2_checkWord yX2_checkWord, Cond.code yX2_checkWord cX2_checkWord 3 none, Cond.classLink RX2 179 "java/lang/IllegalStateException"]
def wsX2_doInstruction_r3 : List Cond := [Cond.initialized "java/lang/IllegalStateException", Cond.classLink RX2 184 "java/lang/IndexOutOfBoundsException", Cond.initialized "java/lang/IndexOutOfBoundsException", Cond.methodLink RX2 113 yX0_hasWord, Cond.instanceMethod yX0_hasWord, Cond.selects RX0 yX0_hasWord yX0_hasWord, Cond.code yX0_hasWord cX0_hasWord 3 (some .boolean), Cond.fieldLink RX0 9 "CountedHeap$Memory" "sizes" "[I", Cond.fieldLink RX0 25 "CountedHeap$Memory" "types" "[I", Cond.methodLink RX0 62 yX0_isBlock, Cond.instanceMethod yX0_isBlock, Cond.selects RX0 yX0_isBlock yX0_isBlock, Cond.code yX0_isBlock cX0_isBlock 2 (some .boolean), Cond.fieldLink RX0 21 "CountedHeap$Memory" "used" "[Z", Cond.methodLink RX2 174 yX0_holdsPointer, Cond.instanceMethod yX0_holdsPointer, Cond.selects RX0 yX0_holdsPointer yX0_holdsPointer, Cond.code yX0_holdsPointer cX0_holdsPointer 2 (some .boolean), Cond.methodLink RX0 47 yX0_blockOf, Cond.methodLink RX0 51 yX0_wordOf, Cond.methodLink RX0 58 yX0_isPointerWord, Cond.instanceMethod yX0_isPointerWord, Cond.selects RX0 yX0_isPointerWord yX0_isPointerWord, Cond.code yX0_isPointerWord cX0_isPointerWord 3 (some .boolean)]
def wsX2_doInstruction_r4 : List Cond := [Cond.methodLink RX0 66 yX0_hasWord, Cond.methodLink RX0 69 yX0_isMapped, Cond.instanceMethod yX0_isMapped, Cond.selects RX0 yX0_isMapped yX0_isMapped, Cond.code yX0_isMapped cX0_isMapped 3 (some .boolean), Cond.fieldLink RX0 15 "CountedHeap$Memory" "maps" "[I", Cond.methodLink RX2 146 yX2_checkRoom, Cond.instanceMethod yX2_checkRoom, Cond.selects RX2 yX2_checkRoom yX2_checkRoom, Cond.code yX2_checkRoom cX2_checkRoom 2 none, Cond.classLink RX2 190 "java/lang/UnsupportedOperationException", Cond.initialized "java/lang/UnsupportedOperationException", Cond.fieldLink RX2 27 "CountedHeap" "openCalls" "I", Cond.methodLink RX2 189 yX0_isFull, Cond.instanceMethod yX0_isFull, Cond.selects RX0 yX0_isFull yX0_isFull, Cond.code yX0_isFull cX0_isFull 1 (some .boolean), Cond.fieldLink RX0 41 "CountedHeap$Memory" "usedTotal" "I", Cond.methodLink RX2 149 yX0_cellOf, Cond.instanceMethod yX0_cellOf, Cond.selects RX0 yX0_cellOf yX0_cellOf, Cond.code yX0_cellOf cX0_cellOf 2 (some .int), Cond.methodLink RX0 54 yX0_cellOfWord, Cond.static yX0_cellOfWord]
def wsX2_doInstruction_r5 : List Cond := [Cond.code yX0_cellOfWord cX0_cellOfWord 2 (some .int), Cond.methodLink RX2 152 yX2_intResult, Cond.instanceMethod yX2_intResult, Cond.selects RX2 yX2_intResult yX2_intResult, Cond.code yX2_intResult cX2_intResult 4 (some .int), Cond.methodLink RX2 199 yX2_valueOf, Cond.instanceMethod yX2_valueOf, Cond.selects RX2 yX2_valueOf yX2_valueOf, Cond.code yX2_valueOf cX2_valueOf 2 (some .int), Cond.methodLink RX2 97 yX0_read, Cond.instanceMethod yX0_read, Cond.selects RX0 yX0_read yX0_read, Cond.code yX0_read cX0_read 2 (some .int), Cond.methodLink RX2 100 yX0_writeInt, Cond.instanceMethod yX0_writeInt, Cond.selects RX0 yX0_writeInt yX0_writeInt, Cond.code yX0_writeInt cX0_writeInt 3 none, Cond.methodLink RX2 156 yX2_pointerResult, Cond.instanceMethod yX2_pointerResult, Cond.selects RX2 yX2_pointerResult yX2_pointerResult, Cond.code yX2_pointerResult cX2_pointerResult 3 (some .int), Cond.methodLink RX2 202 yX0_makeBlock, Cond.instanceMethod yX0_makeBlock, Cond.selects RX0 yX0_makeBlock yX0_makeBlock]
def wsX2_doInstruction_r6 : List Cond := [Cond.code yX0_makeBlock cX0_makeBlock 3 (some .int), Cond.fieldLink RX0 28 "CountedHeap$Memory" "counts" "[I", Cond.methodLink RX0 76 yX0_emptyWords, Cond.instanceMethod yX0_emptyWords, Cond.selects RX0 yX0_emptyWords yX0_emptyWords, Cond.code yX0_emptyWords cX0_emptyWords 3 none, Cond.methodLink RX2 159 yX0_writePointer, Cond.instanceMethod yX0_writePointer, Cond.selects RX0 yX0_writePointer yX0_writePointer, Cond.code yX0_writePointer cX0_writePointer 4 none, Cond.methodLink RX0 72 yX0_dropPointer, Cond.instanceMethod yX0_dropPointer, Cond.selects RX0 yX0_dropPointer yX0_dropPointer, Cond.code yX0_dropPointer cX0_dropPointer 3 none, Cond.fieldLink RX0 37 "CountedHeap$Memory" "queued" "I", Cond.fieldLink RX0 34 "CountedHeap$Memory" "queue" "[I", Cond.methodLink RX0 79 yX0_countLess, Cond.instanceMethod yX0_countLess, Cond.selects RX0 yX0_countLess yX0_countLess, Cond.code yX0_countLess cX0_countLess 2 none, Cond.methodLink RX0 85 yX0_giveBack, Cond.instanceMethod yX0_giveBack, Cond.selects RX0 yX0_giveBack yX0_giveBack, Cond.code yX0_giveBack cX0_giveBack 2 none]
def wsX2_doInstruction_r7 : List Cond := [Cond.fieldLink RX0 44 "CountedHeap$Memory" "givenBack" "I", Cond.methodLink RX0 88 yX0_enqueue, Cond.instanceMethod yX0_enqueue, Cond.selects RX0 yX0_enqueue yX0_enqueue, Cond.code yX0_enqueue cX0_enqueue 2 none, Cond.methodLink RX0 82 yX0_dropPointersOf, Cond.instanceMethod yX0_dropPointersOf, Cond.selects RX0 yX0_dropPointersOf yX0_dropPointersOf, Cond.code yX0_dropPointersOf cX0_dropPointersOf 3 none, Cond.methodLink RX2 162 yX2_placeAfter, Cond.instanceMethod yX2_placeAfter, Cond.selects RX2 yX2_placeAfter yX2_placeAfter, Cond.code yX2_placeAfter cX2_placeAfter 5 (some .int), Cond.fieldLink RX2 23 "CountedHeap" "returnPlaces" "[I"]
def wsX2_doInstruction : List Cond := .code yX2_doInstruction cX2_doInstruction 6 none :: ((wsX2_doInstruction_r1 ++ (wsX2_doInstruction_r2 ++ (wsX2_doInstruction_r3 ++ (wsX2_doInstruction_r4 ++ (wsX2_doInstruction_r5 ++ (wsX2_doInstruction_r6 ++ wsX2_doInstruction_r7)))))) ++ wsX20 ++ wsX10 ++ wsX00 ++ (vx_atS RX2 81 "java/lang/IllegalArgumentException" ["java/lang/RuntimeException", "java/lang/Exception"]).filter goodWord ++ (vx_atS RX2 183 "java/lang/IllegalStateException" ["java/lang/RuntimeException", "java/lang/Exception"]).filter goodWord ++ (vx_atS RX2 188 "java/lang/IndexOutOfBoundsException" ["java/lang/RuntimeException", "java/lang/Exception"]).filter goodWord ++ (vx_atS RX2 194 "java/lang/UnsupportedOperationException" ["java/lang/RuntimeException", "java/lang/Exception"]).filter goodWord)
def wsX2_run_r1 : List Cond := [Cond.classLink RX2 77 "java/lang/IllegalArgumentException", Cond.initialized "java/lang/IllegalArgumentException", Cond.fieldLink RX2 12 "CountedHeap" "program" "LCountedHeap$Program;", Cond.fieldLink RX2 31 "CountedHeap" "nextPlace" "I", Cond.methodLink RX2 84 yX1_has, Cond.instanceMethod yX1_has, Cond.selects RX1 yX1_has yX1_has, Cond.initialized RX1, Cond.code yX1_has cX1_has 2 (some .boolean), Cond.fieldLink RX1 24 "CountedHeap$Program" "length" "I", Cond.methodLink RX2 87 yX1_opAt, Cond.instanceMethod yX1_opAt, Cond.selects RX1 yX1_opAt yX1_opAt, Cond.code yX1_opAt cX1_opAt 2 (some .int), Cond.fieldLink RX1 9 "CountedHeap$Program" "ops" "[I", Cond.methodLink RX2 91 yX2_doInstruction, Cond.instanceMethod yX2_doInstruction, Cond.selects RX2 yX2_doInstruction yX2_doInstruction, Cond.initialized RX2, Cond.code yX2_doInstruction cX2_doInstruction 6 none, Cond.fieldLink RX2 45 "CountedHeap" "ROLE_OF_X" "[I", Cond.fieldLink RX2 52 "CountedHeap" "ROLE_OF_Y" "[I", Cond.fieldLink RX2 55 "CountedHeap" "ROLE_OF_Z" "[I", Cond.fieldLink RX2 19 "CountedHeap" "memory" "LCountedHeap$Memory;"]
def wsX2_run_r2 : List Cond := [Cond.methodLink RX2 134 yX1_xAt, Cond.instanceMethod yX1_xAt, Cond.selects RX1 yX1_xAt yX1_xAt, Cond.code yX1_xAt cX1_xAt 2 (some .int), Cond.fieldLink RX1 15 "CountedHeap$Program" "xs" "[I", Cond.methodLink RX2 137 yX1_yAt, Cond.instanceMethod yX1_yAt, Cond.selects RX1 yX1_yAt yX1_yAt, Cond.code yX1_yAt cX1_yAt 2 (some .int), Cond.fieldLink RX1 18 "CountedHeap$Program" "ys" "[I", Cond.methodLink RX2 140 yX1_zAt, Cond.instanceMethod yX1_zAt, Cond.selects RX1 yX1_zAt yX1_zAt, Cond.code yX1_zAt cX1_zAt 2 (some .int), Cond.fieldLink RX1 21 "CountedHeap$Program" "zs" "[I", Cond.methodLink RX2 143 yX2_checkOperand, Cond.instanceMethod yX2_checkOperand, Cond.selects RX2 yX2_checkOperand yX2_checkOperand, Cond.code yX2_checkOperand cX2_checkOperand 3 none, Cond.methodLink RX2 165 yX0_blockOf, Cond.instanceMethod yX0_blockOf, Cond.selects RX0 yX0_blockOf yX0_blockOf, Cond.initialized RX0, Cond.code yX0_blockOf cX0_blockOf 2 (some .int)]
def wsX2_run_r3 : List Cond := [Cond.fieldLink RX0 18 "CountedHeap$Memory" "cells" "[I", Cond.methodLink RX2 168 yX0_wordOf, Cond.static yX0_wordOf, Cond.code yX0_wordOf cX0_wordOf 1 (some .int), Cond.methodLink RX2 171 yX2_checkWord, Cond.instanceMethod yX2_checkWord, Cond.selects RX2 yX2_checkWord yX2_checkWord, Cond.code yX2_checkWord cX2_checkWord 3 none, Cond.classLink RX2 179 "java/lang/IllegalStateException", Cond.initialized "java/lang/IllegalStateException", Cond.classLink RX2 184 "java/lang/IndexOutOfBoundsException", Cond.initialized "java/lang/IndexOutOfBoundsException", Cond.methodLink RX2 113 yX0_hasWord, Cond.instanceMethod yX0_hasWord, Cond.selects RX0 yX0_hasWord yX0_hasWord, Cond.code yX0_hasWord cX0_hasWord 3 (some .boolean), Cond.fieldLink RX0 9 "CountedHeap$Memory" "sizes" "[I", Cond.fieldLink RX0 25 "CountedHeap$Memory" "types" "[I", Cond.methodLink RX0 62 yX0_isBlock, Cond.instanceMethod yX0_isBlock, Cond.selects RX0 yX0_isBlock yX0_isBlock, Cond.code yX0_isBlock cX0_isBlock 2 (some .boolean), Cond.fieldLink RX0 21 "CountedHeap$Memory" "used" "[Z", Cond.methodLink RX2 174 yX0_holdsPointer]
def wsX2_run_r4 : List Cond := [Cond.instanceMethod yX0_holdsPointer, Cond.selects RX0 yX0_holdsPointer yX0_holdsPointer, Cond.code yX0_holdsPointer cX0_holdsPointer 2 (some .boolean), Cond.methodLink RX0 47 yX0_blockOf, Cond.methodLink RX0 51 yX0_wordOf, Cond.methodLink RX0 58 yX0_isPointerWord, Cond.instanceMethod yX0_isPointerWord, Cond.selects RX0 yX0_isPointerWord yX0_isPointerWord, Cond.code yX0_isPointerWord cX0_isPointerWord 3 (some .boolean), Cond.methodLink RX0 66 yX0_hasWord, Cond.methodLink RX0 69 yX0_isMapped, Cond.instanceMethod yX0_isMapped, Cond.selects RX0 yX0_isMapped yX0_isMapped, Cond.code yX0_isMapped cX0_isMapped 3 (some .boolean), Cond.fieldLink RX0 15 "CountedHeap$Memory" "maps" "[I", Cond.methodLink RX2 146 yX2_checkRoom, Cond.instanceMethod yX2_checkRoom, Cond.selects RX2 yX2_checkRoom yX2_checkRoom, Cond.code yX2_checkRoom cX2_checkRoom 2 none, Cond.classLink RX2 190 "java/lang/UnsupportedOperationException", Cond.initialized "java/lang/UnsupportedOperationException", Cond.fieldLink RX2 27 "CountedHeap" "openCalls" "I", Cond.methodLink RX2 189 yX0_isFull, Cond.instanceMethod yX0_isFull]
def wsX2_run_r5 : List Cond := [Cond.selects RX0 yX0_isFull yX0_isFull, Cond.code yX0_isFull cX0_isFull 1 (some .boolean), Cond.fieldLink RX0 41 "CountedHeap$Memory" "usedTotal" "I", Cond.methodLink RX2 149 yX0_cellOf, Cond.instanceMethod yX0_cellOf, Cond.selects RX0 yX0_cellOf yX0_cellOf, Cond.code yX0_cellOf cX0_cellOf 2 (some .int), Cond.methodLink RX0 54 yX0_cellOfWord, Cond.static yX0_cellOfWord, Cond.code yX0_cellOfWord cX0_cellOfWord 2 (some .int), Cond.methodLink RX2 152 yX2_intResult, Cond.instanceMethod yX2_intResult, Cond.selects RX2 yX2_intResult yX2_intResult, Cond.code yX2_intResult cX2_intResult 4 (some .int), Cond.methodLink RX2 199 yX2_valueOf, Cond.instanceMethod yX2_valueOf, Cond.selects RX2 yX2_valueOf yX2_valueOf, Cond.code yX2_valueOf cX2_valueOf 2 (some .int), Cond.methodLink RX2 97 yX0_read, Cond.instanceMethod yX0_read, Cond.selects RX0 yX0_read yX0_read, Cond.code yX0_read cX0_read 2 (some .int), Cond.methodLink RX2 100 yX0_writeInt, Cond.instanceMethod yX0_writeInt]
def wsX2_run_r6 : List Cond := [Cond.selects RX0 yX0_writeInt yX0_writeInt, Cond.code yX0_writeInt cX0_writeInt 3 none, Cond.methodLink RX2 156 yX2_pointerResult, Cond.instanceMethod yX2_pointerResult, Cond.selects RX2 yX2_pointerResult yX2_pointerResult, Cond.code yX2_pointerResult cX2_pointerResult 3 (some .int), Cond.methodLink RX2 202 yX0_makeBlock, Cond.instanceMethod yX0_makeBlock, Cond.selects RX0 yX0_makeBlock yX0_makeBlock, Cond.code yX0_makeBlock cX0_makeBlock 3 (some .int), Cond.fieldLink RX0 28 "CountedHeap$Memory" "counts" "[I", Cond.methodLink RX0 76 yX0_emptyWords, Cond.instanceMethod yX0_emptyWords, Cond.selects RX0 yX0_emptyWords yX0_emptyWords, Cond.code yX0_emptyWords cX0_emptyWords 3 none, Cond.methodLink RX2 159 yX0_writePointer, Cond.instanceMethod yX0_writePointer, Cond.selects RX0 yX0_writePointer yX0_writePointer, Cond.code yX0_writePointer cX0_writePointer 4 none, Cond.methodLink RX0 72 yX0_dropPointer, Cond.instanceMethod yX0_dropPointer, Cond.selects RX0 yX0_dropPointer yX0_dropPointer, Cond.code yX0_dropPointer cX0_dropPointer 3 none, Cond.fieldLink RX0 37 "CountedHeap$Memory" "queued" "I"]
def wsX2_run_r7 : List Cond := [Cond.fieldLink RX0 34 "CountedHeap$Memory" "queue" "[I", Cond.methodLink RX0 79 yX0_countLess, Cond.instanceMethod yX0_countLess, Cond.selects RX0 yX0_countLess yX0_countLess, Cond.code yX0_countLess cX0_countLess 2 none, Cond.methodLink RX0 85 yX0_giveBack, Cond.instanceMethod yX0_giveBack, Cond.selects RX0 yX0_giveBack yX0_giveBack, Cond.code yX0_giveBack cX0_giveBack 2 none, Cond.fieldLink RX0 44 "CountedHeap$Memory" "givenBack" "I", Cond.methodLink RX0 88 yX0_enqueue, Cond.instanceMethod yX0_enqueue, Cond.selects RX0 yX0_enqueue yX0_enqueue, Cond.code yX0_enqueue cX0_enqueue 2 none, Cond.methodLink RX0 82 yX0_dropPointersOf, Cond.instanceMethod yX0_dropPointersOf, Cond.selects RX0 yX0_dropPointersOf yX0_dropPointersOf, Cond.code yX0_dropPointersOf cX0_dropPointersOf 3 none, Cond.methodLink RX2 162 yX2_placeAfter, Cond.instanceMethod yX2_placeAfter, Cond.selects RX2 yX2_placeAfter yX2_placeAfter, Cond.code yX2_placeAfter cX2_placeAfter 5 (some .int), Cond.fieldLink RX2 23 "CountedHeap" "returnPlaces" "[I"]
def wsX2_run : List Cond := .code yX2_run cX2_run 3 (some .int) :: ((wsX2_run_r1 ++ (wsX2_run_r2 ++ (wsX2_run_r3 ++ (wsX2_run_r4 ++ (wsX2_run_r5 ++ (wsX2_run_r6 ++ wsX2_run_r7)))))) ++ wsX20 ++ wsX10 ++ wsX00 ++ (vx_atS RX2 81 "java/lang/IllegalArgumentException" ["java/lang/RuntimeException", "java/lang/Exception"]).filter goodWord ++ (vx_atS RX2 183 "java/lang/IllegalStateException" ["java/lang/RuntimeException", "java/lang/Exception"]).filter goodWord ++ (vx_atS RX2 188 "java/lang/IndexOutOfBoundsException" ["java/lang/RuntimeException", "java/lang/Exception"]).filter goodWord ++ (vx_atS RX2 194 "java/lang/UnsupportedOperationException" ["java/lang/RuntimeException", "java/lang/Exception"]).filter goodWord)
def wsX2_next : List Cond := .code yX2_next cX2_next 1 (some .int) :: ([.fieldLink RX2 31 "CountedHeap" "nextPlace" "I"] ++ wsX20)
def wsX2_open : List Cond := .code yX2_open cX2_open 1 (some .int) :: ([.fieldLink RX2 27 "CountedHeap" "openCalls" "I"] ++ wsX20)
def wsX2_isFrameInt : List Cond := .code yX2_isFrameInt cX2_isFrameInt 1 (some .boolean) :: ([])
def wsX2_frame : List Cond := .code yX2_frame cX2_frame 2 (some .int) :: ([.fieldLink RX2 19 "CountedHeap" "memory" "LCountedHeap$Memory;", .methodLink RX2 94 yX2_isFrameInt, .static yX2_isFrameInt, .initialized RX2, .code yX2_isFrameInt cX2_isFrameInt 1 (some .boolean), .methodLink RX2 97 yX0_read, .instanceMethod yX0_read, .selects RX0 yX0_read yX0_read, .initialized RX0, .code yX0_read cX0_read 2 (some .int), .fieldLink RX0 18 "CountedHeap$Memory" "cells" "[I"] ++ wsX20 ++ wsX00)
def wsX2_set : List Cond := .code yX2_set cX2_set 3 (some .boolean) :: ([.fieldLink RX2 19 "CountedHeap" "memory" "LCountedHeap$Memory;", .methodLink RX2 94 yX2_isFrameInt, .static yX2_isFrameInt, .initialized RX2, .code yX2_isFrameInt cX2_isFrameInt 1 (some .boolean), .methodLink RX2 100 yX0_writeInt, .instanceMethod yX0_writeInt, .selects RX0 yX0_writeInt yX0_writeInt, .initialized RX0, .code yX0_writeInt cX0_writeInt 3 none, .fieldLink RX0 18 "CountedHeap$Memory" "cells" "[I"] ++ wsX20 ++ wsX00)
def wsX2_root : List Cond := .code yX2_root cX2_root 2 (some .int) :: ([.fieldLink RX2 19 "CountedHeap" "memory" "LCountedHeap$Memory;", .methodLink RX2 97 yX0_read, .instanceMethod yX0_read, .selects RX0 yX0_read yX0_read, .initialized RX0, .code yX0_read cX0_read 2 (some .int), .fieldLink RX0 18 "CountedHeap$Memory" "cells" "[I"] ++ wsX20 ++ wsX00)
def wsX2_blocks : List Cond := .code yX2_blocks cX2_blocks 1 (some .int) :: ([.fieldLink RX2 19 "CountedHeap" "memory" "LCountedHeap$Memory;", .methodLink RX2 104 yX0_blockTotal, .instanceMethod yX0_blockTotal, .selects RX0 yX0_blockTotal yX0_blockTotal, .initialized RX0, .code yX0_blockTotal cX0_blockTotal 1 (some .int), .fieldLink RX0 41 "CountedHeap$Memory" "usedTotal" "I"] ++ wsX20 ++ wsX00)
def wsX2_count : List Cond := .code yX2_count cX2_count 2 (some .int) :: ([.fieldLink RX2 19 "CountedHeap" "memory" "LCountedHeap$Memory;", .methodLink RX2 107 yX0_countOf, .instanceMethod yX0_countOf, .selects RX0 yX0_countOf yX0_countOf, .initialized RX0, .code yX0_countOf cX0_countOf 2 (some .int), .fieldLink RX0 28 "CountedHeap$Memory" "counts" "[I", .methodLink RX0 62 yX0_isBlock, .instanceMethod yX0_isBlock, .selects RX0 yX0_isBlock yX0_isBlock, .code yX0_isBlock cX0_isBlock 2 (some .boolean), .fieldLink RX0 21 "CountedHeap$Memory" "used" "[Z"] ++ wsX20 ++ wsX00)
def wsX2_typeOf : List Cond := .code yX2_typeOf cX2_typeOf 2 (some .int) :: ([.fieldLink RX2 19 "CountedHeap" "memory" "LCountedHeap$Memory;", .methodLink RX2 110 yX0_blockType, .instanceMethod yX0_blockType, .selects RX0 yX0_blockType yX0_blockType, .initialized RX0, .code yX0_blockType cX0_blockType 2 (some .int), .fieldLink RX0 25 "CountedHeap$Memory" "types" "[I", .methodLink RX0 62 yX0_isBlock, .instanceMethod yX0_isBlock, .selects RX0 yX0_isBlock yX0_isBlock, .code yX0_isBlock cX0_isBlock 2 (some .boolean), .fieldLink RX0 21 "CountedHeap$Memory" "used" "[Z"] ++ wsX20 ++ wsX00)
def wsX2_word : List Cond := .code yX2_word cX2_word 3 (some .long) :: ([.fieldLink RX2 19 "CountedHeap" "memory" "LCountedHeap$Memory;", .constantLong RX2 120 (4294967296), .methodLink RX2 113 yX0_hasWord, .instanceMethod yX0_hasWord, .selects RX0 yX0_hasWord yX0_hasWord, .initialized RX0, .code yX0_hasWord cX0_hasWord 3 (some .boolean), .fieldLink RX0 9 "CountedHeap$Memory" "sizes" "[I", .fieldLink RX0 25 "CountedHeap$Memory" "types" "[I", .methodLink RX0 62 yX0_isBlock, .instanceMethod yX0_isBlock, .selects RX0 yX0_isBlock yX0_isBlock, .code yX0_isBlock cX0_isBlock 2 (some .boolean), .fieldLink RX0 21 "CountedHeap$Memory" "used" "[Z", .methodLink RX2 116 yX0_cellOfWord, .static yX0_cellOfWord, .code yX0_cellOfWord cX0_cellOfWord 2 (some .int), .methodLink RX2 97 yX0_read, .instanceMethod yX0_read, .selects RX0 yX0_read yX0_read, .code yX0_read cX0_read 2 (some .int), .fieldLink RX0 18 "CountedHeap$Memory" "cells" "[I"] ++ wsX20 ++ wsX00)
def wsX2_given : List Cond := .code yX2_given cX2_given 1 (some .int) :: ([.fieldLink RX2 19 "CountedHeap" "memory" "LCountedHeap$Memory;", .methodLink RX2 122 yX0_givenTotal, .instanceMethod yX0_givenTotal, .selects RX0 yX0_givenTotal yX0_givenTotal, .initialized RX0, .code yX0_givenTotal cX0_givenTotal 1 (some .int), .fieldLink RX0 44 "CountedHeap$Memory" "givenBack" "I"] ++ wsX20 ++ wsX00)
def wsX2_lost_r1 : List Cond := [Cond.fieldLink RX2 19 "CountedHeap" "memory" "LCountedHeap$Memory;", Cond.methodLink RX2 125 yX0_findLost, Cond.instanceMethod yX0_findLost, Cond.selects RX0 yX0_findLost yX0_findLost, Cond.initialized RX0, Cond.code yX0_findLost cX0_findLost 2 (some .int), Cond.fieldLink RX0 37 "CountedHeap$Memory" "queued" "I", Cond.fieldLink RX0 31 "CountedHeap$Memory" "reached" "[Z", Cond.fieldLink RX0 18 "CountedHeap$Memory" "cells" "[I", Cond.fieldLink RX0 34 "CountedHeap$Memory" "queue" "[I", Cond.fieldLink RX0 41 "CountedHeap$Memory" "usedTotal" "I", Cond.methodLink RX0 91 yX0_reach, Cond.instanceMethod yX0_reach, Cond.selects RX0 yX0_reach yX0_reach, Cond.code yX0_reach cX0_reach 2 none, Cond.methodLink RX0 62 yX0_isBlock, Cond.instanceMethod yX0_isBlock, Cond.selects RX0 yX0_isBlock yX0_isBlock, Cond.code yX0_isBlock cX0_isBlock 2 (some .boolean), Cond.fieldLink RX0 21 "CountedHeap$Memory" "used" "[Z", Cond.methodLink RX0 88 yX0_enqueue, Cond.instanceMethod yX0_enqueue, Cond.selects RX0 yX0_enqueue yX0_enqueue, Cond.code yX0_enqueue cX0_enqueue 2 none]
def wsX2_lost_r2 : List Cond := [Cond.methodLink RX0 94 yX0_reachPointersOf, Cond.instanceMethod yX0_reachPointersOf, Cond.selects RX0 yX0_reachPointersOf yX0_reachPointersOf, Cond.code yX0_reachPointersOf cX0_reachPointersOf 3 none, Cond.methodLink RX0 58 yX0_isPointerWord, Cond.instanceMethod yX0_isPointerWord, Cond.selects RX0 yX0_isPointerWord yX0_isPointerWord, Cond.code yX0_isPointerWord cX0_isPointerWord 3 (some .boolean), Cond.methodLink RX0 66 yX0_hasWord, Cond.instanceMethod yX0_hasWord, Cond.selects RX0 yX0_hasWord yX0_hasWord, Cond.code yX0_hasWord cX0_hasWord 3 (some .boolean), Cond.fieldLink RX0 9 "CountedHeap$Memory" "sizes" "[I", Cond.fieldLink RX0 25 "CountedHeap$Memory" "types" "[I", Cond.methodLink RX0 69 yX0_isMapped, Cond.instanceMethod yX0_isMapped, Cond.selects RX0 yX0_isMapped yX0_isMapped, Cond.code yX0_isMapped cX0_isMapped 3 (some .boolean), Cond.fieldLink RX0 15 "CountedHeap$Memory" "maps" "[I", Cond.methodLink RX0 54 yX0_cellOfWord, Cond.static yX0_cellOfWord, Cond.code yX0_cellOfWord cX0_cellOfWord 2 (some .int)]
def wsX2_lost : List Cond := .code yX2_lost cX2_lost 1 (some .int) :: ((wsX2_lost_r1 ++ wsX2_lost_r2) ++ wsX20 ++ wsX00)
def wsX2_collect_r1 : List Cond := [Cond.fieldLink RX2 19 "CountedHeap" "memory" "LCountedHeap$Memory;", Cond.methodLink RX2 128 yX0_giveBackLost, Cond.instanceMethod yX0_giveBackLost, Cond.selects RX0 yX0_giveBackLost yX0_giveBackLost, Cond.initialized RX0, Cond.code yX0_giveBackLost cX0_giveBackLost 3 (some .int), Cond.fieldLink RX0 21 "CountedHeap$Memory" "used" "[Z", Cond.fieldLink RX0 31 "CountedHeap$Memory" "reached" "[Z", Cond.methodLink RX0 97 yX0_findLost, Cond.instanceMethod yX0_findLost, Cond.selects RX0 yX0_findLost yX0_findLost, Cond.code yX0_findLost cX0_findLost 2 (some .int), Cond.fieldLink RX0 37 "CountedHeap$Memory" "queued" "I", Cond.fieldLink RX0 18 "CountedHeap$Memory" "cells" "[I", Cond.fieldLink RX0 34 "CountedHeap$Memory" "queue" "[I", Cond.fieldLink RX0 41 "CountedHeap$Memory" "usedTotal" "I", Cond.methodLink RX0 91 yX0_reach, Cond.instanceMethod yX0_reach, Cond.selects RX0 yX0_reach yX0_reach, Cond.code yX0_reach cX0_reach 2 none, Cond.methodLink RX0 62 yX0_isBlock, Cond.instanceMethod yX0_isBlock, Cond.selects RX0 yX0_isBlock yX0_isBlock, Cond.code yX0_isBlock cX0_isBlock 2 (some .boolean)]
def wsX2_collect_r2 : List Cond := [Cond.methodLink RX0 88 yX0_enqueue, Cond.instanceMethod yX0_enqueue, Cond.selects RX0 yX0_enqueue yX0_enqueue, Cond.code yX0_enqueue cX0_enqueue 2 none, Cond.methodLink RX0 94 yX0_reachPointersOf, Cond.instanceMethod yX0_reachPointersOf, Cond.selects RX0 yX0_reachPointersOf yX0_reachPointersOf, Cond.code yX0_reachPointersOf cX0_reachPointersOf 3 none, Cond.methodLink RX0 58 yX0_isPointerWord, Cond.instanceMethod yX0_isPointerWord, Cond.selects RX0 yX0_isPointerWord yX0_isPointerWord, Cond.code yX0_isPointerWord cX0_isPointerWord 3 (some .boolean), Cond.methodLink RX0 66 yX0_hasWord, Cond.instanceMethod yX0_hasWord, Cond.selects RX0 yX0_hasWord yX0_hasWord, Cond.code yX0_hasWord cX0_hasWord 3 (some .boolean), Cond.fieldLink RX0 9 "CountedHeap$Memory" "sizes" "[I", Cond.fieldLink RX0 25 "CountedHeap$Memory" "types" "[I", Cond.methodLink RX0 69 yX0_isMapped, Cond.instanceMethod yX0_isMapped, Cond.selects RX0 yX0_isMapped yX0_isMapped, Cond.code yX0_isMapped cX0_isMapped 3 (some .boolean), Cond.fieldLink RX0 15 "CountedHeap$Memory" "maps" "[I", Cond.methodLink RX0 54 yX0_cellOfWord]
def wsX2_collect_r3 : List Cond := [Cond.static yX0_cellOfWord, Cond.code yX0_cellOfWord cX0_cellOfWord 2 (some .int), Cond.methodLink RX0 101 yX0_takeOffCountsOf, Cond.instanceMethod yX0_takeOffCountsOf, Cond.selects RX0 yX0_takeOffCountsOf yX0_takeOffCountsOf, Cond.code yX0_takeOffCountsOf cX0_takeOffCountsOf 4 none, Cond.fieldLink RX0 28 "CountedHeap$Memory" "counts" "[I", Cond.methodLink RX0 85 yX0_giveBack, Cond.instanceMethod yX0_giveBack, Cond.selects RX0 yX0_giveBack yX0_giveBack, Cond.code yX0_giveBack cX0_giveBack 2 none, Cond.fieldLink RX0 44 "CountedHeap$Memory" "givenBack" "I"]
def wsX2_collect : List Cond := .code yX2_collect cX2_collect 1 (some .int) :: ((wsX2_collect_r1 ++ (wsX2_collect_r2 ++ wsX2_collect_r3)) ++ wsX20 ++ wsX00)
def wsX3_init : List Cond := .code yX3_init cX3_init 2 none :: ([.methodLink RX3 1 objectInit, .instanceMethod objectInit, .code objectInit ⟨#[0xb1]⟩ 1 none, .arrayClass .int, .fieldLink RX3 7 "CountedHeapModel" "size" "[I", .fieldLink RX3 13 "CountedHeapModel" "map" "[I", .fieldLink RX3 16 "CountedHeapModel" "code" "[I", .fieldLink RX3 19 "CountedHeapModel" "stack" "[I", .fieldLink RX3 22 "CountedHeapModel" "ints" "[I", .fieldLink RX3 25 "CountedHeapModel" "roots" "[I", .fieldLink RX3 28 "CountedHeapModel" "kind" "[I", .fieldLink RX3 31 "CountedHeapModel" "words" "[I", .fieldLink RX3 34 "CountedHeapModel" "pointers" "[I", .arrayClass .boolean, .fieldLink RX3 37 "CountedHeapModel" "seen" "[Z"] ++ wsX30)
def wsX3_thrown : List Cond := .code yX3_thrown cX3_thrown 1 (some .int) :: ([.fieldLink RX3 41 "CountedHeapModel" "thrown" "I"] ++ wsX30)
def wsX3_within : List Cond := .code yX3_within cX3_within 3 (some .boolean) :: ([])
def wsX3_type : List Cond := .code yX3_type cX3_type 5 (some .boolean) :: ([.fieldLink RX3 41 "CountedHeapModel" "thrown" "I", .fieldLink RX3 28 "CountedHeapModel" "kind" "[I", .fieldLink RX3 7 "CountedHeapModel" "size" "[I", .fieldLink RX3 13 "CountedHeapModel" "map" "[I", .methodLink RX3 45 yX3_within, .static yX3_within, .initialized RX3, .code yX3_within cX3_within 3 (some .boolean)] ++ wsX30)
def wsX3_isOperand : List Cond := .code yX3_isOperand cX3_isOperand 1 (some .boolean) :: ([.methodLink RX3 45 yX3_within, .static yX3_within, .initialized RX3, .code yX3_within cX3_within 3 (some .boolean)])
def wsX3_takes : List Cond := .code yX3_takes cX3_takes 2 (some .int) :: ([.methodLink RX3 45 yX3_within, .static yX3_within, .initialized RX3, .code yX3_within cX3_within 3 (some .boolean)])
def wsX3_isRight : List Cond := .code yX3_isRight cX3_isRight 4 (some .boolean) :: ([.methodLink RX3 49 yX3_takes, .static yX3_takes, .initialized RX3, .code yX3_takes cX3_takes 2 (some .int), .methodLink RX3 45 yX3_within, .static yX3_within, .code yX3_within cX3_within 3 (some .boolean), .methodLink RX3 53 yX3_isOperand, .static yX3_isOperand, .code yX3_isOperand cX3_isOperand 1 (some .boolean)])
def wsX3_add : List Cond := .code yX3_add cX3_add 5 (some .int) :: ([.fieldLink RX3 41 "CountedHeapModel" "thrown" "I", .fieldLink RX3 60 "CountedHeapModel" "length" "I", .fieldLink RX3 16 "CountedHeapModel" "code" "[I", .methodLink RX3 45 yX3_within, .static yX3_within, .initialized RX3, .code yX3_within cX3_within 3 (some .boolean), .methodLink RX3 57 yX3_isRight, .static yX3_isRight, .code yX3_isRight cX3_isRight 4 (some .boolean), .methodLink RX3 49 yX3_takes, .static yX3_takes, .code yX3_takes cX3_takes 2 (some .int), .methodLink RX3 53 yX3_isOperand, .static yX3_isOperand, .code yX3_isOperand cX3_isOperand 1 (some .boolean)] ++ wsX30)
def wsX3_clear : List Cond := .code yX3_clear cX3_clear 2 (some .int) :: ([.fieldLink RX3 41 "CountedHeapModel" "thrown" "I", .fieldLink RX3 60 "CountedHeapModel" "length" "I", .fieldLink RX3 63 "CountedHeapModel" "next" "I", .fieldLink RX3 66 "CountedHeapModel" "depth" "I"] ++ wsX30)
def wsX3_start : List Cond := .code yX3_start cX3_start 2 (some .boolean) :: ([.fieldLink RX3 41 "CountedHeapModel" "thrown" "I", .fieldLink RX3 63 "CountedHeapModel" "next" "I", .fieldLink RX3 66 "CountedHeapModel" "depth" "I", .methodLink RX3 45 yX3_within, .static yX3_within, .initialized RX3, .code yX3_within cX3_within 3 (some .boolean)] ++ wsX30)
def wsX3_isBlock : List Cond := .code yX3_isBlock cX3_isBlock 2 (some .boolean) :: ([.fieldLink RX3 28 "CountedHeapModel" "kind" "[I", .methodLink RX3 45 yX3_within, .static yX3_within, .initialized RX3, .code yX3_within cX3_within 3 (some .boolean)] ++ wsX30)
def wsX3_isPointer : List Cond := .code yX3_isPointer cX3_isPointer 3 (some .boolean) :: ([.fieldLink RX3 13 "CountedHeapModel" "map" "[I", .fieldLink RX3 28 "CountedHeapModel" "kind" "[I"] ++ wsX30)
def wsX3_countAll : List Cond := .code yX3_countAll cX3_countAll 3 none :: ([.fieldLink RX3 34 "CountedHeapModel" "pointers" "[I", .fieldLink RX3 25 "CountedHeapModel" "roots" "[I", .fieldLink RX3 28 "CountedHeapModel" "kind" "[I", .fieldLink RX3 7 "CountedHeapModel" "size" "[I", .fieldLink RX3 31 "CountedHeapModel" "words" "[I", .methodLink RX3 69 yX3_isPointer, .instanceMethod yX3_isPointer, .selects RX3 yX3_isPointer yX3_isPointer, .initialized RX3, .code yX3_isPointer cX3_isPointer 3 (some .boolean), .fieldLink RX3 13 "CountedHeapModel" "map" "[I"] ++ wsX30)
def wsX3_giveBack : List Cond := .code yX3_giveBack cX3_giveBack 4 none :: ([.fieldLink RX3 28 "CountedHeapModel" "kind" "[I", .fieldLink RX3 34 "CountedHeapModel" "pointers" "[I", .fieldLink RX3 76 "CountedHeapModel" "given" "I", .methodLink RX3 73 yX3_countAll, .instanceMethod yX3_countAll, .selects RX3 yX3_countAll yX3_countAll, .initialized RX3, .code yX3_countAll cX3_countAll 3 none, .fieldLink RX3 25 "CountedHeapModel" "roots" "[I", .fieldLink RX3 7 "CountedHeapModel" "size" "[I", .fieldLink RX3 31 "CountedHeapModel" "words" "[I", .methodLink RX3 69 yX3_isPointer, .instanceMethod yX3_isPointer, .selects RX3 yX3_isPointer yX3_isPointer, .code yX3_isPointer cX3_isPointer 3 (some .boolean), .fieldLink RX3 13 "CountedHeapModel" "map" "[I"] ++ wsX30)
def wsX3_reach : List Cond := .code yX3_reach cX3_reach 4 none :: ([.fieldLink RX3 37 "CountedHeapModel" "seen" "[Z", .fieldLink RX3 25 "CountedHeapModel" "roots" "[I", .fieldLink RX3 28 "CountedHeapModel" "kind" "[I", .fieldLink RX3 7 "CountedHeapModel" "size" "[I", .fieldLink RX3 31 "CountedHeapModel" "words" "[I", .methodLink RX3 69 yX3_isPointer, .instanceMethod yX3_isPointer, .selects RX3 yX3_isPointer yX3_isPointer, .initialized RX3, .code yX3_isPointer cX3_isPointer 3 (some .boolean), .fieldLink RX3 13 "CountedHeapModel" "map" "[I"] ++ wsX30)
def wsX3_find : List Cond := .code yX3_find cX3_find 4 (some .int) :: ([.fieldLink RX3 79 "CountedHeapModel" "block" "I", .fieldLink RX3 82 "CountedHeapModel" "word" "I", .fieldLink RX3 25 "CountedHeapModel" "roots" "[I", .fieldLink RX3 7 "CountedHeapModel" "size" "[I", .fieldLink RX3 28 "CountedHeapModel" "kind" "[I", .methodLink RX3 69 yX3_isPointer, .instanceMethod yX3_isPointer, .selects RX3 yX3_isPointer yX3_isPointer, .initialized RX3, .code yX3_isPointer cX3_isPointer 3 (some .boolean), .fieldLink RX3 13 "CountedHeapModel" "map" "[I"] ++ wsX30)
def wsX3_read : List Cond := .code yX3_read cX3_read 3 (some .int) :: ([.fieldLink RX3 79 "CountedHeapModel" "block" "I", .fieldLink RX3 22 "CountedHeapModel" "ints" "[I", .fieldLink RX3 25 "CountedHeapModel" "roots" "[I", .fieldLink RX3 31 "CountedHeapModel" "words" "[I", .fieldLink RX3 82 "CountedHeapModel" "word" "I", .methodLink RX3 85 yX3_find, .instanceMethod yX3_find, .selects RX3 yX3_find yX3_find, .initialized RX3, .code yX3_find cX3_find 4 (some .int), .fieldLink RX3 7 "CountedHeapModel" "size" "[I", .fieldLink RX3 28 "CountedHeapModel" "kind" "[I", .methodLink RX3 69 yX3_isPointer, .instanceMethod yX3_isPointer, .selects RX3 yX3_isPointer yX3_isPointer, .code yX3_isPointer cX3_isPointer 3 (some .boolean), .fieldLink RX3 13 "CountedHeapModel" "map" "[I"] ++ wsX30)
def wsX3_write : List Cond := .code yX3_write cX3_write 4 none :: ([.fieldLink RX3 79 "CountedHeapModel" "block" "I", .fieldLink RX3 31 "CountedHeapModel" "words" "[I", .fieldLink RX3 82 "CountedHeapModel" "word" "I", .fieldLink RX3 22 "CountedHeapModel" "ints" "[I", .fieldLink RX3 25 "CountedHeapModel" "roots" "[I", .methodLink RX3 85 yX3_find, .instanceMethod yX3_find, .selects RX3 yX3_find yX3_find, .initialized RX3, .code yX3_find cX3_find 4 (some .int), .fieldLink RX3 7 "CountedHeapModel" "size" "[I", .fieldLink RX3 28 "CountedHeapModel" "kind" "[I", .methodLink RX3 69 yX3_isPointer, .instanceMethod yX3_isPointer, .selects RX3 yX3_isPointer yX3_isPointer, .code yX3_isPointer cX3_isPointer 3 (some .boolean), .fieldLink RX3 13 "CountedHeapModel" "map" "[I"] ++ wsX30)
def wsX3_free : List Cond := .code yX3_free cX3_free 2 (some .int) :: ([.fieldLink RX3 28 "CountedHeapModel" "kind" "[I"] ++ wsX30)
def wsX3_fault_r1 : List Cond := [Cond.fieldLink RX3 16 "CountedHeapModel" "code" "[I", Cond.fieldLink RX3 66 "CountedHeapModel" "depth" "I", Cond.methodLink RX3 49 yX3_takes, Cond.static yX3_takes, Cond.initialized RX3, Cond.code yX3_takes cX3_takes 2 (some .int), Cond.methodLink RX3 45 yX3_within, Cond.static yX3_within, Cond.code yX3_within cX3_within 3 (some .boolean), Cond.methodLink RX3 85 yX3_find, Cond.instanceMethod yX3_find, Cond.selects RX3 yX3_find yX3_find, Cond.code yX3_find cX3_find 4 (some .int), Cond.fieldLink RX3 79 "CountedHeapModel" "block" "I", Cond.fieldLink RX3 82 "CountedHeapModel" "word" "I", Cond.fieldLink RX3 25 "CountedHeapModel" "roots" "[I", Cond.fieldLink RX3 7 "CountedHeapModel" "size" "[I", Cond.fieldLink RX3 28 "CountedHeapModel" "kind" "[I", Cond.methodLink RX3 69 yX3_isPointer, Cond.instanceMethod yX3_isPointer, Cond.selects RX3 yX3_isPointer yX3_isPointer, Cond.code yX3_isPointer cX3_isPointer 3 (some .boolean), Cond.fieldLink RX3 13 "CountedHeapModel" "map" "[I", Cond.methodLink RX3 88 yX3_free]
def wsX3_fault_r2 : List Cond := [Cond.instanceMethod yX3_free, Cond.selects RX3 yX3_free yX3_free, Cond.code yX3_free cX3_free 2 (some .int)]
def wsX3_fault : List Cond := .code yX3_fault cX3_fault 6 (some .int) :: ((wsX3_fault_r1 ++ wsX3_fault_r2) ++ wsX30)
def wsX3_value : List Cond := .code yX3_value cX3_value 3 (some .int) :: ([])
def wsX3_act_r1 : List Cond := [Cond.fieldLink RX3 16 "CountedHeapModel" "code" "[I", Cond.fieldLink RX3 63 "CountedHeapModel" "next" "I", Cond.fieldLink RX3 28 "CountedHeapModel" "kind" "[I", Cond.fieldLink RX3 31 "CountedHeapModel" "words" "[I", Cond.fieldLink RX3 19 "CountedHeapModel" "stack" "[I", Cond.fieldLink RX3 66 "CountedHeapModel" "depth" "I", Cond.methodLink RX3 92 yX3_write, Cond.instanceMethod yX3_write, Cond.selects RX3 yX3_write yX3_write, Cond.initialized RX3, Cond.code yX3_write cX3_write 4 none, Cond.fieldLink RX3 79 "CountedHeapModel" "block" "I", Cond.fieldLink RX3 82 "CountedHeapModel" "word" "I", Cond.fieldLink RX3 22 "CountedHeapModel" "ints" "[I", Cond.fieldLink RX3 25 "CountedHeapModel" "roots" "[I", Cond.methodLink RX3 85 yX3_find, Cond.instanceMethod yX3_find, Cond.selects RX3 yX3_find yX3_find, Cond.code yX3_find cX3_find 4 (some .int), Cond.fieldLink RX3 7 "CountedHeapModel" "size" "[I", Cond.methodLink RX3 69 yX3_isPointer, Cond.instanceMethod yX3_isPointer, Cond.selects RX3 yX3_isPointer yX3_isPointer, Cond.code yX3_isPointer cX3_isPointer 3 (some .boolean)]
def wsX3_act_r2 : List Cond := [Cond.fieldLink RX3 13 "CountedHeapModel" "map" "[I", Cond.methodLink RX3 96 yX3_read, Cond.instanceMethod yX3_read, Cond.selects RX3 yX3_read yX3_read, Cond.code yX3_read cX3_read 3 (some .int), Cond.methodLink RX3 45 yX3_within, Cond.static yX3_within, Cond.code yX3_within cX3_within 3 (some .boolean), Cond.methodLink RX3 100 yX3_value, Cond.static yX3_value, Cond.code yX3_value cX3_value 3 (some .int), Cond.methodLink RX3 88 yX3_free, Cond.instanceMethod yX3_free, Cond.selects RX3 yX3_free yX3_free, Cond.code yX3_free cX3_free 2 (some .int), Cond.methodLink RX3 104 yX3_giveBack, Cond.instanceMethod yX3_giveBack, Cond.selects RX3 yX3_giveBack yX3_giveBack, Cond.code yX3_giveBack cX3_giveBack 4 none, Cond.fieldLink RX3 34 "CountedHeapModel" "pointers" "[I", Cond.fieldLink RX3 76 "CountedHeapModel" "given" "I", Cond.methodLink RX3 73 yX3_countAll, Cond.instanceMethod yX3_countAll, Cond.selects RX3 yX3_countAll yX3_countAll]
def wsX3_act_r3 : List Cond := [Cond.code yX3_countAll cX3_countAll 3 none]
def wsX3_act : List Cond := .code yX3_act cX3_act 8 none :: ((wsX3_act_r1 ++ (wsX3_act_r2 ++ wsX3_act_r3)) ++ wsX30)
def wsX3_run_r1 : List Cond := [Cond.fieldLink RX3 41 "CountedHeapModel" "thrown" "I", Cond.fieldLink RX3 63 "CountedHeapModel" "next" "I", Cond.fieldLink RX3 60 "CountedHeapModel" "length" "I", Cond.fieldLink RX3 16 "CountedHeapModel" "code" "[I", Cond.methodLink RX3 45 yX3_within, Cond.static yX3_within, Cond.initialized RX3, Cond.code yX3_within cX3_within 3 (some .boolean), Cond.methodLink RX3 107 yX3_fault, Cond.instanceMethod yX3_fault, Cond.selects RX3 yX3_fault yX3_fault, Cond.code yX3_fault cX3_fault 6 (some .int), Cond.fieldLink RX3 66 "CountedHeapModel" "depth" "I", Cond.methodLink RX3 49 yX3_takes, Cond.static yX3_takes, Cond.code yX3_takes cX3_takes 2 (some .int), Cond.methodLink RX3 85 yX3_find, Cond.instanceMethod yX3_find, Cond.selects RX3 yX3_find yX3_find, Cond.code yX3_find cX3_find 4 (some .int), Cond.fieldLink RX3 79 "CountedHeapModel" "block" "I", Cond.fieldLink RX3 82 "CountedHeapModel" "word" "I", Cond.fieldLink RX3 25 "CountedHeapModel" "roots" "[I", Cond.fieldLink RX3 7 "CountedHeapModel" "size" "[I"]
def wsX3_run_r2 : List Cond := [Cond.fieldLink RX3 28 "CountedHeapModel" "kind" "[I", Cond.methodLink RX3 69 yX3_isPointer, Cond.instanceMethod yX3_isPointer, Cond.selects RX3 yX3_isPointer yX3_isPointer, Cond.code yX3_isPointer cX3_isPointer 3 (some .boolean), Cond.fieldLink RX3 13 "CountedHeapModel" "map" "[I", Cond.methodLink RX3 88 yX3_free, Cond.instanceMethod yX3_free, Cond.selects RX3 yX3_free yX3_free, Cond.code yX3_free cX3_free 2 (some .int), Cond.methodLink RX3 110 yX3_act, Cond.instanceMethod yX3_act, Cond.selects RX3 yX3_act yX3_act, Cond.code yX3_act cX3_act 8 none, Cond.fieldLink RX3 31 "CountedHeapModel" "words" "[I", Cond.fieldLink RX3 19 "CountedHeapModel" "stack" "[I", Cond.methodLink RX3 92 yX3_write, Cond.instanceMethod yX3_write, Cond.selects RX3 yX3_write yX3_write, Cond.code yX3_write cX3_write 4 none, Cond.fieldLink RX3 22 "CountedHeapModel" "ints" "[I", Cond.methodLink RX3 96 yX3_read, Cond.instanceMethod yX3_read, Cond.selects RX3 yX3_read yX3_read]
def wsX3_run_r3 : List Cond := [Cond.code yX3_read cX3_read 3 (some .int), Cond.methodLink RX3 100 yX3_value, Cond.static yX3_value, Cond.code yX3_value cX3_value 3 (some .int), Cond.methodLink RX3 104 yX3_giveBack, Cond.instanceMethod yX3_giveBack, Cond.selects RX3 yX3_giveBack yX3_giveBack, Cond.code yX3_giveBack cX3_giveBack 4 none, Cond.fieldLink RX3 34 "CountedHeapModel" "pointers" "[I", Cond.fieldLink RX3 76 "CountedHeapModel" "given" "I", Cond.methodLink RX3 73 yX3_countAll, Cond.instanceMethod yX3_countAll, Cond.selects RX3 yX3_countAll yX3_countAll, Cond.code yX3_countAll cX3_countAll 3 none]
def wsX3_run : List Cond := .code yX3_run cX3_run 4 (some .int) :: ((wsX3_run_r1 ++ (wsX3_run_r2 ++ wsX3_run_r3)) ++ wsX30)
def wsX3_next : List Cond := .code yX3_next cX3_next 1 (some .int) :: ([.fieldLink RX3 41 "CountedHeapModel" "thrown" "I", .fieldLink RX3 63 "CountedHeapModel" "next" "I"] ++ wsX30)
def wsX3_open : List Cond := .code yX3_open cX3_open 1 (some .int) :: ([.fieldLink RX3 41 "CountedHeapModel" "thrown" "I", .fieldLink RX3 66 "CountedHeapModel" "depth" "I"] ++ wsX30)
def wsX3_frame : List Cond := .code yX3_frame cX3_frame 2 (some .int) :: ([.fieldLink RX3 41 "CountedHeapModel" "thrown" "I", .fieldLink RX3 22 "CountedHeapModel" "ints" "[I", .methodLink RX3 45 yX3_within, .static yX3_within, .initialized RX3, .code yX3_within cX3_within 3 (some .boolean)] ++ wsX30)
def wsX3_set : List Cond := .code yX3_set cX3_set 3 (some .boolean) :: ([.fieldLink RX3 41 "CountedHeapModel" "thrown" "I", .fieldLink RX3 22 "CountedHeapModel" "ints" "[I", .methodLink RX3 45 yX3_within, .static yX3_within, .initialized RX3, .code yX3_within cX3_within 3 (some .boolean)] ++ wsX30)
def wsX3_root : List Cond := .code yX3_root cX3_root 2 (some .int) :: ([.fieldLink RX3 41 "CountedHeapModel" "thrown" "I", .fieldLink RX3 25 "CountedHeapModel" "roots" "[I", .methodLink RX3 45 yX3_within, .static yX3_within, .initialized RX3, .code yX3_within cX3_within 3 (some .boolean)] ++ wsX30)
def wsX3_blocks : List Cond := .code yX3_blocks cX3_blocks 3 (some .int) :: ([.fieldLink RX3 41 "CountedHeapModel" "thrown" "I", .fieldLink RX3 28 "CountedHeapModel" "kind" "[I"] ++ wsX30)
def wsX3_count : List Cond := .code yX3_count cX3_count 2 (some .int) :: ([.fieldLink RX3 41 "CountedHeapModel" "thrown" "I", .fieldLink RX3 34 "CountedHeapModel" "pointers" "[I", .methodLink RX3 114 yX3_isBlock, .instanceMethod yX3_isBlock, .selects RX3 yX3_isBlock yX3_isBlock, .initialized RX3, .code yX3_isBlock cX3_isBlock 2 (some .boolean), .fieldLink RX3 28 "CountedHeapModel" "kind" "[I", .methodLink RX3 45 yX3_within, .static yX3_within, .code yX3_within cX3_within 3 (some .boolean), .methodLink RX3 73 yX3_countAll, .instanceMethod yX3_countAll, .selects RX3 yX3_countAll yX3_countAll, .code yX3_countAll cX3_countAll 3 none, .fieldLink RX3 25 "CountedHeapModel" "roots" "[I", .fieldLink RX3 7 "CountedHeapModel" "size" "[I", .fieldLink RX3 31 "CountedHeapModel" "words" "[I", .methodLink RX3 69 yX3_isPointer, .instanceMethod yX3_isPointer, .selects RX3 yX3_isPointer yX3_isPointer, .code yX3_isPointer cX3_isPointer 3 (some .boolean), .fieldLink RX3 13 "CountedHeapModel" "map" "[I"] ++ wsX30)
def wsX3_typeOf : List Cond := .code yX3_typeOf cX3_typeOf 2 (some .int) :: ([.fieldLink RX3 41 "CountedHeapModel" "thrown" "I", .fieldLink RX3 28 "CountedHeapModel" "kind" "[I", .methodLink RX3 114 yX3_isBlock, .instanceMethod yX3_isBlock, .selects RX3 yX3_isBlock yX3_isBlock, .initialized RX3, .code yX3_isBlock cX3_isBlock 2 (some .boolean), .methodLink RX3 45 yX3_within, .static yX3_within, .code yX3_within cX3_within 3 (some .boolean)] ++ wsX30)
def wsX3_word : List Cond := .code yX3_word cX3_word 3 (some .long) :: ([.fieldLink RX3 41 "CountedHeapModel" "thrown" "I", .fieldLink RX3 7 "CountedHeapModel" "size" "[I", .fieldLink RX3 28 "CountedHeapModel" "kind" "[I", .fieldLink RX3 31 "CountedHeapModel" "words" "[I", .constantLong RX3 117 (4294967296), .methodLink RX3 114 yX3_isBlock, .instanceMethod yX3_isBlock, .selects RX3 yX3_isBlock yX3_isBlock, .initialized RX3, .code yX3_isBlock cX3_isBlock 2 (some .boolean), .methodLink RX3 45 yX3_within, .static yX3_within, .code yX3_within cX3_within 3 (some .boolean)] ++ wsX30)
def wsX3_given : List Cond := .code yX3_given cX3_given 1 (some .int) :: ([.fieldLink RX3 41 "CountedHeapModel" "thrown" "I", .fieldLink RX3 76 "CountedHeapModel" "given" "I"] ++ wsX30)
def wsX3_lost : List Cond := .code yX3_lost cX3_lost 3 (some .int) :: ([.fieldLink RX3 41 "CountedHeapModel" "thrown" "I", .fieldLink RX3 28 "CountedHeapModel" "kind" "[I", .fieldLink RX3 37 "CountedHeapModel" "seen" "[Z", .methodLink RX3 119 yX3_reach, .instanceMethod yX3_reach, .selects RX3 yX3_reach yX3_reach, .initialized RX3, .code yX3_reach cX3_reach 4 none, .fieldLink RX3 25 "CountedHeapModel" "roots" "[I", .fieldLink RX3 7 "CountedHeapModel" "size" "[I", .fieldLink RX3 31 "CountedHeapModel" "words" "[I", .methodLink RX3 69 yX3_isPointer, .instanceMethod yX3_isPointer, .selects RX3 yX3_isPointer yX3_isPointer, .code yX3_isPointer cX3_isPointer 3 (some .boolean), .fieldLink RX3 13 "CountedHeapModel" "map" "[I"] ++ wsX30)
def wsX3_collect : List Cond := .code yX3_collect cX3_collect 3 (some .int) :: ([.fieldLink RX3 37 "CountedHeapModel" "seen" "[Z", .fieldLink RX3 28 "CountedHeapModel" "kind" "[I", .fieldLink RX3 76 "CountedHeapModel" "given" "I", .methodLink RX3 122 yX3_lost, .instanceMethod yX3_lost, .selects RX3 yX3_lost yX3_lost, .initialized RX3, .code yX3_lost cX3_lost 3 (some .int), .fieldLink RX3 41 "CountedHeapModel" "thrown" "I", .methodLink RX3 119 yX3_reach, .instanceMethod yX3_reach, .selects RX3 yX3_reach yX3_reach, .code yX3_reach cX3_reach 4 none, .fieldLink RX3 25 "CountedHeapModel" "roots" "[I", .fieldLink RX3 7 "CountedHeapModel" "size" "[I", .fieldLink RX3 31 "CountedHeapModel" "words" "[I", .methodLink RX3 69 yX3_isPointer, .instanceMethod yX3_isPointer, .selects RX3 yX3_isPointer yX3_isPointer, .code yX3_isPointer cX3_isPointer 3 (some .boolean), .fieldLink RX3 13 "CountedHeapModel" "map" "[I"] ++ wsX30)
def wsL_run_r1 : List Cond := [Cond.classLink RL 13 "java/lang/IllegalStateException", Cond.classLink RL 15 "java/lang/IndexOutOfBoundsException", Cond.classLink RL 17 "java/lang/IllegalArgumentException", Cond.classLink RL 19 "java/lang/UnsupportedOperationException", Cond.methodLink RL 7 yX2_run, Cond.instanceMethod yX2_run, Cond.selects RX2 yX2_run yX2_run, Cond.initialized RX2, Cond.code yX2_run cX2_run 3 (some .int), Cond.classLink RX2 77 "java/lang/IllegalArgumentException", Cond.initialized "java/lang/IllegalArgumentException", Cond.fieldLink RX2 12 "CountedHeap" "program" "LCountedHeap$Program;", Cond.fieldLink RX2 31 "CountedHeap" "nextPlace" "I", Cond.methodLink RX2 84 yX1_has, Cond.instanceMethod yX1_has, Cond.selects RX1 yX1_has yX1_has, Cond.initialized RX1, Cond.code yX1_has cX1_has 2 (some .boolean), Cond.fieldLink RX1 24 "CountedHeap$Program" "length" "I", Cond.methodLink RX2 87 yX1_opAt, Cond.instanceMethod yX1_opAt, Cond.selects RX1 yX1_opAt yX1_opAt, Cond.code yX1_opAt cX1_opAt 2 (some .int), Cond.fieldLink RX1 9 "CountedHeap$Program" "ops" "[I"]
def wsL_run_r2 : List Cond := [Cond.methodLink RX2 91 yX2_doInstruction, Cond.instanceMethod yX2_doInstruction, Cond.selects RX2 yX2_doInstruction yX2_doInstruction, Cond.code yX2_doInstruction cX2_doInstruction 6 none, Cond.fieldLink RX2 45 "CountedHeap" "ROLE_OF_X" "[I", Cond.fieldLink RX2 52 "CountedHeap" "ROLE_OF_Y" "[I", Cond.fieldLink RX2 55 "CountedHeap" "ROLE_OF_Z" "[I", Cond.fieldLink RX2 19 "CountedHeap" "memory" "LCountedHeap$Memory;", Cond.methodLink RX2 134 yX1_xAt, Cond.instanceMethod yX1_xAt, Cond.selects RX1 yX1_xAt yX1_xAt, Cond.code yX1_xAt cX1_xAt 2 (some .int), Cond.fieldLink RX1 15 "CountedHeap$Program" "xs" "[I", Cond.methodLink RX2 137 yX1_yAt, Cond.instanceMethod yX1_yAt, Cond.selects RX1 yX1_yAt yX1_yAt, Cond.code yX1_yAt cX1_yAt 2 (some .int), Cond.fieldLink RX1 18 "CountedHeap$Program" "ys" "[I", Cond.methodLink RX2 140 yX1_zAt, Cond.instanceMethod yX1_zAt, Cond.selects RX1 yX1_zAt yX1_zAt, Cond.code yX1_zAt cX1_zAt 2 (some .int), Cond.fieldLink RX1 21 "CountedHeap$Program" "zs" "[I", Cond.methodLink RX2 143 yX2_checkOperand]
def wsL_run_r3 : List Cond := [Cond.instanceMethod yX2_checkOperand, Cond.selects RX2 yX2_checkOperand yX2_checkOperand, Cond.code yX2_checkOperand cX2_checkOperand 3 none, Cond.methodLink RX2 165 yX0_blockOf, Cond.instanceMethod yX0_blockOf, Cond.selects RX0 yX0_blockOf yX0_blockOf, Cond.initialized RX0, Cond.code yX0_blockOf cX0_blockOf 2 (some .int), Cond.fieldLink RX0 18 "CountedHeap$Memory" "cells" "[I", Cond.methodLink RX2 168 yX0_wordOf, Cond.static yX0_wordOf, Cond.code yX0_wordOf cX0_wordOf 1 (some .int), Cond.methodLink RX2 171 yX2_checkWord, Cond.instanceMethod yX2_checkWord, Cond.selects RX2 yX2_checkWord yX2_checkWord, Cond.code yX2_checkWord cX2_checkWord 3 none, Cond.classLink RX2 179 "java/lang/IllegalStateException", Cond.initialized "java/lang/IllegalStateException", Cond.classLink RX2 184 "java/lang/IndexOutOfBoundsException", Cond.initialized "java/lang/IndexOutOfBoundsException", Cond.methodLink RX2 113 yX0_hasWord, Cond.instanceMethod yX0_hasWord, Cond.selects RX0 yX0_hasWord yX0_hasWord, Cond.code yX0_hasWord cX0_hasWord 3 (some .boolean)]
def wsL_run_r4 : List Cond := [Cond.fieldLink RX0 9 "CountedHeap$Memory" "sizes" "[I", Cond.fieldLink RX0 25 "CountedHeap$Memory" "types" "[I", Cond.methodLink RX0 62 yX0_isBlock, Cond.instanceMethod yX0_isBlock, Cond.selects RX0 yX0_isBlock yX0_isBlock, Cond.code yX0_isBlock cX0_isBlock 2 (some .boolean), Cond.fieldLink RX0 21 "CountedHeap$Memory" "used" "[Z", Cond.methodLink RX2 174 yX0_holdsPointer, Cond.instanceMethod yX0_holdsPointer, Cond.selects RX0 yX0_holdsPointer yX0_holdsPointer, Cond.code yX0_holdsPointer cX0_holdsPointer 2 (some .boolean), Cond.methodLink RX0 47 yX0_blockOf, Cond.methodLink RX0 51 yX0_wordOf, Cond.methodLink RX0 58 yX0_isPointerWord, Cond.instanceMethod yX0_isPointerWord, Cond.selects RX0 yX0_isPointerWord yX0_isPointerWord, Cond.code yX0_isPointerWord cX0_isPointerWord 3 (some .boolean), Cond.methodLink RX0 66 yX0_hasWord, Cond.methodLink RX0 69 yX0_isMapped, Cond.instanceMethod yX0_isMapped, Cond.selects RX0 yX0_isMapped yX0_isMapped, Cond.code yX0_isMapped cX0_isMapped 3 (some .boolean), Cond.fieldLink RX0 15 "CountedHeap$Memory" "maps" "[I", Cond.methodLink RX2 146 yX2_checkRoom]
def wsL_run_r5 : List Cond := [Cond.instanceMethod yX2_checkRoom, Cond.selects RX2 yX2_checkRoom yX2_checkRoom, Cond.code yX2_checkRoom cX2_checkRoom 2 none, Cond.classLink RX2 190 "java/lang/UnsupportedOperationException", Cond.initialized "java/lang/UnsupportedOperationException", Cond.fieldLink RX2 27 "CountedHeap" "openCalls" "I", Cond.methodLink RX2 189 yX0_isFull, Cond.instanceMethod yX0_isFull, Cond.selects RX0 yX0_isFull yX0_isFull, Cond.code yX0_isFull cX0_isFull 1 (some .boolean), Cond.fieldLink RX0 41 "CountedHeap$Memory" "usedTotal" "I", Cond.methodLink RX2 149 yX0_cellOf, Cond.instanceMethod yX0_cellOf, Cond.selects RX0 yX0_cellOf yX0_cellOf, Cond.code yX0_cellOf cX0_cellOf 2 (some .int), Cond.methodLink RX0 54 yX0_cellOfWord, Cond.static yX0_cellOfWord, Cond.code yX0_cellOfWord cX0_cellOfWord 2 (some .int), Cond.methodLink RX2 152 yX2_intResult, Cond.instanceMethod yX2_intResult, Cond.selects RX2 yX2_intResult yX2_intResult, Cond.code yX2_intResult cX2_intResult 4 (some .int), Cond.methodLink RX2 199 yX2_valueOf, Cond.instanceMethod yX2_valueOf]
def wsL_run_r6 : List Cond := [Cond.selects RX2 yX2_valueOf yX2_valueOf, Cond.code yX2_valueOf cX2_valueOf 2 (some .int), Cond.methodLink RX2 97 yX0_read, Cond.instanceMethod yX0_read, Cond.selects RX0 yX0_read yX0_read, Cond.code yX0_read cX0_read 2 (some .int), Cond.methodLink RX2 100 yX0_writeInt, Cond.instanceMethod yX0_writeInt, Cond.selects RX0 yX0_writeInt yX0_writeInt, Cond.code yX0_writeInt cX0_writeInt 3 none, Cond.methodLink RX2 156 yX2_pointerResult, Cond.instanceMethod yX2_pointerResult, Cond.selects RX2 yX2_pointerResult yX2_pointerResult, Cond.code yX2_pointerResult cX2_pointerResult 3 (some .int), Cond.methodLink RX2 202 yX0_makeBlock, Cond.instanceMethod yX0_makeBlock, Cond.selects RX0 yX0_makeBlock yX0_makeBlock, Cond.code yX0_makeBlock cX0_makeBlock 3 (some .int), Cond.fieldLink RX0 28 "CountedHeap$Memory" "counts" "[I", Cond.methodLink RX0 76 yX0_emptyWords, Cond.instanceMethod yX0_emptyWords, Cond.selects RX0 yX0_emptyWords yX0_emptyWords, Cond.code yX0_emptyWords cX0_emptyWords 3 none, Cond.methodLink RX2 159 yX0_writePointer]
def wsL_run_r7 : List Cond := [Cond.instanceMethod yX0_writePointer, Cond.selects RX0 yX0_writePointer yX0_writePointer, Cond.code yX0_writePointer cX0_writePointer 4 none, Cond.methodLink RX0 72 yX0_dropPointer, Cond.instanceMethod yX0_dropPointer, Cond.selects RX0 yX0_dropPointer yX0_dropPointer, Cond.code yX0_dropPointer cX0_dropPointer 3 none, Cond.fieldLink RX0 37 "CountedHeap$Memory" "queued" "I", Cond.fieldLink RX0 34 "CountedHeap$Memory" "queue" "[I", Cond.methodLink RX0 79 yX0_countLess, Cond.instanceMethod yX0_countLess, Cond.selects RX0 yX0_countLess yX0_countLess, Cond.code yX0_countLess cX0_countLess 2 none, Cond.methodLink RX0 85 yX0_giveBack, Cond.instanceMethod yX0_giveBack, Cond.selects RX0 yX0_giveBack yX0_giveBack, Cond.code yX0_giveBack cX0_giveBack 2 none, Cond.fieldLink RX0 44 "CountedHeap$Memory" "givenBack" "I", Cond.methodLink RX0 88 yX0_enqueue, Cond.instanceMethod yX0_enqueue, Cond.selects RX0 yX0_enqueue yX0_enqueue, Cond.code yX0_enqueue cX0_enqueue 2 none, Cond.methodLink RX0 82 yX0_dropPointersOf, Cond.instanceMethod yX0_dropPointersOf]
def wsL_run_r8 : List Cond := [Cond.selects RX0 yX0_dropPointersOf yX0_dropPointersOf, Cond.code yX0_dropPointersOf cX0_dropPointersOf 3 none, Cond.methodLink RX2 162 yX2_placeAfter, Cond.instanceMethod yX2_placeAfter, Cond.selects RX2 yX2_placeAfter yX2_placeAfter, Cond.code yX2_placeAfter cX2_placeAfter 5 (some .int), Cond.fieldLink RX2 23 "CountedHeap" "returnPlaces" "[I"]
def wsL_run : List Cond := .codeWith yL_run cL_run 4 (some .int) [(0, 9, 12, 13), (0, 9, 15, 15), (0, 9, 18, 17), (0, 9, 21, 19)] :: ((wsL_run_r1 ++ (wsL_run_r2 ++ (wsL_run_r3 ++ (wsL_run_r4 ++ (wsL_run_r5 ++ (wsL_run_r6 ++ (wsL_run_r7 ++ wsL_run_r8))))))) ++ wsX20 ++ wsX10 ++ wsX00 ++ (vx_atS RX2 81 "java/lang/IllegalArgumentException" ["java/lang/RuntimeException", "java/lang/Exception"]).filter goodWord ++ (vx_atS RX2 183 "java/lang/IllegalStateException" ["java/lang/RuntimeException", "java/lang/Exception"]).filter goodWord ++ (vx_atS RX2 188 "java/lang/IndexOutOfBoundsException" ["java/lang/RuntimeException", "java/lang/Exception"]).filter goodWord ++ (vx_atS RX2 194 "java/lang/UnsupportedOperationException" ["java/lang/RuntimeException", "java/lang/Exception"]).filter goodWord)
def wsL_law0_r1 : List Cond := [Cond.classLink RL 8 RX2, Cond.instantiable RX2 5, Cond.initialized RX2, Cond.classLink RL 22 RX3, Cond.instantiable RX3 17, Cond.initialized RX3, Cond.arrayClass .long, Cond.methodLink RL 21 yX2_init, Cond.instanceMethod yX2_init, Cond.code yX2_init cX2_init 1 none, Cond.methodLink RX2 3 objectInit, Cond.instanceMethod objectInit, Cond.code objectInit ⟨#[0xb1]⟩ 1 none, Cond.classLink RX2 9 RX1, Cond.instantiable RX1 5, Cond.initialized RX1, Cond.fieldLink RX2 12 "CountedHeap" "program" "LCountedHeap$Program;", Cond.classLink RX2 16 RX0, Cond.instantiable RX0 11, Cond.initialized RX0, Cond.fieldLink RX2 19 "CountedHeap" "memory" "LCountedHeap$Memory;", Cond.arrayClass .int, Cond.fieldLink RX2 23 "CountedHeap" "returnPlaces" "[I", Cond.fieldLink RX2 27 "CountedHeap" "openCalls" "I"]
def wsL_law0_r2 : List Cond := [Cond.fieldLink RX2 31 "CountedHeap" "nextPlace" "I", Cond.instanceMethod yX1_init, Cond.code yX1_init cX1_init 1 none, Cond.methodLink RX1 3 objectInit, Cond.fieldLink RX1 9 "CountedHeap$Program" "ops" "[I", Cond.fieldLink RX1 15 "CountedHeap$Program" "xs" "[I", Cond.fieldLink RX1 18 "CountedHeap$Program" "ys" "[I", Cond.fieldLink RX1 21 "CountedHeap$Program" "zs" "[I", Cond.fieldLink RX1 24 "CountedHeap$Program" "length" "I", Cond.instanceMethod yX0_init, Cond.code yX0_init cX0_init 1 none, Cond.methodLink RX0 3 objectInit, Cond.fieldLink RX0 9 "CountedHeap$Memory" "sizes" "[I", Cond.fieldLink RX0 15 "CountedHeap$Memory" "maps" "[I", Cond.fieldLink RX0 18 "CountedHeap$Memory" "cells" "[I", Cond.arrayClass .boolean, Cond.fieldLink RX0 21 "CountedHeap$Memory" "used" "[Z", Cond.fieldLink RX0 25 "CountedHeap$Memory" "types" "[I", Cond.fieldLink RX0 28 "CountedHeap$Memory" "counts" "[I", Cond.fieldLink RX0 31 "CountedHeap$Memory" "reached" "[Z", Cond.fieldLink RX0 34 "CountedHeap$Memory" "queue" "[I", Cond.fieldLink RX0 37 "CountedHeap$Memory" "queued" "I", Cond.fieldLink RX0 41 "CountedHeap$Memory" "usedTotal" "I", Cond.fieldLink RX0 44 "CountedHeap$Memory" "givenBack" "I"]
def wsL_law0_r3 : List Cond := [Cond.methodLink RL 24 yX3_init, Cond.instanceMethod yX3_init, Cond.code yX3_init cX3_init 2 none, Cond.methodLink RX3 1 objectInit, Cond.fieldLink RX3 7 "CountedHeapModel" "size" "[I", Cond.fieldLink RX3 13 "CountedHeapModel" "map" "[I", Cond.fieldLink RX3 16 "CountedHeapModel" "code" "[I", Cond.fieldLink RX3 19 "CountedHeapModel" "stack" "[I", Cond.fieldLink RX3 22 "CountedHeapModel" "ints" "[I", Cond.fieldLink RX3 25 "CountedHeapModel" "roots" "[I", Cond.fieldLink RX3 28 "CountedHeapModel" "kind" "[I", Cond.fieldLink RX3 31 "CountedHeapModel" "words" "[I", Cond.fieldLink RX3 34 "CountedHeapModel" "pointers" "[I", Cond.fieldLink RX3 37 "CountedHeapModel" "seen" "[Z", Cond.methodLink RL 25 yX2_type, Cond.instanceMethod yX2_type, Cond.selects RX2 yX2_type yX2_type, Cond.code yX2_type cX2_type 4 (some .boolean), Cond.methodLink RX2 34 yX2_isType, Cond.static yX2_isType, Cond.code yX2_isType cX2_isType 1 (some .boolean), Cond.methodLink RX2 38 yX0_hasBlockOfType, Cond.instanceMethod yX0_hasBlockOfType, Cond.selects RX0 yX0_hasBlockOfType yX0_hasBlockOfType]
def wsL_law0_r4 : List Cond := [Cond.code yX0_hasBlockOfType cX0_hasBlockOfType 3 (some .boolean), Cond.methodLink RX2 41 yX0_changeType, Cond.instanceMethod yX0_changeType, Cond.selects RX0 yX0_changeType yX0_changeType, Cond.code yX0_changeType cX0_changeType 4 none, Cond.methodLink RL 29 yX3_type, Cond.instanceMethod yX3_type, Cond.selects RX3 yX3_type yX3_type, Cond.code yX3_type cX3_type 5 (some .boolean), Cond.fieldLink RX3 41 "CountedHeapModel" "thrown" "I", Cond.methodLink RX3 45 yX3_within, Cond.static yX3_within, Cond.code yX3_within cX3_within 3 (some .boolean), Cond.methodLink RL 30 yX2_add, Cond.instanceMethod yX2_add, Cond.selects RX2 yX2_add yX2_add, Cond.code yX2_add cX2_add 5 (some .int), Cond.fieldLink RX2 45 "CountedHeap" "ROLE_OF_X" "[I", Cond.fieldLink RX2 52 "CountedHeap" "ROLE_OF_Y" "[I", Cond.fieldLink RX2 55 "CountedHeap" "ROLE_OF_Z" "[I", Cond.methodLink RX2 48 yX2_fits, Cond.static yX2_fits, Cond.code yX2_fits cX2_fits 2 (some .boolean), Cond.methodLink RX2 131 yX2_isOperand]
def wsL_law0_r5 : List Cond := [Cond.static yX2_isOperand, Cond.code yX2_isOperand cX2_isOperand 1 (some .boolean), Cond.methodLink RX2 74 yX2_isPlace, Cond.static yX2_isPlace, Cond.code yX2_isPlace cX2_isPlace 1 (some .boolean), Cond.methodLink RX2 58 yX1_isFull, Cond.instanceMethod yX1_isFull, Cond.selects RX1 yX1_isFull yX1_isFull, Cond.code yX1_isFull cX1_isFull 1 (some .boolean), Cond.methodLink RX2 62 yX1_append, Cond.instanceMethod yX1_append, Cond.selects RX1 yX1_append yX1_append, Cond.code yX1_append cX1_append 6 (some .int), Cond.methodLink RL 34 yX3_add, Cond.instanceMethod yX3_add, Cond.selects RX3 yX3_add yX3_add, Cond.code yX3_add cX3_add 5 (some .int), Cond.fieldLink RX3 60 "CountedHeapModel" "length" "I", Cond.methodLink RX3 57 yX3_isRight, Cond.static yX3_isRight, Cond.code yX3_isRight cX3_isRight 4 (some .boolean), Cond.methodLink RX3 49 yX3_takes, Cond.static yX3_takes, Cond.code yX3_takes cX3_takes 2 (some .int)]
def wsL_law0_r6 : List Cond := [Cond.methodLink RX3 53 yX3_isOperand, Cond.static yX3_isOperand, Cond.code yX3_isOperand cX3_isOperand 1 (some .boolean), Cond.methodLink RL 35 yX2_clear, Cond.instanceMethod yX2_clear, Cond.selects RX2 yX2_clear yX2_clear, Cond.code yX2_clear cX2_clear 1 (some .int), Cond.methodLink RX2 66 yX2_goTo, Cond.instanceMethod yX2_goTo, Cond.selects RX2 yX2_goTo yX2_goTo, Cond.code yX2_goTo cX2_goTo 2 none, Cond.methodLink RX2 70 yX1_removeAll, Cond.instanceMethod yX1_removeAll, Cond.selects RX1 yX1_removeAll yX1_removeAll, Cond.code yX1_removeAll cX1_removeAll 2 (some .int), Cond.methodLink RL 39 yX3_clear, Cond.instanceMethod yX3_clear, Cond.selects RX3 yX3_clear yX3_clear, Cond.code yX3_clear cX3_clear 2 (some .int), Cond.fieldLink RX3 63 "CountedHeapModel" "next" "I", Cond.fieldLink RX3 66 "CountedHeapModel" "depth" "I", Cond.methodLink RL 40 yX2_start, Cond.instanceMethod yX2_start, Cond.selects RX2 yX2_start yX2_start]
def wsL_law0_r7 : List Cond := [Cond.code yX2_start cX2_start 2 (some .boolean), Cond.methodLink RL 44 yX3_start, Cond.instanceMethod yX3_start, Cond.selects RX3 yX3_start yX3_start, Cond.code yX3_start cX3_start 2 (some .boolean), Cond.methodLink RL 45 yL_run, Cond.static yL_run, Cond.initialized RL, Cond.codeWith yL_run cL_run 4 (some .int) [(0, 9, 12, 13), (0, 9, 15, 15), (0, 9, 18, 17), (0, 9, 21, 19)], Cond.classLink RL 13 "java/lang/IllegalStateException", Cond.classLink RL 15 "java/lang/IndexOutOfBoundsException", Cond.classLink RL 17 "java/lang/IllegalArgumentException", Cond.classLink RL 19 "java/lang/UnsupportedOperationException", Cond.methodLink RL 7 yX2_run, Cond.instanceMethod yX2_run, Cond.selects RX2 yX2_run yX2_run, Cond.code yX2_run cX2_run 3 (some .int), Cond.classLink RX2 77 "java/lang/IllegalArgumentException", Cond.initialized "java/lang/IllegalArgumentException", Cond.methodLink RX2 84 yX1_has, Cond.instanceMethod yX1_has, Cond.selects RX1 yX1_has yX1_has, Cond.code yX1_has cX1_has 2 (some .boolean), Cond.methodLink RX2 87 yX1_opAt]
def wsL_law0_r8 : List Cond := [Cond.instanceMethod yX1_opAt, Cond.selects RX1 yX1_opAt yX1_opAt, Cond.code yX1_opAt cX1_opAt 2 (some .int), Cond.methodLink RX2 91 yX2_doInstruction, Cond.instanceMethod yX2_doInstruction, Cond.selects RX2 yX2_doInstruction yX2_doInstruction, Cond.code yX2_doInstruction cX2_doInstruction 6 none, Cond.methodLink RX2 134 yX1_xAt, Cond.instanceMethod yX1_xAt, Cond.selects RX1 yX1_xAt yX1_xAt, Cond.code yX1_xAt cX1_xAt 2 (some .int), Cond.methodLink RX2 137 yX1_yAt, Cond.instanceMethod yX1_yAt, Cond.selects RX1 yX1_yAt yX1_yAt, Cond.code yX1_yAt cX1_yAt 2 (some .int), Cond.methodLink RX2 140 yX1_zAt, Cond.instanceMethod yX1_zAt, Cond.selects RX1 yX1_zAt yX1_zAt, Cond.code yX1_zAt cX1_zAt 2 (some .int), Cond.methodLink RX2 143 yX2_checkOperand, Cond.instanceMethod yX2_checkOperand, Cond.selects RX2 yX2_checkOperand yX2_checkOperand, Cond.code yX2_checkOperand cX2_checkOperand 3 none, Cond.methodLink RX2 165 yX0_blockOf]
def wsL_law0_r9 : List Cond := [Cond.instanceMethod yX0_blockOf, Cond.selects RX0 yX0_blockOf yX0_blockOf, Cond.code yX0_blockOf cX0_blockOf 2 (some .int), Cond.methodLink RX2 168 yX0_wordOf, Cond.static yX0_wordOf, Cond.code yX0_wordOf cX0_wordOf 1 (some .int), Cond.methodLink RX2 171 yX2_checkWord, Cond.instanceMethod yX2_checkWord, Cond.selects RX2 yX2_checkWord yX2_checkWord, Cond.code yX2_checkWord cX2_checkWord 3 none, Cond.classLink RX2 179 "java/lang/IllegalStateException", Cond.initialized "java/lang/IllegalStateException", Cond.classLink RX2 184 "java/lang/IndexOutOfBoundsException", Cond.initialized "java/lang/IndexOutOfBoundsException", Cond.methodLink RX2 113 yX0_hasWord, Cond.instanceMethod yX0_hasWord, Cond.selects RX0 yX0_hasWord yX0_hasWord, Cond.code yX0_hasWord cX0_hasWord 3 (some .boolean), Cond.methodLink RX0 62 yX0_isBlock, Cond.instanceMethod yX0_isBlock, Cond.selects RX0 yX0_isBlock yX0_isBlock, Cond.code yX0_isBlock cX0_isBlock 2 (some .boolean), Cond.methodLink RX2 174 yX0_holdsPointer, Cond.instanceMethod yX0_holdsPointer]
def wsL_law0_r10 : List Cond := [Cond.selects RX0 yX0_holdsPointer yX0_holdsPointer, Cond.code yX0_holdsPointer cX0_holdsPointer 2 (some .boolean), Cond.methodLink RX0 47 yX0_blockOf, Cond.methodLink RX0 51 yX0_wordOf, Cond.methodLink RX0 58 yX0_isPointerWord, Cond.instanceMethod yX0_isPointerWord, Cond.selects RX0 yX0_isPointerWord yX0_isPointerWord, Cond.code yX0_isPointerWord cX0_isPointerWord 3 (some .boolean), Cond.methodLink RX0 66 yX0_hasWord, Cond.methodLink RX0 69 yX0_isMapped, Cond.instanceMethod yX0_isMapped, Cond.selects RX0 yX0_isMapped yX0_isMapped, Cond.code yX0_isMapped cX0_isMapped 3 (some .boolean), Cond.methodLink RX2 146 yX2_checkRoom, Cond.instanceMethod yX2_checkRoom, Cond.selects RX2 yX2_checkRoom yX2_checkRoom, Cond.code yX2_checkRoom cX2_checkRoom 2 none, Cond.classLink RX2 190 "java/lang/UnsupportedOperationException", Cond.initialized "java/lang/UnsupportedOperationException", Cond.methodLink RX2 189 yX0_isFull, Cond.instanceMethod yX0_isFull, Cond.selects RX0 yX0_isFull yX0_isFull, Cond.code yX0_isFull cX0_isFull 1 (some .boolean), Cond.methodLink RX2 149 yX0_cellOf]
def wsL_law0_r11 : List Cond := [Cond.instanceMethod yX0_cellOf, Cond.selects RX0 yX0_cellOf yX0_cellOf, Cond.code yX0_cellOf cX0_cellOf 2 (some .int), Cond.methodLink RX0 54 yX0_cellOfWord, Cond.static yX0_cellOfWord, Cond.code yX0_cellOfWord cX0_cellOfWord 2 (some .int), Cond.methodLink RX2 152 yX2_intResult, Cond.instanceMethod yX2_intResult, Cond.selects RX2 yX2_intResult yX2_intResult, Cond.code yX2_intResult cX2_intResult 4 (some .int), Cond.methodLink RX2 199 yX2_valueOf, Cond.instanceMethod yX2_valueOf, Cond.selects RX2 yX2_valueOf yX2_valueOf, Cond.code yX2_valueOf cX2_valueOf 2 (some .int), Cond.methodLink RX2 97 yX0_read, Cond.instanceMethod yX0_read, Cond.selects RX0 yX0_read yX0_read, Cond.code yX0_read cX0_read 2 (some .int), Cond.methodLink RX2 100 yX0_writeInt, Cond.instanceMethod yX0_writeInt, Cond.selects RX0 yX0_writeInt yX0_writeInt, Cond.code yX0_writeInt cX0_writeInt 3 none, Cond.methodLink RX2 156 yX2_pointerResult, Cond.instanceMethod yX2_pointerResult]
def wsL_law0_r12 : List Cond := [Cond.selects RX2 yX2_pointerResult yX2_pointerResult, Cond.code yX2_pointerResult cX2_pointerResult 3 (some .int), Cond.methodLink RX2 202 yX0_makeBlock, Cond.instanceMethod yX0_makeBlock, Cond.selects RX0 yX0_makeBlock yX0_makeBlock, Cond.code yX0_makeBlock cX0_makeBlock 3 (some .int), Cond.methodLink RX0 76 yX0_emptyWords, Cond.instanceMethod yX0_emptyWords, Cond.selects RX0 yX0_emptyWords yX0_emptyWords, Cond.code yX0_emptyWords cX0_emptyWords 3 none, Cond.methodLink RX2 159 yX0_writePointer, Cond.instanceMethod yX0_writePointer, Cond.selects RX0 yX0_writePointer yX0_writePointer, Cond.code yX0_writePointer cX0_writePointer 4 none, Cond.methodLink RX0 72 yX0_dropPointer, Cond.instanceMethod yX0_dropPointer, Cond.selects RX0 yX0_dropPointer yX0_dropPointer, Cond.code yX0_dropPointer cX0_dropPointer 3 none, Cond.methodLink RX0 79 yX0_countLess, Cond.instanceMethod yX0_countLess, Cond.selects RX0 yX0_countLess yX0_countLess, Cond.code yX0_countLess cX0_countLess 2 none, Cond.methodLink RX0 85 yX0_giveBack, Cond.instanceMethod yX0_giveBack]
def wsL_law0_r13 : List Cond := [Cond.selects RX0 yX0_giveBack yX0_giveBack, Cond.code yX0_giveBack cX0_giveBack 2 none, Cond.methodLink RX0 88 yX0_enqueue, Cond.instanceMethod yX0_enqueue, Cond.selects RX0 yX0_enqueue yX0_enqueue, Cond.code yX0_enqueue cX0_enqueue 2 none, Cond.methodLink RX0 82 yX0_dropPointersOf, Cond.instanceMethod yX0_dropPointersOf, Cond.selects RX0 yX0_dropPointersOf yX0_dropPointersOf, Cond.code yX0_dropPointersOf cX0_dropPointersOf 3 none, Cond.methodLink RX2 162 yX2_placeAfter, Cond.instanceMethod yX2_placeAfter, Cond.selects RX2 yX2_placeAfter yX2_placeAfter, Cond.code yX2_placeAfter cX2_placeAfter 5 (some .int), Cond.methodLink RL 50 yX3_run, Cond.instanceMethod yX3_run, Cond.selects RX3 yX3_run yX3_run, Cond.code yX3_run cX3_run 4 (some .int), Cond.methodLink RX3 107 yX3_fault, Cond.instanceMethod yX3_fault, Cond.selects RX3 yX3_fault yX3_fault, Cond.code yX3_fault cX3_fault 6 (some .int), Cond.methodLink RX3 85 yX3_find, Cond.instanceMethod yX3_find]
def wsL_law0_r14 : List Cond := [Cond.selects RX3 yX3_find yX3_find, Cond.code yX3_find cX3_find 4 (some .int), Cond.fieldLink RX3 79 "CountedHeapModel" "block" "I", Cond.fieldLink RX3 82 "CountedHeapModel" "word" "I", Cond.methodLink RX3 69 yX3_isPointer, Cond.instanceMethod yX3_isPointer, Cond.selects RX3 yX3_isPointer yX3_isPointer, Cond.code yX3_isPointer cX3_isPointer 3 (some .boolean), Cond.methodLink RX3 88 yX3_free, Cond.instanceMethod yX3_free, Cond.selects RX3 yX3_free yX3_free, Cond.code yX3_free cX3_free 2 (some .int), Cond.methodLink RX3 110 yX3_act, Cond.instanceMethod yX3_act, Cond.selects RX3 yX3_act yX3_act, Cond.code yX3_act cX3_act 8 none, Cond.methodLink RX3 92 yX3_write, Cond.instanceMethod yX3_write, Cond.selects RX3 yX3_write yX3_write, Cond.code yX3_write cX3_write 4 none, Cond.methodLink RX3 96 yX3_read, Cond.instanceMethod yX3_read, Cond.selects RX3 yX3_read yX3_read, Cond.code yX3_read cX3_read 3 (some .int)]
def wsL_law0_r15 : List Cond := [Cond.methodLink RX3 100 yX3_value, Cond.static yX3_value, Cond.code yX3_value cX3_value 3 (some .int), Cond.methodLink RX3 104 yX3_giveBack, Cond.instanceMethod yX3_giveBack, Cond.selects RX3 yX3_giveBack yX3_giveBack, Cond.code yX3_giveBack cX3_giveBack 4 none, Cond.fieldLink RX3 76 "CountedHeapModel" "given" "I", Cond.methodLink RX3 73 yX3_countAll, Cond.instanceMethod yX3_countAll, Cond.selects RX3 yX3_countAll yX3_countAll, Cond.code yX3_countAll cX3_countAll 3 none, Cond.methodLink RL 51 yX3_thrown, Cond.instanceMethod yX3_thrown, Cond.selects RX3 yX3_thrown yX3_thrown, Cond.code yX3_thrown cX3_thrown 1 (some .int), Cond.methodLink RL 54 yX2_next, Cond.instanceMethod yX2_next, Cond.selects RX2 yX2_next yX2_next, Cond.code yX2_next cX2_next 1 (some .int), Cond.methodLink RL 57 yX3_next, Cond.instanceMethod yX3_next, Cond.selects RX3 yX3_next yX3_next, Cond.code yX3_next cX3_next 1 (some .int)]
def wsL_law0_r16 : List Cond := [Cond.methodLink RL 58 yX2_open, Cond.instanceMethod yX2_open, Cond.selects RX2 yX2_open yX2_open, Cond.code yX2_open cX2_open 1 (some .int), Cond.methodLink RL 61 yX3_open, Cond.instanceMethod yX3_open, Cond.selects RX3 yX3_open yX3_open, Cond.code yX3_open cX3_open 1 (some .int), Cond.methodLink RL 62 yX2_frame, Cond.instanceMethod yX2_frame, Cond.selects RX2 yX2_frame yX2_frame, Cond.code yX2_frame cX2_frame 2 (some .int), Cond.methodLink RX2 94 yX2_isFrameInt, Cond.static yX2_isFrameInt, Cond.code yX2_isFrameInt cX2_isFrameInt 1 (some .boolean), Cond.methodLink RL 65 yX3_frame, Cond.instanceMethod yX3_frame, Cond.selects RX3 yX3_frame yX3_frame, Cond.code yX3_frame cX3_frame 2 (some .int), Cond.methodLink RL 66 yX2_set, Cond.instanceMethod yX2_set, Cond.selects RX2 yX2_set yX2_set, Cond.code yX2_set cX2_set 3 (some .boolean), Cond.methodLink RL 70 yX3_set]
def wsL_law0_r17 : List Cond := [Cond.instanceMethod yX3_set, Cond.selects RX3 yX3_set yX3_set, Cond.code yX3_set cX3_set 3 (some .boolean), Cond.methodLink RL 71 yX2_root, Cond.instanceMethod yX2_root, Cond.selects RX2 yX2_root yX2_root, Cond.code yX2_root cX2_root 2 (some .int), Cond.methodLink RL 74 yX3_root, Cond.instanceMethod yX3_root, Cond.selects RX3 yX3_root yX3_root, Cond.code yX3_root cX3_root 2 (some .int), Cond.methodLink RL 75 yX2_blocks, Cond.instanceMethod yX2_blocks, Cond.selects RX2 yX2_blocks yX2_blocks, Cond.code yX2_blocks cX2_blocks 1 (some .int), Cond.methodLink RX2 104 yX0_blockTotal, Cond.instanceMethod yX0_blockTotal, Cond.selects RX0 yX0_blockTotal yX0_blockTotal, Cond.code yX0_blockTotal cX0_blockTotal 1 (some .int), Cond.methodLink RL 78 yX3_blocks, Cond.instanceMethod yX3_blocks, Cond.selects RX3 yX3_blocks yX3_blocks, Cond.code yX3_blocks cX3_blocks 3 (some .int), Cond.methodLink RL 79 yX2_count]
def wsL_law0_r18 : List Cond := [Cond.instanceMethod yX2_count, Cond.selects RX2 yX2_count yX2_count, Cond.code yX2_count cX2_count 2 (some .int), Cond.methodLink RX2 107 yX0_countOf, Cond.instanceMethod yX0_countOf, Cond.selects RX0 yX0_countOf yX0_countOf, Cond.code yX0_countOf cX0_countOf 2 (some .int), Cond.methodLink RL 82 yX3_count, Cond.instanceMethod yX3_count, Cond.selects RX3 yX3_count yX3_count, Cond.code yX3_count cX3_count 2 (some .int), Cond.methodLink RX3 114 yX3_isBlock, Cond.instanceMethod yX3_isBlock, Cond.selects RX3 yX3_isBlock yX3_isBlock, Cond.code yX3_isBlock cX3_isBlock 2 (some .boolean), Cond.methodLink RL 83 yX2_typeOf, Cond.instanceMethod yX2_typeOf, Cond.selects RX2 yX2_typeOf yX2_typeOf, Cond.code yX2_typeOf cX2_typeOf 2 (some .int), Cond.methodLink RX2 110 yX0_blockType, Cond.instanceMethod yX0_blockType, Cond.selects RX0 yX0_blockType yX0_blockType, Cond.code yX0_blockType cX0_blockType 2 (some .int), Cond.methodLink RL 86 yX3_typeOf]
def wsL_law0_r19 : List Cond := [Cond.instanceMethod yX3_typeOf, Cond.selects RX3 yX3_typeOf yX3_typeOf, Cond.code yX3_typeOf cX3_typeOf 2 (some .int), Cond.methodLink RL 87 yX2_word, Cond.instanceMethod yX2_word, Cond.selects RX2 yX2_word yX2_word, Cond.code yX2_word cX2_word 3 (some .long), Cond.constantLong RX2 120 (4294967296), Cond.methodLink RX2 116 yX0_cellOfWord, Cond.methodLink RL 91 yX3_word, Cond.instanceMethod yX3_word, Cond.selects RX3 yX3_word yX3_word, Cond.code yX3_word cX3_word 3 (some .long), Cond.constantLong RX3 117 (4294967296), Cond.methodLink RL 92 yX2_given, Cond.instanceMethod yX2_given, Cond.selects RX2 yX2_given yX2_given, Cond.code yX2_given cX2_given 1 (some .int), Cond.methodLink RX2 122 yX0_givenTotal, Cond.instanceMethod yX0_givenTotal, Cond.selects RX0 yX0_givenTotal yX0_givenTotal, Cond.code yX0_givenTotal cX0_givenTotal 1 (some .int), Cond.methodLink RL 95 yX3_given, Cond.instanceMethod yX3_given]
def wsL_law0_r20 : List Cond := [Cond.selects RX3 yX3_given yX3_given, Cond.code yX3_given cX3_given 1 (some .int), Cond.methodLink RL 96 yX2_lost, Cond.instanceMethod yX2_lost, Cond.selects RX2 yX2_lost yX2_lost, Cond.code yX2_lost cX2_lost 1 (some .int), Cond.methodLink RX2 125 yX0_findLost, Cond.instanceMethod yX0_findLost, Cond.selects RX0 yX0_findLost yX0_findLost, Cond.code yX0_findLost cX0_findLost 2 (some .int), Cond.methodLink RX0 91 yX0_reach, Cond.instanceMethod yX0_reach, Cond.selects RX0 yX0_reach yX0_reach, Cond.code yX0_reach cX0_reach 2 none, Cond.methodLink RX0 94 yX0_reachPointersOf, Cond.instanceMethod yX0_reachPointersOf, Cond.selects RX0 yX0_reachPointersOf yX0_reachPointersOf, Cond.code yX0_reachPointersOf cX0_reachPointersOf 3 none, Cond.methodLink RL 99 yX3_lost, Cond.instanceMethod yX3_lost, Cond.selects RX3 yX3_lost yX3_lost, Cond.code yX3_lost cX3_lost 3 (some .int), Cond.methodLink RX3 119 yX3_reach, Cond.instanceMethod yX3_reach]
def wsL_law0_r21 : List Cond := [Cond.selects RX3 yX3_reach yX3_reach, Cond.code yX3_reach cX3_reach 4 none, Cond.methodLink RL 100 yX2_collect, Cond.instanceMethod yX2_collect, Cond.selects RX2 yX2_collect yX2_collect, Cond.code yX2_collect cX2_collect 1 (some .int), Cond.methodLink RX2 128 yX0_giveBackLost, Cond.instanceMethod yX0_giveBackLost, Cond.selects RX0 yX0_giveBackLost yX0_giveBackLost, Cond.code yX0_giveBackLost cX0_giveBackLost 3 (some .int), Cond.methodLink RX0 97 yX0_findLost, Cond.methodLink RX0 101 yX0_takeOffCountsOf, Cond.instanceMethod yX0_takeOffCountsOf, Cond.selects RX0 yX0_takeOffCountsOf yX0_takeOffCountsOf, Cond.code yX0_takeOffCountsOf cX0_takeOffCountsOf 4 none, Cond.methodLink RL 103 yX3_collect, Cond.instanceMethod yX3_collect, Cond.selects RX3 yX3_collect yX3_collect, Cond.code yX3_collect cX3_collect 3 (some .int), Cond.methodLink RX3 122 yX3_lost]
def wsL_law0 : List Cond := (wsL_law0_r1 ++ (wsL_law0_r2 ++ (wsL_law0_r3 ++ (wsL_law0_r4 ++ (wsL_law0_r5 ++ (wsL_law0_r6 ++ (wsL_law0_r7 ++ (wsL_law0_r8 ++ (wsL_law0_r9 ++ (wsL_law0_r10 ++ (wsL_law0_r11 ++ (wsL_law0_r12 ++ (wsL_law0_r13 ++ (wsL_law0_r14 ++ (wsL_law0_r15 ++ (wsL_law0_r16 ++ (wsL_law0_r17 ++ (wsL_law0_r18 ++ (wsL_law0_r19 ++ (wsL_law0_r20 ++ wsL_law0_r21)))))))))))))))))))) ++ wsX20 ++ wsX30 ++ wsX10 ++ wsX00 ++ ([] : List Cond)
def wsL_law : List Cond := wsL_law0 ++ (vx_atS RX2 81 "java/lang/IllegalArgumentException" ["java/lang/RuntimeException", "java/lang/Exception"]).filter goodWord ++ (vx_atS RX2 183 "java/lang/IllegalStateException" ["java/lang/RuntimeException", "java/lang/Exception"]).filter goodWord ++ (vx_atS RX2 188 "java/lang/IndexOutOfBoundsException" ["java/lang/RuntimeException", "java/lang/Exception"]).filter goodWord ++ (vx_atS RX2 194 "java/lang/UnsupportedOperationException" ["java/lang/RuntimeException", "java/lang/Exception"]).filter goodWord
set_option maxRecDepth 20000 in
theorem ggX0_cellOf_X0_blockOf : GoodIn wsX0_cellOf wsX0_blockOf := goodIn_r _ [5, 6, 13, 14, 15, 16, 17, 18, 19, 20, 21, 22, 23] (by decide +kernel) (by decide +kernel)
set_option maxRecDepth 20000 in
theorem gX0_cellOf_X0_blockOf : GoodIn wsX0_cellOf (wsV RX0 47 RX0 yX0_blockOf wsX0_blockOf) := goodIn_app (goodIn_of _ (by decide +kernel)) ggX0_cellOf_X0_blockOf
set_option maxRecDepth 20000 in
theorem ggX0_cellOf_X0_wordOf : GoodIn wsX0_cellOf wsX0_wordOf := goodIn_r _ [9] (by decide +kernel) (by decide +kernel)
set_option maxRecDepth 20000 in
theorem gX0_cellOf_X0_wordOf : GoodIn wsX0_cellOf (va_wsS RX0 51 yX0_wordOf wsX0_wordOf) := goodIn_app (goodIn_of _ (by decide +kernel)) ggX0_cellOf_X0_wordOf
set_option maxRecDepth 20000 in
theorem ggX0_cellOf_X0_cellOfWord : GoodIn wsX0_cellOf wsX0_cellOfWord := goodIn_r _ [12] (by decide +kernel) (by decide +kernel)
set_option maxRecDepth 20000 in
theorem gX0_cellOf_X0_cellOfWord : GoodIn wsX0_cellOf (va_wsS RX0 54 yX0_cellOfWord wsX0_cellOfWord) := goodIn_app (goodIn_of _ (by decide +kernel)) ggX0_cellOf_X0_cellOfWord
set_option maxRecDepth 20000 in
theorem ggX0_holdsPointer_X0_blockOf : GoodIn wsX0_holdsPointer wsX0_blockOf := goodIn_r _ [5, 6, 30, 31, 32, 33, 34, 35, 36, 37, 38, 39, 40] (by decide +kernel) (by decide +kernel)
set_option maxRecDepth 20000 in
theorem gX0_holdsPointer_X0_blockOf : GoodIn wsX0_holdsPointer (wsV RX0 47 RX0 yX0_blockOf wsX0_blockOf) := goodIn_app (goodIn_of _ (by decide +kernel)) ggX0_holdsPointer_X0_blockOf
set_option maxRecDepth 20000 in
theorem ggX0_holdsPointer_X0_wordOf : GoodIn wsX0_holdsPointer wsX0_wordOf := goodIn_r _ [9] (by decide +kernel) (by decide +kernel)
set_option maxRecDepth 20000 in
theorem gX0_holdsPointer_X0_wordOf : GoodIn wsX0_holdsPointer (va_wsS RX0 51 yX0_wordOf wsX0_wordOf) := goodIn_app (goodIn_of _ (by decide +kernel)) ggX0_holdsPointer_X0_wordOf
set_option maxRecDepth 20000 in
theorem ggX0_holdsPointer_X0_isPointerWord : GoodIn wsX0_holdsPointer wsX0_isPointerWord := goodIn_r _ [13, 14, 15, 16, 4, 17, 18, 19, 20, 21, 22, 23, 24, 25, 26, 27, 28, 29, 30, 31, 32, 33, 34, 35, 36, 37, 38, 39, 40] (by decide +kernel) (by decide +kernel)
set_option maxRecDepth 20000 in
theorem gX0_holdsPointer_X0_isPointerWord : GoodIn wsX0_holdsPointer (wsV RX0 58 RX0 yX0_isPointerWord wsX0_isPointerWord) := goodIn_app (goodIn_of _ (by decide +kernel)) ggX0_holdsPointer_X0_isPointerWord
set_option maxRecDepth 20000 in
theorem ggX0_hasWord_X0_isBlock : GoodIn wsX0_hasWord wsX0_isBlock := goodIn_r _ [7, 8, 9, 10, 11, 12, 13, 14, 15, 16, 17, 18, 19] (by decide +kernel) (by decide +kernel)
set_option maxRecDepth 20000 in
theorem gX0_hasWord_X0_isBlock : GoodIn wsX0_hasWord (wsV RX0 62 RX0 yX0_isBlock wsX0_isBlock) := goodIn_app (goodIn_of _ (by decide +kernel)) ggX0_hasWord_X0_isBlock
set_option maxRecDepth 20000 in
theorem ggX0_isPointerWord_X0_hasWord : GoodIn wsX0_isPointerWord wsX0_hasWord := goodIn_r _ [5, 6, 7, 8, 9, 10, 4, 11, 12, 18, 19, 20, 21, 22, 23, 24, 25, 26, 27, 28] (by decide +kernel) (by decide +kernel)
set_option maxRecDepth 20000 in
theorem gX0_isPointerWord_X0_hasWord : GoodIn wsX0_isPointerWord (wsV RX0 66 RX0 yX0_hasWord wsX0_hasWord) := goodIn_app (goodIn_of _ (by decide +kernel)) ggX0_isPointerWord_X0_hasWord
set_option maxRecDepth 20000 in
theorem ggX0_isPointerWord_X0_isMapped : GoodIn wsX0_isPointerWord wsX0_isMapped := goodIn_r _ [16, 17, 7, 18, 19, 20, 21, 22, 23, 24, 25, 26, 27, 28] (by decide +kernel) (by decide +kernel)
set_option maxRecDepth 20000 in
theorem gX0_isPointerWord_X0_isMapped : GoodIn wsX0_isPointerWord (wsV RX0 69 RX0 yX0_isMapped wsX0_isMapped) := goodIn_app (goodIn_of _ (by decide +kernel)) ggX0_isPointerWord_X0_isMapped
set_option maxRecDepth 20000 in
theorem ggX0_countOf_X0_isBlock : GoodIn wsX0_countOf wsX0_isBlock := goodIn_r _ [6, 7, 8, 9, 10, 11, 12, 13, 14, 15, 16, 17, 18] (by decide +kernel) (by decide +kernel)
set_option maxRecDepth 20000 in
theorem gX0_countOf_X0_isBlock : GoodIn wsX0_countOf (wsV RX0 62 RX0 yX0_isBlock wsX0_isBlock) := goodIn_app (goodIn_of _ (by decide +kernel)) ggX0_countOf_X0_isBlock
set_option maxRecDepth 20000 in
theorem ggX0_blockType_X0_isBlock : GoodIn wsX0_blockType wsX0_isBlock := goodIn_r _ [6, 7, 8, 9, 10, 11, 12, 13, 14, 15, 16, 17, 18] (by decide +kernel) (by decide +kernel)
set_option maxRecDepth 20000 in
theorem gX0_blockType_X0_isBlock : GoodIn wsX0_blockType (wsV RX0 62 RX0 yX0_isBlock wsX0_isBlock) := goodIn_app (goodIn_of _ (by decide +kernel)) ggX0_blockType_X0_isBlock
set_option maxRecDepth 20000 in
theorem ggX0_writePointer_X0_isBlock : GoodIn wsX0_writePointer wsX0_isBlock := goodIn_r _ [7, 8, 42, 43, 44, 45, 46, 47, 48, 49, 50, 51, 52] (by decide +kernel) (by decide +kernel)
set_option maxRecDepth 20000 in
theorem gX0_writePointer_X0_isBlock : GoodIn wsX0_writePointer (wsV RX0 62 RX0 yX0_isBlock wsX0_isBlock) := goodIn_app (goodIn_of _ (by decide +kernel)) ggX0_writePointer_X0_isBlock
set_option maxRecDepth 20000 in
theorem ggX0_writePointer_X0_dropPointer : GoodIn wsX0_writePointer wsX0_dropPointer := goodIn_r _ [12, 13, 14, 15, 16, 17, 6, 18, 2, 3, 4, 5, 7, 8, 19, 20, 21, 22, 23, 24, 25, 26, 27, 28, 29, 30, 31, 32, 1, 33, 34, 35, 36, 37, 38, 39, 40, 41, 42, 43, 44, 45, 46, 47, 48, 49, 50, 51, 52] (by decide +kernel) (by decide +kernel)
set_option maxRecDepth 20000 in
theorem gX0_writePointer_X0_dropPointer : GoodIn wsX0_writePointer (wsV RX0 72 RX0 yX0_dropPointer wsX0_dropPointer) := goodIn_app (goodIn_of _ (by decide +kernel)) ggX0_writePointer_X0_dropPointer
set_option maxRecDepth 20000 in
theorem ggX0_makeBlock_X0_emptyWords : GoodIn wsX0_makeBlock wsX0_emptyWords := goodIn_r _ [9, 10, 11, 12, 8, 13, 14, 15, 16, 17, 18, 19, 20, 21, 22, 23, 24] (by decide +kernel) (by decide +kernel)
set_option maxRecDepth 20000 in
theorem gX0_makeBlock_X0_emptyWords : GoodIn wsX0_makeBlock (wsV RX0 76 RX0 yX0_emptyWords wsX0_emptyWords) := goodIn_app (goodIn_of _ (by decide +kernel)) ggX0_makeBlock_X0_emptyWords
set_option maxRecDepth 20000 in
theorem ggX0_emptyWords_X0_cellOfWord : GoodIn wsX0_emptyWords wsX0_cellOfWord := goodIn_r _ [5] (by decide +kernel) (by decide +kernel)
set_option maxRecDepth 20000 in
theorem gX0_emptyWords_X0_cellOfWord : GoodIn wsX0_emptyWords (va_wsS RX0 54 yX0_cellOfWord wsX0_cellOfWord) := goodIn_app (goodIn_of _ (by decide +kernel)) ggX0_emptyWords_X0_cellOfWord
set_option maxRecDepth 20000 in
theorem ggX0_dropPointer_X0_countLess : GoodIn wsX0_dropPointer wsX0_countLess := goodIn_r _ [7, 8, 9, 10, 11, 6, 12, 13, 14, 15, 16, 17, 18, 19, 20, 21, 22, 23, 1, 2, 38, 39, 40, 41, 42, 43, 44, 45, 46, 47, 48] (by decide +kernel) (by decide +kernel)
set_option maxRecDepth 20000 in
theorem gX0_dropPointer_X0_countLess : GoodIn wsX0_dropPointer (wsV RX0 79 RX0 yX0_countLess wsX0_countLess) := goodIn_app (goodIn_of _ (by decide +kernel)) ggX0_dropPointer_X0_countLess
set_option maxRecDepth 20000 in
theorem ggX0_dropPointer_X0_dropPointersOf : GoodIn wsX0_dropPointer wsX0_dropPointersOf := goodIn_r _ [27, 28, 29, 30, 31, 6, 32, 33, 34, 35, 36, 37, 3, 4, 5, 7, 8, 9, 10, 11, 12, 13, 14, 15, 16, 17, 18, 19, 20, 21, 22, 23, 1, 2, 38, 39, 40, 41, 42, 43, 44, 45, 46, 47, 48] (by decide +kernel) (by decide +kernel)
set_option maxRecDepth 20000 in
theorem gX0_dropPointer_X0_dropPointersOf : GoodIn wsX0_dropPointer (wsV RX0 82 RX0 yX0_dropPointersOf wsX0_dropPointersOf) := goodIn_app (goodIn_of _ (by decide +kernel)) ggX0_dropPointer_X0_dropPointersOf
set_option maxRecDepth 20000 in
theorem ggX0_dropPointersOf_X0_isMapped : GoodIn wsX0_dropPointersOf wsX0_isMapped := goodIn_r _ [6, 7, 8, 34, 35, 36, 37, 38, 39, 40, 41, 42, 43, 44] (by decide +kernel) (by decide +kernel)
set_option maxRecDepth 20000 in
theorem gX0_dropPointersOf_X0_isMapped : GoodIn wsX0_dropPointersOf (wsV RX0 69 RX0 yX0_isMapped wsX0_isMapped) := goodIn_app (goodIn_of _ (by decide +kernel)) ggX0_dropPointersOf_X0_isMapped
set_option maxRecDepth 20000 in
theorem ggX0_dropPointersOf_X0_cellOfWord : GoodIn wsX0_dropPointersOf wsX0_cellOfWord := goodIn_r _ [11] (by decide +kernel) (by decide +kernel)
set_option maxRecDepth 20000 in
theorem gX0_dropPointersOf_X0_cellOfWord : GoodIn wsX0_dropPointersOf (va_wsS RX0 54 yX0_cellOfWord wsX0_cellOfWord) := goodIn_app (goodIn_of _ (by decide +kernel)) ggX0_dropPointersOf_X0_cellOfWord
set_option maxRecDepth 20000 in
theorem ggX0_dropPointersOf_X0_countLess : GoodIn wsX0_dropPointersOf wsX0_countLess := goodIn_r _ [15, 16, 17, 18, 19, 5, 20, 21, 22, 23, 24, 25, 26, 27, 28, 29, 30, 31, 32, 33, 34, 35, 36, 37, 38, 39, 40, 41, 42, 43, 44] (by decide +kernel) (by decide +kernel)
set_option maxRecDepth 20000 in
theorem gX0_dropPointersOf_X0_countLess : GoodIn wsX0_dropPointersOf (wsV RX0 79 RX0 yX0_countLess wsX0_countLess) := goodIn_app (goodIn_of _ (by decide +kernel)) ggX0_dropPointersOf_X0_countLess
set_option maxRecDepth 20000 in
theorem ggX0_countLess_X0_isBlock : GoodIn wsX0_countLess wsX0_isBlock := goodIn_r _ [6, 7, 20, 21, 22, 23, 24, 25, 26, 27, 28, 29, 30] (by decide +kernel) (by decide +kernel)
set_option maxRecDepth 20000 in
theorem gX0_countLess_X0_isBlock : GoodIn wsX0_countLess (wsV RX0 62 RX0 yX0_isBlock wsX0_isBlock) := goodIn_app (goodIn_of _ (by decide +kernel)) ggX0_countLess_X0_isBlock
set_option maxRecDepth 20000 in
theorem ggX0_countLess_X0_giveBack : GoodIn wsX0_countLess wsX0_giveBack := goodIn_r _ [11, 7, 12, 13, 20, 21, 22, 23, 24, 25, 26, 27, 28, 29, 30] (by decide +kernel) (by decide +kernel)
set_option maxRecDepth 20000 in
theorem gX0_countLess_X0_giveBack : GoodIn wsX0_countLess (wsV RX0 85 RX0 yX0_giveBack wsX0_giveBack) := goodIn_app (goodIn_of _ (by decide +kernel)) ggX0_countLess_X0_giveBack
set_option maxRecDepth 20000 in
theorem ggX0_countLess_X0_enqueue : GoodIn wsX0_countLess wsX0_enqueue := goodIn_r _ [17, 18, 19, 20, 21, 22, 23, 24, 25, 26, 27, 28, 29, 30] (by decide +kernel) (by decide +kernel)
set_option maxRecDepth 20000 in
theorem gX0_countLess_X0_enqueue : GoodIn wsX0_countLess (wsV RX0 88 RX0 yX0_enqueue wsX0_enqueue) := goodIn_app (goodIn_of _ (by decide +kernel)) ggX0_countLess_X0_enqueue
set_option maxRecDepth 20000 in
theorem ggX0_findLost_X0_reach : GoodIn wsX0_findLost wsX0_reach := goodIn_r _ [10, 2, 11, 12, 13, 9, 14, 15, 16, 17, 18, 19, 1, 4, 42, 43, 44, 45, 46, 47, 48, 49, 50, 51, 52] (by decide +kernel) (by decide +kernel)
set_option maxRecDepth 20000 in
theorem gX0_findLost_X0_reach : GoodIn wsX0_findLost (wsV RX0 91 RX0 yX0_reach wsX0_reach) := goodIn_app (goodIn_of _ (by decide +kernel)) ggX0_findLost_X0_reach
set_option maxRecDepth 20000 in
theorem ggX0_findLost_X0_reachPointersOf : GoodIn wsX0_findLost wsX0_reachPointersOf := goodIn_r _ [23, 3, 24, 25, 26, 9, 27, 28, 29, 30, 31, 32, 33, 11, 12, 13, 14, 15, 34, 35, 36, 37, 38, 39, 40, 41, 6, 7, 8, 10, 2, 16, 17, 18, 19, 1, 4, 42, 43, 44, 45, 46, 47, 48, 49, 50, 51, 52] (by decide +kernel) (by decide +kernel)
set_option maxRecDepth 20000 in
theorem gX0_findLost_X0_reachPointersOf : GoodIn wsX0_findLost (wsV RX0 94 RX0 yX0_reachPointersOf wsX0_reachPointersOf) := goodIn_app (goodIn_of _ (by decide +kernel)) ggX0_findLost_X0_reachPointersOf
set_option maxRecDepth 20000 in
theorem ggX0_reachPointersOf_X0_isPointerWord : GoodIn wsX0_reachPointersOf wsX0_isPointerWord := goodIn_r _ [6, 7, 8, 9, 5, 10, 11, 12, 13, 14, 15, 16, 17, 18, 19, 20, 21, 22, 37, 38, 39, 40, 41, 42, 43, 44, 45, 46, 47] (by decide +kernel) (by decide +kernel)
set_option maxRecDepth 20000 in
theorem gX0_reachPointersOf_X0_isPointerWord : GoodIn wsX0_reachPointersOf (wsV RX0 58 RX0 yX0_isPointerWord wsX0_isPointerWord) := goodIn_app (goodIn_of _ (by decide +kernel)) ggX0_reachPointersOf_X0_isPointerWord
set_option maxRecDepth 20000 in
theorem ggX0_reachPointersOf_X0_cellOfWord : GoodIn wsX0_reachPointersOf wsX0_cellOfWord := goodIn_r _ [25] (by decide +kernel) (by decide +kernel)
set_option maxRecDepth 20000 in
theorem gX0_reachPointersOf_X0_cellOfWord : GoodIn wsX0_reachPointersOf (va_wsS RX0 54 yX0_cellOfWord wsX0_cellOfWord) := goodIn_app (goodIn_of _ (by decide +kernel)) ggX0_reachPointersOf_X0_cellOfWord
set_option maxRecDepth 20000 in
theorem ggX0_reachPointersOf_X0_reach : GoodIn wsX0_reachPointersOf wsX0_reach := goodIn_r _ [29, 30, 13, 14, 15, 5, 16, 17, 31, 32, 33, 34, 35, 36, 37, 38, 39, 40, 41, 42, 43, 44, 45, 46, 47] (by decide +kernel) (by decide +kernel)
set_option maxRecDepth 20000 in
theorem gX0_reachPointersOf_X0_reach : GoodIn wsX0_reachPointersOf (wsV RX0 91 RX0 yX0_reach wsX0_reach) := goodIn_app (goodIn_of _ (by decide +kernel)) ggX0_reachPointersOf_X0_reach
set_option maxRecDepth 20000 in
theorem ggX0_reach_X0_isBlock : GoodIn wsX0_reach wsX0_isBlock := goodIn_r _ [6, 7, 14, 15, 16, 17, 18, 19, 20, 21, 22, 23, 24] (by decide +kernel) (by decide +kernel)
set_option maxRecDepth 20000 in
theorem gX0_reach_X0_isBlock : GoodIn wsX0_reach (wsV RX0 62 RX0 yX0_isBlock wsX0_isBlock) := goodIn_app (goodIn_of _ (by decide +kernel)) ggX0_reach_X0_isBlock
set_option maxRecDepth 20000 in
theorem ggX0_reach_X0_enqueue : GoodIn wsX0_reach wsX0_enqueue := goodIn_r _ [11, 12, 13, 14, 15, 16, 17, 18, 19, 20, 21, 22, 23, 24] (by decide +kernel) (by decide +kernel)
set_option maxRecDepth 20000 in
theorem gX0_reach_X0_enqueue : GoodIn wsX0_reach (wsV RX0 88 RX0 yX0_enqueue wsX0_enqueue) := goodIn_app (goodIn_of _ (by decide +kernel)) ggX0_reach_X0_enqueue
set_option maxRecDepth 20000 in
theorem ggX0_giveBackLost_X0_findLost : GoodIn wsX0_giveBackLost wsX0_findLost := goodIn_r _ [7, 8, 2, 9, 10, 11, 12, 13, 14, 6, 15, 16, 17, 18, 19, 1, 20, 21, 22, 23, 24, 25, 26, 27, 28, 29, 30, 31, 32, 33, 34, 35, 36, 37, 38, 39, 40, 41, 42, 43, 44, 45, 56, 57, 58, 59, 60, 61, 62, 63, 64, 65, 66] (by decide +kernel) (by decide +kernel)
set_option maxRecDepth 20000 in
theorem gX0_giveBackLost_X0_findLost : GoodIn wsX0_giveBackLost (wsV RX0 97 RX0 yX0_findLost wsX0_findLost) := goodIn_app (goodIn_of _ (by decide +kernel)) ggX0_giveBackLost_X0_findLost
set_option maxRecDepth 20000 in
theorem ggX0_giveBackLost_X0_takeOffCountsOf : GoodIn wsX0_giveBackLost wsX0_takeOffCountsOf := goodIn_r _ [49, 9, 2, 50, 28, 29, 30, 6, 31, 32, 33, 34, 35, 36, 37, 16, 17, 18, 19, 1, 38, 39, 40, 41, 42, 43, 44, 45, 56, 57, 58, 59, 60, 61, 62, 63, 64, 65, 66] (by decide +kernel) (by decide +kernel)
set_option maxRecDepth 20000 in
theorem gX0_giveBackLost_X0_takeOffCountsOf : GoodIn wsX0_giveBackLost (wsV RX0 101 RX0 yX0_takeOffCountsOf wsX0_takeOffCountsOf) := goodIn_app (goodIn_of _ (by decide +kernel)) ggX0_giveBackLost_X0_takeOffCountsOf
set_option maxRecDepth 20000 in
theorem ggX0_giveBackLost_X0_giveBack : GoodIn wsX0_giveBackLost wsX0_giveBack := goodIn_r _ [54, 1, 11, 55, 56, 57, 58, 59, 60, 61, 62, 63, 64, 65, 66] (by decide +kernel) (by decide +kernel)
set_option maxRecDepth 20000 in
theorem gX0_giveBackLost_X0_giveBack : GoodIn wsX0_giveBackLost (wsV RX0 85 RX0 yX0_giveBack wsX0_giveBack) := goodIn_app (goodIn_of _ (by decide +kernel)) ggX0_giveBackLost_X0_giveBack
set_option maxRecDepth 20000 in
theorem ggX0_takeOffCountsOf_X0_isPointerWord : GoodIn wsX0_takeOffCountsOf wsX0_isPointerWord := goodIn_r _ [8, 9, 10, 11, 7, 12, 13, 14, 15, 16, 17, 18, 19, 20, 21, 22, 23, 24, 28, 29, 30, 31, 32, 33, 34, 35, 36, 37, 38] (by decide +kernel) (by decide +kernel)
set_option maxRecDepth 20000 in
theorem gX0_takeOffCountsOf_X0_isPointerWord : GoodIn wsX0_takeOffCountsOf (wsV RX0 58 RX0 yX0_isPointerWord wsX0_isPointerWord) := goodIn_app (goodIn_of _ (by decide +kernel)) ggX0_takeOffCountsOf_X0_isPointerWord
set_option maxRecDepth 20000 in
theorem ggX0_takeOffCountsOf_X0_cellOfWord : GoodIn wsX0_takeOffCountsOf wsX0_cellOfWord := goodIn_r _ [27] (by decide +kernel) (by decide +kernel)
set_option maxRecDepth 20000 in
theorem gX0_takeOffCountsOf_X0_cellOfWord : GoodIn wsX0_takeOffCountsOf (va_wsS RX0 54 yX0_cellOfWord wsX0_cellOfWord) := goodIn_app (goodIn_of _ (by decide +kernel)) ggX0_takeOffCountsOf_X0_cellOfWord
set_option maxRecDepth 20000 in
theorem ggX0_takeOffCountsOf_X0_isBlock : GoodIn wsX0_takeOffCountsOf wsX0_isBlock := goodIn_r _ [18, 19, 28, 29, 30, 31, 32, 33, 34, 35, 36, 37, 38] (by decide +kernel) (by decide +kernel)
set_option maxRecDepth 20000 in
theorem gX0_takeOffCountsOf_X0_isBlock : GoodIn wsX0_takeOffCountsOf (wsV RX0 62 RX0 yX0_isBlock wsX0_isBlock) := goodIn_app (goodIn_of _ (by decide +kernel)) ggX0_takeOffCountsOf_X0_isBlock
set_option maxRecDepth 20000 in
theorem ggX2_init_X1_init : GoodIn wsX2_init wsX1_init := goodIn_r _ [17, 18, 2, 3, 12, 19, 20, 21, 22, 23, 39, 40, 41, 42, 43] (by decide +kernel) (by decide +kernel)
set_option maxRecDepth 20000 in
theorem gX2_init_X1_init_n11 : GoodIn wsX2_init (wsX1_init) := ggX2_init_X1_init
set_option maxRecDepth 20000 in
theorem ggX2_init_X0_init : GoodIn wsX2_init wsX0_init := goodIn_r _ [25, 26, 2, 3, 12, 27, 28, 29, 30, 31, 32, 33, 34, 35, 36, 37, 38, 49, 50, 51, 52, 53, 54, 55, 56, 57, 58, 59] (by decide +kernel) (by decide +kernel)
set_option maxRecDepth 20000 in
theorem gX2_init_X0_init_n18 : GoodIn wsX2_init (wsX0_init) := ggX2_init_X0_init
set_option maxRecDepth 20000 in
theorem ggX2_type_X2_isType : GoodIn wsX2_type wsX2_isType := goodIn_r _ [5] (by decide +kernel) (by decide +kernel)
set_option maxRecDepth 20000 in
theorem gX2_type_X2_isType : GoodIn wsX2_type (va_wsS RX2 34 yX2_isType wsX2_isType) := goodIn_app (goodIn_of _ (by decide +kernel)) ggX2_type_X2_isType
set_option maxRecDepth 20000 in
theorem ggX2_type_X0_hasBlockOfType : GoodIn wsX2_type wsX0_hasBlockOfType := goodIn_r _ [10, 11, 12, 24, 25, 26, 27, 28, 29, 30, 31, 32, 33, 34] (by decide +kernel) (by decide +kernel)
set_option maxRecDepth 20000 in
theorem gX2_type_X0_hasBlockOfType : GoodIn wsX2_type (wsV RX2 38 RX0 yX0_hasBlockOfType wsX0_hasBlockOfType) := goodIn_app (goodIn_of _ (by decide +kernel)) ggX2_type_X0_hasBlockOfType
set_option maxRecDepth 20000 in
theorem ggX2_type_X0_changeType : GoodIn wsX2_type wsX0_changeType := goodIn_r _ [16, 17, 18, 24, 25, 26, 27, 28, 29, 30, 31, 32, 33, 34] (by decide +kernel) (by decide +kernel)
set_option maxRecDepth 20000 in
theorem gX2_type_X0_changeType : GoodIn wsX2_type (wsV RX2 41 RX0 yX0_changeType wsX0_changeType) := goodIn_app (goodIn_of _ (by decide +kernel)) ggX2_type_X0_changeType
set_option maxRecDepth 20000 in
theorem ggX2_add_X2_fits : GoodIn wsX2_add wsX2_fits := goodIn_r _ [8, 9, 10, 7, 11, 12, 13, 14, 15, 16, 17] (by decide +kernel) (by decide +kernel)
set_option maxRecDepth 20000 in
theorem gX2_add_X2_fits : GoodIn wsX2_add (va_wsS RX2 48 yX2_fits wsX2_fits) := goodIn_app (goodIn_of _ (by decide +kernel)) ggX2_add_X2_fits
set_option maxRecDepth 20000 in
theorem ggX2_add_X1_isFull : GoodIn wsX2_add wsX1_isFull := goodIn_r _ [22, 23, 37, 38, 39, 40, 41] (by decide +kernel) (by decide +kernel)
set_option maxRecDepth 20000 in
theorem gX2_add_X1_isFull : GoodIn wsX2_add (wsV RX2 58 RX1 yX1_isFull wsX1_isFull) := goodIn_app (goodIn_of _ (by decide +kernel)) ggX2_add_X1_isFull
set_option maxRecDepth 20000 in
theorem ggX2_add_X1_append : GoodIn wsX2_add wsX1_append := goodIn_r _ [27, 23, 28, 29, 30, 31, 37, 38, 39, 40, 41] (by decide +kernel) (by decide +kernel)
set_option maxRecDepth 20000 in
theorem gX2_add_X1_append : GoodIn wsX2_add (wsV RX2 62 RX1 yX1_append wsX1_append) := goodIn_app (goodIn_of _ (by decide +kernel)) ggX2_add_X1_append
set_option maxRecDepth 20000 in
theorem ggX2_clear_X2_goTo : GoodIn wsX2_clear wsX2_goTo := goodIn_r _ [6, 7, 8, 15, 16, 17, 18, 19] (by decide +kernel) (by decide +kernel)
set_option maxRecDepth 20000 in
theorem gX2_clear_X2_goTo : GoodIn wsX2_clear (wsV RX2 66 RX2 yX2_goTo wsX2_goTo) := goodIn_app (goodIn_of _ (by decide +kernel)) ggX2_clear_X2_goTo
set_option maxRecDepth 20000 in
theorem ggX2_clear_X1_removeAll : GoodIn wsX2_clear wsX1_removeAll := goodIn_r _ [13, 14, 20, 21, 22, 23, 24] (by decide +kernel) (by decide +kernel)
set_option maxRecDepth 20000 in
theorem gX2_clear_X1_removeAll : GoodIn wsX2_clear (wsV RX2 70 RX1 yX1_removeAll wsX1_removeAll) := goodIn_app (goodIn_of _ (by decide +kernel)) ggX2_clear_X1_removeAll
set_option maxRecDepth 20000 in
theorem ggX2_start_X2_isPlace : GoodIn wsX2_start wsX2_isPlace := goodIn_r _ [4] (by decide +kernel) (by decide +kernel)
set_option maxRecDepth 20000 in
theorem gX2_start_X2_isPlace : GoodIn wsX2_start (va_wsS RX2 74 yX2_isPlace wsX2_isPlace) := goodIn_app (goodIn_of _ (by decide +kernel)) ggX2_start_X2_isPlace
set_option maxRecDepth 20000 in
theorem ggX2_start_X2_goTo : GoodIn wsX2_start wsX2_goTo := goodIn_r _ [8, 9, 10, 11, 12, 13, 14, 15] (by decide +kernel) (by decide +kernel)
set_option maxRecDepth 20000 in
theorem gX2_start_X2_goTo : GoodIn wsX2_start (wsV RX2 66 RX2 yX2_goTo wsX2_goTo) := goodIn_app (goodIn_of _ (by decide +kernel)) ggX2_start_X2_goTo
set_option maxRecDepth 20000 in
theorem ggX2_run_X1_has : GoodIn wsX2_run wsX1_has := goodIn_r _ [9, 10, 173, 174, 175, 176, 177] (by decide +kernel) (by decide +kernel)
set_option maxRecDepth 20000 in
theorem gX2_run_X1_has : GoodIn wsX2_run (wsV RX2 84 RX1 yX1_has wsX1_has) := goodIn_app (goodIn_of _ (by decide +kernel)) ggX2_run_X1_has
set_option maxRecDepth 20000 in
theorem ggX2_run_X1_opAt : GoodIn wsX2_run wsX1_opAt := goodIn_r _ [14, 15, 173, 174, 175, 176, 177] (by decide +kernel) (by decide +kernel)
set_option maxRecDepth 20000 in
theorem gX2_run_X1_opAt : GoodIn wsX2_run (wsV RX2 87 RX1 yX1_opAt wsX1_opAt) := goodIn_app (goodIn_of _ (by decide +kernel)) ggX2_run_X1_opAt
set_option maxRecDepth 20000 in
theorem ggX2_run_X2_doInstruction : GoodIn wsX2_run wsX2_doInstruction := goodIn_ca (goodIn_ca (goodIn_ca (goodIn_ca (goodIn_r _ [20, 3, 21, 22, 23, 24, 4, 11, 12, 13, 8, 14, 15, 25, 26, 27, 28, 29, 30, 31, 32, 33, 34, 35, 36, 37, 38, 39, 40, 41, 42, 19, 43, 1, 2, 44, 45, 46, 47, 48, 49, 50, 51, 52, 53, 54, 55, 56, 57, 58, 59, 60, 61, 62, 63, 64, 65, 66, 67, 68, 69, 70, 71, 72, 73, 74, 75, 76, 77, 78, 79, 80, 81, 82, 83, 84, 85, 86, 87, 88, 89, 90, 91, 92, 93, 94, 95, 96, 97, 98, 99, 100, 101, 102, 103, 104, 105, 106, 107, 108, 109, 110, 111, 112, 113, 114, 115, 116, 117, 118, 119, 120, 121, 122, 123, 124, 125, 126, 127, 128, 129, 130, 131, 132, 133, 134, 135, 136, 137, 138, 139, 140, 141, 142, 143, 144, 145, 146, 147, 148, 149, 150, 151, 152, 153, 154, 155, 156, 157, 158, 159, 160, 161, 162, 163, 164, 165, 166, 167, 168, 169, 170, 171, 172, 173, 174, 175, 176, 177, 178, 179, 180, 181, 182, 183, 184, 185, 186, 187, 188] (by decide +kernel) (by decide +kernel)) (goodIn_sub (fun _ h => List.mem_cons_of_mem _ (List.mem_append_left _ (List.mem_append_left _ (List.mem_append_left _ (List.mem_append_right _ h))))) (by decide +kernel))) (goodIn_sub (fun _ h => List.mem_cons_of_mem _ (List.mem_append_left _ (List.mem_append_left _ (List.mem_append_right _ h)))) (by decide +kernel))) (goodIn_sub (fun _ h => List.mem_cons_of_mem _ (List.mem_append_left _ (List.mem_append_right _ h))) (by decide +kernel))) (goodIn_sub (fun _ h => List.mem_cons_of_mem _ (List.mem_append_right _ h)) (by decide +kernel))
set_option maxRecDepth 20000 in
theorem gX2_run_X2_doInstruction : GoodIn wsX2_run (wsV RX2 91 RX2 yX2_doInstruction wsX2_doInstruction) := goodIn_app (goodIn_of _ (by decide +kernel)) ggX2_run_X2_doInstruction
set_option maxRecDepth 20000 in
theorem ggX2_frame_X2_isFrameInt : GoodIn wsX2_frame wsX2_isFrameInt := goodIn_r _ [5] (by decide +kernel) (by decide +kernel)
set_option maxRecDepth 20000 in
theorem gX2_frame_X2_isFrameInt : GoodIn wsX2_frame (va_wsS RX2 94 yX2_isFrameInt wsX2_isFrameInt) := goodIn_app (goodIn_of _ (by decide +kernel)) ggX2_frame_X2_isFrameInt
set_option maxRecDepth 20000 in
theorem ggX2_frame_X0_read : GoodIn wsX2_frame wsX0_read := goodIn_r _ [10, 11, 17, 18, 19, 20, 21, 22, 23, 24, 25, 26, 27] (by decide +kernel) (by decide +kernel)
set_option maxRecDepth 20000 in
theorem gX2_frame_X0_read : GoodIn wsX2_frame (wsV RX2 97 RX0 yX0_read wsX0_read) := goodIn_app (goodIn_of _ (by decide +kernel)) ggX2_frame_X0_read
set_option maxRecDepth 20000 in
theorem ggX2_set_X2_isFrameInt : GoodIn wsX2_set wsX2_isFrameInt := goodIn_r _ [5] (by decide +kernel) (by decide +kernel)
set_option maxRecDepth 20000 in
theorem gX2_set_X2_isFrameInt : GoodIn wsX2_set (va_wsS RX2 94 yX2_isFrameInt wsX2_isFrameInt) := goodIn_app (goodIn_of _ (by decide +kernel)) ggX2_set_X2_isFrameInt
set_option maxRecDepth 20000 in
theorem ggX2_set_X0_writeInt : GoodIn wsX2_set wsX0_writeInt := goodIn_r _ [10, 11, 17, 18, 19, 20, 21, 22, 23, 24, 25, 26, 27] (by decide +kernel) (by decide +kernel)
set_option maxRecDepth 20000 in
theorem gX2_set_X0_writeInt : GoodIn wsX2_set (wsV RX2 100 RX0 yX0_writeInt wsX0_writeInt) := goodIn_app (goodIn_of _ (by decide +kernel)) ggX2_set_X0_writeInt
set_option maxRecDepth 20000 in
theorem ggX2_root_X0_read : GoodIn wsX2_root wsX0_read := goodIn_r _ [6, 7, 13, 14, 15, 16, 17, 18, 19, 20, 21, 22, 23] (by decide +kernel) (by decide +kernel)
set_option maxRecDepth 20000 in
theorem gX2_root_X0_read : GoodIn wsX2_root (wsV RX2 97 RX0 yX0_read wsX0_read) := goodIn_app (goodIn_of _ (by decide +kernel)) ggX2_root_X0_read
set_option maxRecDepth 20000 in
theorem ggX2_blocks_X0_blockTotal : GoodIn wsX2_blocks wsX0_blockTotal := goodIn_r _ [6, 7, 13, 14, 15, 16, 17, 18, 19, 20, 21, 22, 23] (by decide +kernel) (by decide +kernel)
set_option maxRecDepth 20000 in
theorem gX2_blocks_X0_blockTotal : GoodIn wsX2_blocks (wsV RX2 104 RX0 yX0_blockTotal wsX0_blockTotal) := goodIn_app (goodIn_of _ (by decide +kernel)) ggX2_blocks_X0_blockTotal
set_option maxRecDepth 20000 in
theorem ggX2_count_X0_countOf : GoodIn wsX2_count wsX0_countOf := goodIn_r _ [6, 7, 8, 9, 10, 5, 11, 12, 18, 19, 20, 21, 22, 23, 24, 25, 26, 27, 28] (by decide +kernel) (by decide +kernel)
set_option maxRecDepth 20000 in
theorem gX2_count_X0_countOf : GoodIn wsX2_count (wsV RX2 107 RX0 yX0_countOf wsX0_countOf) := goodIn_app (goodIn_of _ (by decide +kernel)) ggX2_count_X0_countOf
set_option maxRecDepth 20000 in
theorem ggX2_typeOf_X0_blockType : GoodIn wsX2_typeOf wsX0_blockType := goodIn_r _ [6, 7, 8, 9, 10, 5, 11, 12, 18, 19, 20, 21, 22, 23, 24, 25, 26, 27, 28] (by decide +kernel) (by decide +kernel)
set_option maxRecDepth 20000 in
theorem gX2_typeOf_X0_blockType : GoodIn wsX2_typeOf (wsV RX2 110 RX0 yX0_blockType wsX0_blockType) := goodIn_app (goodIn_of _ (by decide +kernel)) ggX2_typeOf_X0_blockType
set_option maxRecDepth 20000 in
theorem ggX2_word_X0_hasWord : GoodIn wsX2_word wsX0_hasWord := goodIn_r _ [7, 8, 9, 10, 11, 12, 6, 13, 14, 28, 29, 30, 31, 32, 33, 34, 35, 36, 37, 38] (by decide +kernel) (by decide +kernel)
set_option maxRecDepth 20000 in
theorem gX2_word_X0_hasWord : GoodIn wsX2_word (wsV RX2 113 RX0 yX0_hasWord wsX0_hasWord) := goodIn_app (goodIn_of _ (by decide +kernel)) ggX2_word_X0_hasWord
set_option maxRecDepth 20000 in
theorem ggX2_word_X0_cellOfWord : GoodIn wsX2_word wsX0_cellOfWord := goodIn_r _ [17] (by decide +kernel) (by decide +kernel)
set_option maxRecDepth 20000 in
theorem gX2_word_X0_cellOfWord : GoodIn wsX2_word (va_wsS RX2 116 yX0_cellOfWord wsX0_cellOfWord) := goodIn_app (goodIn_of _ (by decide +kernel)) ggX2_word_X0_cellOfWord
set_option maxRecDepth 20000 in
theorem ggX2_word_X0_read : GoodIn wsX2_word wsX0_read := goodIn_r _ [21, 22, 28, 29, 30, 31, 32, 33, 34, 35, 36, 37, 38] (by decide +kernel) (by decide +kernel)
set_option maxRecDepth 20000 in
theorem gX2_word_X0_read : GoodIn wsX2_word (wsV RX2 97 RX0 yX0_read wsX0_read) := goodIn_app (goodIn_of _ (by decide +kernel)) ggX2_word_X0_read
set_option maxRecDepth 20000 in
theorem ggX2_given_X0_givenTotal : GoodIn wsX2_given wsX0_givenTotal := goodIn_r _ [6, 7, 13, 14, 15, 16, 17, 18, 19, 20, 21, 22, 23] (by decide +kernel) (by decide +kernel)
set_option maxRecDepth 20000 in
theorem gX2_given_X0_givenTotal : GoodIn wsX2_given (wsV RX2 122 RX0 yX0_givenTotal wsX0_givenTotal) := goodIn_app (goodIn_of _ (by decide +kernel)) ggX2_given_X0_givenTotal
set_option maxRecDepth 20000 in
theorem ggX2_lost_X0_findLost : GoodIn wsX2_lost wsX0_findLost := goodIn_r _ [6, 7, 8, 9, 10, 11, 12, 13, 14, 5, 15, 16, 17, 18, 19, 20, 21, 22, 23, 24, 25, 26, 27, 28, 29, 30, 31, 32, 33, 34, 35, 36, 37, 38, 39, 40, 41, 42, 43, 44, 45, 46, 52, 53, 54, 55, 56, 57, 58, 59, 60, 61, 62] (by decide +kernel) (by decide +kernel)
set_option maxRecDepth 20000 in
theorem gX2_lost_X0_findLost : GoodIn wsX2_lost (wsV RX2 125 RX0 yX0_findLost wsX0_findLost) := goodIn_app (goodIn_of _ (by decide +kernel)) ggX2_lost_X0_findLost
set_option maxRecDepth 20000 in
theorem ggX2_collect_X0_giveBackLost : GoodIn wsX2_collect wsX0_giveBackLost := goodIn_r _ [6, 7, 8, 9, 10, 11, 5, 12, 13, 14, 15, 16, 17, 18, 19, 20, 21, 22, 23, 24, 25, 26, 27, 28, 29, 30, 31, 32, 33, 34, 35, 36, 37, 38, 39, 40, 41, 42, 43, 44, 45, 46, 47, 48, 49, 50, 51, 52, 53, 54, 55, 56, 57, 58, 59, 60, 66, 67, 68, 69, 70, 71, 72, 73, 74, 75, 76] (by decide +kernel) (by decide +kernel)
set_option maxRecDepth 20000 in
theorem gX2_collect_X0_giveBackLost : GoodIn wsX2_collect (wsV RX2 128 RX0 yX0_giveBackLost wsX0_giveBackLost) := goodIn_app (goodIn_of _ (by decide +kernel)) ggX2_collect_X0_giveBackLost
set_option maxRecDepth 20000 in
theorem ggX2_fits_X2_isOperand : GoodIn wsX2_fits wsX2_isOperand := goodIn_r _ [4] (by decide +kernel) (by decide +kernel)
set_option maxRecDepth 20000 in
theorem gX2_fits_X2_isOperand : GoodIn wsX2_fits (va_wsS RX2 131 yX2_isOperand wsX2_isOperand) := goodIn_app (goodIn_of _ (by decide +kernel)) ggX2_fits_X2_isOperand
set_option maxRecDepth 20000 in
theorem ggX2_fits_X2_isPlace : GoodIn wsX2_fits wsX2_isPlace := goodIn_r _ [7] (by decide +kernel) (by decide +kernel)
set_option maxRecDepth 20000 in
theorem gX2_fits_X2_isPlace : GoodIn wsX2_fits (va_wsS RX2 74 yX2_isPlace wsX2_isPlace) := goodIn_app (goodIn_of _ (by decide +kernel)) ggX2_fits_X2_isPlace
set_option maxRecDepth 20000 in
theorem ggX2_fits_X2_isType : GoodIn wsX2_fits wsX2_isType := goodIn_r _ [10] (by decide +kernel) (by decide +kernel)
set_option maxRecDepth 20000 in
theorem gX2_fits_X2_isType : GoodIn wsX2_fits (va_wsS RX2 34 yX2_isType wsX2_isType) := goodIn_app (goodIn_of _ (by decide +kernel)) ggX2_fits_X2_isType
set_option maxRecDepth 20000 in
theorem ggX2_doInstruction_X1_opAt : GoodIn wsX2_doInstruction wsX1_opAt := goodIn_r _ [11, 12, 164, 165, 166, 167, 168] (by decide +kernel) (by decide +kernel)
set_option maxRecDepth 20000 in
theorem gX2_doInstruction_X1_opAt : GoodIn wsX2_doInstruction (wsV RX2 87 RX1 yX1_opAt wsX1_opAt) := goodIn_app (goodIn_of _ (by decide +kernel)) ggX2_doInstruction_X1_opAt
set_option maxRecDepth 20000 in
theorem ggX2_doInstruction_X1_xAt : GoodIn wsX2_doInstruction wsX1_xAt := goodIn_r _ [16, 17, 164, 165, 166, 167, 168] (by decide +kernel) (by decide +kernel)
set_option maxRecDepth 20000 in
theorem gX2_doInstruction_X1_xAt : GoodIn wsX2_doInstruction (wsV RX2 134 RX1 yX1_xAt wsX1_xAt) := goodIn_app (goodIn_of _ (by decide +kernel)) ggX2_doInstruction_X1_xAt
set_option maxRecDepth 20000 in
theorem ggX2_doInstruction_X1_yAt : GoodIn wsX2_doInstruction wsX1_yAt := goodIn_r _ [21, 22, 164, 165, 166, 167, 168] (by decide +kernel) (by decide +kernel)
set_option maxRecDepth 20000 in
theorem gX2_doInstruction_X1_yAt : GoodIn wsX2_doInstruction (wsV RX2 137 RX1 yX1_yAt wsX1_yAt) := goodIn_app (goodIn_of _ (by decide +kernel)) ggX2_doInstruction_X1_yAt
set_option maxRecDepth 20000 in
theorem ggX2_doInstruction_X1_zAt : GoodIn wsX2_doInstruction wsX1_zAt := goodIn_r _ [26, 27, 164, 165, 166, 167, 168] (by decide +kernel) (by decide +kernel)
set_option maxRecDepth 20000 in
theorem gX2_doInstruction_X1_zAt : GoodIn wsX2_doInstruction (wsV RX2 140 RX1 yX1_zAt wsX1_zAt) := goodIn_app (goodIn_of _ (by decide +kernel)) ggX2_doInstruction_X1_zAt
set_option maxRecDepth 20000 in
theorem ggX2_doInstruction_X2_checkOperand : GoodIn wsX2_doInstruction wsX2_checkOperand := goodIn_ca (goodIn_ca (goodIn_ca (goodIn_r _ [32, 33, 34, 5, 35, 36, 37, 38, 39, 40, 41, 42, 43, 44, 45, 46, 31, 47, 48, 49, 50, 51, 52, 53, 54, 55, 56, 57, 58, 59, 60, 61, 62, 63, 64, 65, 66, 67, 68, 69, 70, 71, 72, 73, 74, 75, 76, 77, 78, 159, 160, 161, 162, 163, 169, 170, 171, 172, 173, 174, 175, 176, 177, 178, 179] (by decide +kernel) (by decide +kernel)) (goodIn_sub (fun _ h => List.mem_cons_of_mem _ (List.mem_append_left _ (List.mem_append_left _ (List.mem_append_left _ (List.mem_append_right _ h))))) (by decide +kernel))) (goodIn_sub (fun _ h => List.mem_cons_of_mem _ (List.mem_append_left _ (List.mem_append_left _ (List.mem_append_right _ h)))) (by decide +kernel))) (goodIn_sub (fun _ h => List.mem_cons_of_mem _ (List.mem_append_left _ (List.mem_append_right _ h))) (by decide +kernel))
set_option maxRecDepth 20000 in
theorem gX2_doInstruction_X2_checkOperand : GoodIn wsX2_doInstruction (wsV RX2 143 RX2 yX2_checkOperand wsX2_checkOperand) := goodIn_app (goodIn_of _ (by decide +kernel)) ggX2_doInstruction_X2_checkOperand
set_option maxRecDepth 20000 in
theorem ggX2_doInstruction_X2_checkRoom : GoodIn wsX2_doInstruction wsX2_checkRoom := goodIn_ca (goodIn_ca (goodIn_r _ [82, 83, 84, 48, 49, 5, 85, 86, 87, 88, 38, 89, 90, 159, 160, 161, 162, 163, 169, 170, 171, 172, 173, 174, 175, 176, 177, 178, 179] (by decide +kernel) (by decide +kernel)) (goodIn_sub (fun _ h => List.mem_cons_of_mem _ (List.mem_append_right _ h)) (by decide +kernel))) (goodIn_sub (fun _ h => List.mem_cons_of_mem _ (List.mem_append_left _ (List.mem_append_left _ (List.mem_append_right _ h)))) (by decide +kernel))
set_option maxRecDepth 20000 in
theorem gX2_doInstruction_X2_checkRoom : GoodIn wsX2_doInstruction (wsV RX2 146 RX2 yX2_checkRoom wsX2_checkRoom) := goodIn_app (goodIn_of _ (by decide +kernel)) ggX2_doInstruction_X2_checkRoom
set_option maxRecDepth 20000 in
theorem ggX2_doInstruction_X0_cellOf : GoodIn wsX2_doInstruction wsX0_cellOf := goodIn_r _ [94, 67, 36, 37, 38, 39, 40, 68, 42, 43, 95, 96, 97, 169, 170, 171, 172, 173, 174, 175, 176, 177, 178, 179] (by decide +kernel) (by decide +kernel)
set_option maxRecDepth 20000 in
theorem gX2_doInstruction_X0_cellOf : GoodIn wsX2_doInstruction (wsV RX2 149 RX0 yX0_cellOf wsX0_cellOf) := goodIn_app (goodIn_of _ (by decide +kernel)) ggX2_doInstruction_X0_cellOf
set_option maxRecDepth 20000 in
theorem ggX2_doInstruction_X2_intResult : GoodIn wsX2_doInstruction wsX2_intResult := goodIn_r _ [101, 102, 103, 104, 31, 105, 5, 91, 92, 93, 38, 94, 67, 36, 37, 39, 40, 68, 42, 43, 95, 96, 97, 106, 107, 108, 109, 159, 160, 161, 162, 163, 169, 170, 171, 172, 173, 174, 175, 176, 177, 178, 179] (by decide +kernel) (by decide +kernel)
set_option maxRecDepth 20000 in
theorem gX2_doInstruction_X2_intResult : GoodIn wsX2_doInstruction (wsV RX2 152 RX2 yX2_intResult wsX2_intResult) := goodIn_app (goodIn_of _ (by decide +kernel)) ggX2_doInstruction_X2_intResult
set_option maxRecDepth 20000 in
theorem ggX2_doInstruction_X0_writeInt : GoodIn wsX2_doInstruction wsX0_writeInt := goodIn_r _ [113, 40, 169, 170, 171, 172, 173, 174, 175, 176, 177, 178, 179] (by decide +kernel) (by decide +kernel)
set_option maxRecDepth 20000 in
theorem gX2_doInstruction_X0_writeInt : GoodIn wsX2_doInstruction (wsV RX2 100 RX0 yX0_writeInt wsX0_writeInt) := goodIn_app (goodIn_of _ (by decide +kernel)) ggX2_doInstruction_X0_writeInt
set_option maxRecDepth 20000 in
theorem ggX2_doInstruction_X2_pointerResult : GoodIn wsX2_doInstruction wsX2_pointerResult := goodIn_r _ [117, 5, 118, 119, 120, 38, 121, 62, 57, 122, 90, 123, 124, 125, 126, 40, 95, 96, 97, 102, 103, 104, 31, 105, 91, 92, 93, 94, 67, 36, 37, 39, 68, 42, 43, 106, 107, 108, 109, 159, 160, 161, 162, 163, 169, 170, 171, 172, 173, 174, 175, 176, 177, 178, 179] (by decide +kernel) (by decide +kernel)
set_option maxRecDepth 20000 in
theorem gX2_doInstruction_X2_pointerResult : GoodIn wsX2_doInstruction (wsV RX2 156 RX2 yX2_pointerResult wsX2_pointerResult) := goodIn_app (goodIn_of _ (by decide +kernel)) ggX2_doInstruction_X2_pointerResult
set_option maxRecDepth 20000 in
theorem ggX2_doInstruction_X0_writePointer : GoodIn wsX2_doInstruction wsX0_writePointer := goodIn_r _ [130, 40, 122, 58, 59, 60, 38, 61, 62, 131, 132, 133, 134, 135, 136, 137, 138, 139, 140, 141, 142, 143, 144, 90, 145, 146, 147, 148, 149, 150, 151, 152, 153, 74, 75, 76, 77, 78, 57, 95, 96, 97, 169, 170, 171, 172, 173, 174, 175, 176, 177, 178, 179] (by decide +kernel) (by decide +kernel)
set_option maxRecDepth 20000 in
theorem gX2_doInstruction_X0_writePointer : GoodIn wsX2_doInstruction (wsV RX2 159 RX0 yX0_writePointer wsX0_writePointer) := goodIn_app (goodIn_of _ (by decide +kernel)) ggX2_doInstruction_X0_writePointer
set_option maxRecDepth 20000 in
theorem ggX2_doInstruction_X2_placeAfter : GoodIn wsX2_doInstruction wsX2_placeAfter := goodIn_r _ [157, 158, 85, 102, 103, 104, 31, 105, 5, 91, 92, 93, 38, 94, 67, 36, 37, 39, 40, 68, 42, 43, 95, 96, 97, 106, 107, 108, 109, 159, 160, 161, 162, 163, 169, 170, 171, 172, 173, 174, 175, 176, 177, 178, 179] (by decide +kernel) (by decide +kernel)
set_option maxRecDepth 20000 in
theorem gX2_doInstruction_X2_placeAfter : GoodIn wsX2_doInstruction (wsV RX2 162 RX2 yX2_placeAfter wsX2_placeAfter) := goodIn_app (goodIn_of _ (by decide +kernel)) ggX2_doInstruction_X2_placeAfter
set_option maxRecDepth 20000 in
theorem ggX2_checkOperand_X0_blockOf : GoodIn wsX2_checkOperand wsX0_blockOf := goodIn_r _ [8, 9, 54, 55, 56, 57, 58, 59, 60, 61, 62, 63, 64] (by decide +kernel) (by decide +kernel)
set_option maxRecDepth 20000 in
theorem gX2_checkOperand_X0_blockOf : GoodIn wsX2_checkOperand (wsV RX2 165 RX0 yX0_blockOf wsX0_blockOf) := goodIn_app (goodIn_of _ (by decide +kernel)) ggX2_checkOperand_X0_blockOf
set_option maxRecDepth 20000 in
theorem ggX2_checkOperand_X0_wordOf : GoodIn wsX2_checkOperand wsX0_wordOf := goodIn_r _ [12] (by decide +kernel) (by decide +kernel)
set_option maxRecDepth 20000 in
theorem gX2_checkOperand_X0_wordOf : GoodIn wsX2_checkOperand (va_wsS RX2 168 yX0_wordOf wsX0_wordOf) := goodIn_app (goodIn_of _ (by decide +kernel)) ggX2_checkOperand_X0_wordOf
set_option maxRecDepth 20000 in
theorem ggX2_checkOperand_X2_checkWord : GoodIn wsX2_checkOperand wsX2_checkWord := goodIn_ca (goodIn_ca (goodIn_r _ [17, 18, 19, 20, 21, 3, 22, 23, 24, 7, 25, 26, 27, 28, 29, 30, 31, 32, 49, 50, 51, 52, 53, 54, 55, 56, 57, 58, 59, 60, 61, 62, 63, 64] (by decide +kernel) (by decide +kernel)) (goodIn_sub (fun _ h => List.mem_cons_of_mem _ (List.mem_append_left _ (List.mem_append_right _ h))) (by decide +kernel))) (goodIn_sub (fun _ h => List.mem_cons_of_mem _ (List.mem_append_right _ h)) (by decide +kernel))
set_option maxRecDepth 20000 in
theorem gX2_checkOperand_X2_checkWord : GoodIn wsX2_checkOperand (wsV RX2 171 RX2 yX2_checkWord wsX2_checkWord) := goodIn_app (goodIn_of _ (by decide +kernel)) ggX2_checkOperand_X2_checkWord
set_option maxRecDepth 20000 in
theorem ggX2_checkOperand_X0_holdsPointer : GoodIn wsX2_checkOperand wsX0_holdsPointer := goodIn_r _ [36, 37, 5, 6, 7, 8, 9, 38, 11, 12, 39, 40, 41, 42, 43, 23, 24, 25, 26, 27, 28, 29, 30, 31, 32, 44, 45, 46, 47, 48, 54, 55, 56, 57, 58, 59, 60, 61, 62, 63, 64] (by decide +kernel) (by decide +kernel)
set_option maxRecDepth 20000 in
theorem gX2_checkOperand_X0_holdsPointer : GoodIn wsX2_checkOperand (wsV RX2 174 RX0 yX0_holdsPointer wsX0_holdsPointer) := goodIn_app (goodIn_of _ (by decide +kernel)) ggX2_checkOperand_X0_holdsPointer
set_option maxRecDepth 20000 in
theorem ggX2_checkWord_X0_hasWord : GoodIn wsX2_checkWord wsX0_hasWord := goodIn_r _ [10, 11, 12, 13, 14, 15, 9, 16, 17, 23, 24, 25, 26, 27, 28, 29, 30, 31, 32, 33] (by decide +kernel) (by decide +kernel)
set_option maxRecDepth 20000 in
theorem gX2_checkWord_X0_hasWord : GoodIn wsX2_checkWord (wsV RX2 113 RX0 yX0_hasWord wsX0_hasWord) := goodIn_app (goodIn_of _ (by decide +kernel)) ggX2_checkWord_X0_hasWord
set_option maxRecDepth 20000 in
theorem ggX2_checkRoom_X0_isFull : GoodIn wsX2_checkRoom wsX0_isFull := goodIn_r _ [11, 12, 18, 19, 20, 21, 22, 23, 24, 25, 26, 27, 28] (by decide +kernel) (by decide +kernel)
set_option maxRecDepth 20000 in
theorem gX2_checkRoom_X0_isFull : GoodIn wsX2_checkRoom (wsV RX2 189 RX0 yX0_isFull wsX0_isFull) := goodIn_app (goodIn_of _ (by decide +kernel)) ggX2_checkRoom_X0_isFull
set_option maxRecDepth 20000 in
theorem ggX2_intResult_X2_valueOf : GoodIn wsX2_intResult wsX2_valueOf := goodIn_r _ [5, 6, 7, 8, 9, 10, 11, 12, 13, 14, 15, 16, 17, 18, 19, 20, 21, 22, 23, 24, 25, 26, 27, 28, 29, 30, 31, 32, 33, 34, 35, 36, 37, 38, 39, 40, 41, 42] (by decide +kernel) (by decide +kernel)
set_option maxRecDepth 20000 in
theorem gX2_intResult_X2_valueOf : GoodIn wsX2_intResult (wsV RX2 199 RX2 yX2_valueOf wsX2_valueOf) := goodIn_app (goodIn_of _ (by decide +kernel)) ggX2_intResult_X2_valueOf
set_option maxRecDepth 20000 in
theorem ggX2_pointerResult_X0_makeBlock : GoodIn wsX2_pointerResult wsX0_makeBlock := goodIn_r _ [6, 7, 8, 9, 10, 11, 12, 13, 5, 14, 15, 16, 17, 18, 44, 45, 46, 47, 48, 49, 50, 51, 52, 53, 54] (by decide +kernel) (by decide +kernel)
set_option maxRecDepth 20000 in
theorem gX2_pointerResult_X0_makeBlock : GoodIn wsX2_pointerResult (wsV RX2 202 RX0 yX0_makeBlock wsX0_makeBlock) := goodIn_app (goodIn_of _ (by decide +kernel)) ggX2_pointerResult_X0_makeBlock
set_option maxRecDepth 20000 in
theorem ggX2_pointerResult_X2_valueOf : GoodIn wsX2_pointerResult wsX2_valueOf := goodIn_r _ [23, 1, 24, 25, 26, 5, 27, 28, 29, 30, 31, 15, 32, 33, 34, 16, 17, 18, 35, 36, 37, 38, 39, 40, 41, 42, 43, 44, 45, 46, 47, 48, 49, 50, 51, 52, 53, 54] (by decide +kernel) (by decide +kernel)
set_option maxRecDepth 20000 in
theorem gX2_pointerResult_X2_valueOf : GoodIn wsX2_pointerResult (wsV RX2 199 RX2 yX2_valueOf wsX2_valueOf) := goodIn_app (goodIn_of _ (by decide +kernel)) ggX2_pointerResult_X2_valueOf
set_option maxRecDepth 20000 in
theorem ggX2_valueOf_X0_cellOf : GoodIn wsX2_valueOf wsX0_cellOf := goodIn_r _ [6, 7, 8, 9, 5, 10, 11, 12, 13, 14, 15, 16, 17, 27, 28, 29, 30, 31, 32, 33, 34, 35, 36, 37] (by decide +kernel) (by decide +kernel)
set_option maxRecDepth 20000 in
theorem gX2_valueOf_X0_cellOf : GoodIn wsX2_valueOf (wsV RX2 149 RX0 yX0_cellOf wsX0_cellOf) := goodIn_app (goodIn_of _ (by decide +kernel)) ggX2_valueOf_X0_cellOf
set_option maxRecDepth 20000 in
theorem ggX2_valueOf_X0_read : GoodIn wsX2_valueOf wsX0_read := goodIn_r _ [21, 11, 27, 28, 29, 30, 31, 32, 33, 34, 35, 36, 37] (by decide +kernel) (by decide +kernel)
set_option maxRecDepth 20000 in
theorem gX2_valueOf_X0_read : GoodIn wsX2_valueOf (wsV RX2 97 RX0 yX0_read wsX0_read) := goodIn_app (goodIn_of _ (by decide +kernel)) ggX2_valueOf_X0_read
set_option maxRecDepth 20000 in
theorem ggX2_placeAfter_X2_valueOf : GoodIn wsX2_placeAfter wsX2_valueOf := goodIn_r _ [7, 8, 9, 10, 11, 12, 13, 14, 15, 16, 17, 18, 19, 20, 21, 22, 23, 24, 25, 26, 27, 28, 29, 30, 31, 32, 33, 34, 35, 36, 37, 38, 39, 40, 41, 42, 43, 44] (by decide +kernel) (by decide +kernel)
set_option maxRecDepth 20000 in
theorem gX2_placeAfter_X2_valueOf : GoodIn wsX2_placeAfter (wsV RX2 199 RX2 yX2_valueOf wsX2_valueOf) := goodIn_app (goodIn_of _ (by decide +kernel)) ggX2_placeAfter_X2_valueOf
set_option maxRecDepth 20000 in
theorem ggX3_type_X3_within : GoodIn wsX3_type wsX3_within := goodIn_r _ [8] (by decide +kernel) (by decide +kernel)
set_option maxRecDepth 20000 in
theorem gX3_type_X3_within : GoodIn wsX3_type (va_wsS RX3 45 yX3_within wsX3_within) := goodIn_app (goodIn_of _ (by decide +kernel)) ggX3_type_X3_within
set_option maxRecDepth 20000 in
theorem ggX3_isOperand_X3_within : GoodIn wsX3_isOperand wsX3_within := goodIn_r _ [4] (by decide +kernel) (by decide +kernel)
set_option maxRecDepth 20000 in
theorem gX3_isOperand_X3_within : GoodIn wsX3_isOperand (va_wsS RX3 45 yX3_within wsX3_within) := goodIn_app (goodIn_of _ (by decide +kernel)) ggX3_isOperand_X3_within
set_option maxRecDepth 20000 in
theorem ggX3_takes_X3_within : GoodIn wsX3_takes wsX3_within := goodIn_r _ [4] (by decide +kernel) (by decide +kernel)
set_option maxRecDepth 20000 in
theorem gX3_takes_X3_within : GoodIn wsX3_takes (va_wsS RX3 45 yX3_within wsX3_within) := goodIn_app (goodIn_of _ (by decide +kernel)) ggX3_takes_X3_within
set_option maxRecDepth 20000 in
theorem ggX3_isRight_X3_takes : GoodIn wsX3_isRight wsX3_takes := goodIn_r _ [4, 5, 6, 3, 7] (by decide +kernel) (by decide +kernel)
set_option maxRecDepth 20000 in
theorem gX3_isRight_X3_takes : GoodIn wsX3_isRight (va_wsS RX3 49 yX3_takes wsX3_takes) := goodIn_app (goodIn_of _ (by decide +kernel)) ggX3_isRight_X3_takes
set_option maxRecDepth 20000 in
theorem ggX3_isRight_X3_isOperand : GoodIn wsX3_isRight wsX3_isOperand := goodIn_r _ [10, 5, 6, 3, 7] (by decide +kernel) (by decide +kernel)
set_option maxRecDepth 20000 in
theorem gX3_isRight_X3_isOperand : GoodIn wsX3_isRight (va_wsS RX3 53 yX3_isOperand wsX3_isOperand) := goodIn_app (goodIn_of _ (by decide +kernel)) ggX3_isRight_X3_isOperand
set_option maxRecDepth 20000 in
theorem ggX3_isRight_X3_within : GoodIn wsX3_isRight wsX3_within := goodIn_r _ [7] (by decide +kernel) (by decide +kernel)
set_option maxRecDepth 20000 in
theorem gX3_isRight_X3_within : GoodIn wsX3_isRight (va_wsS RX3 45 yX3_within wsX3_within) := goodIn_app (goodIn_of _ (by decide +kernel)) ggX3_isRight_X3_within
set_option maxRecDepth 20000 in
theorem ggX3_add_X3_within : GoodIn wsX3_add wsX3_within := goodIn_r _ [7] (by decide +kernel) (by decide +kernel)
set_option maxRecDepth 20000 in
theorem gX3_add_X3_within : GoodIn wsX3_add (va_wsS RX3 45 yX3_within wsX3_within) := goodIn_app (goodIn_of _ (by decide +kernel)) ggX3_add_X3_within
set_option maxRecDepth 20000 in
theorem ggX3_add_X3_isRight : GoodIn wsX3_add wsX3_isRight := goodIn_r _ [10, 11, 12, 6, 13, 4, 5, 7, 14, 15, 16] (by decide +kernel) (by decide +kernel)
set_option maxRecDepth 20000 in
theorem gX3_add_X3_isRight : GoodIn wsX3_add (va_wsS RX3 57 yX3_isRight wsX3_isRight) := goodIn_app (goodIn_of _ (by decide +kernel)) ggX3_add_X3_isRight
set_option maxRecDepth 20000 in
theorem ggX3_start_X3_within : GoodIn wsX3_start wsX3_within := goodIn_r _ [7] (by decide +kernel) (by decide +kernel)
set_option maxRecDepth 20000 in
theorem gX3_start_X3_within : GoodIn wsX3_start (va_wsS RX3 45 yX3_within wsX3_within) := goodIn_app (goodIn_of _ (by decide +kernel)) ggX3_start_X3_within
set_option maxRecDepth 20000 in
theorem ggX3_isBlock_X3_within : GoodIn wsX3_isBlock wsX3_within := goodIn_r _ [5] (by decide +kernel) (by decide +kernel)
set_option maxRecDepth 20000 in
theorem gX3_isBlock_X3_within : GoodIn wsX3_isBlock (va_wsS RX3 45 yX3_within wsX3_within) := goodIn_app (goodIn_of _ (by decide +kernel)) ggX3_isBlock_X3_within
set_option maxRecDepth 20000 in
theorem ggX3_countAll_X3_isPointer : GoodIn wsX3_countAll wsX3_isPointer := goodIn_r _ [10, 11, 3, 12, 13, 14, 15, 16, 17, 18, 19, 20, 21, 22, 23, 24, 25, 26, 27, 28] (by decide +kernel) (by decide +kernel)
set_option maxRecDepth 20000 in
theorem gX3_countAll_X3_isPointer : GoodIn wsX3_countAll (wsV RX3 69 RX3 yX3_isPointer wsX3_isPointer) := goodIn_app (goodIn_of _ (by decide +kernel)) ggX3_countAll_X3_isPointer
set_option maxRecDepth 20000 in
theorem ggX3_giveBack_X3_countAll : GoodIn wsX3_giveBack wsX3_countAll := goodIn_r _ [8, 2, 9, 1, 10, 11, 12, 13, 14, 7, 15, 16, 17, 18, 19, 20, 21, 22, 23, 24, 25, 26, 27, 28, 29, 30, 31, 32, 33] (by decide +kernel) (by decide +kernel)
set_option maxRecDepth 20000 in
theorem gX3_giveBack_X3_countAll : GoodIn wsX3_giveBack (wsV RX3 73 RX3 yX3_countAll wsX3_countAll) := goodIn_app (goodIn_of _ (by decide +kernel)) ggX3_giveBack_X3_countAll
set_option maxRecDepth 20000 in
theorem ggX3_reach_X3_isPointer : GoodIn wsX3_reach wsX3_isPointer := goodIn_r _ [10, 11, 3, 12, 13, 14, 15, 16, 17, 18, 19, 20, 21, 22, 23, 24, 25, 26, 27, 28] (by decide +kernel) (by decide +kernel)
set_option maxRecDepth 20000 in
theorem gX3_reach_X3_isPointer : GoodIn wsX3_reach (wsV RX3 69 RX3 yX3_isPointer wsX3_isPointer) := goodIn_app (goodIn_of _ (by decide +kernel)) ggX3_reach_X3_isPointer
set_option maxRecDepth 20000 in
theorem ggX3_find_X3_isPointer : GoodIn wsX3_find wsX3_isPointer := goodIn_r _ [10, 11, 5, 12, 13, 14, 15, 16, 17, 18, 19, 20, 21, 22, 23, 24, 25, 26, 27, 28] (by decide +kernel) (by decide +kernel)
set_option maxRecDepth 20000 in
theorem gX3_find_X3_isPointer : GoodIn wsX3_find (wsV RX3 69 RX3 yX3_isPointer wsX3_isPointer) := goodIn_app (goodIn_of _ (by decide +kernel)) ggX3_find_X3_isPointer
set_option maxRecDepth 20000 in
theorem ggX3_read_X3_find : GoodIn wsX3_read wsX3_find := goodIn_r _ [10, 1, 5, 3, 11, 12, 13, 14, 15, 9, 16, 17, 18, 19, 20, 21, 22, 23, 24, 25, 26, 27, 28, 29, 30, 31, 32, 33, 34] (by decide +kernel) (by decide +kernel)
set_option maxRecDepth 20000 in
theorem gX3_read_X3_find : GoodIn wsX3_read (wsV RX3 85 RX3 yX3_find wsX3_find) := goodIn_app (goodIn_of _ (by decide +kernel)) ggX3_read_X3_find
set_option maxRecDepth 20000 in
theorem ggX3_write_X3_find : GoodIn wsX3_write wsX3_find := goodIn_r _ [10, 1, 3, 5, 11, 12, 13, 14, 15, 9, 16, 17, 18, 19, 20, 21, 22, 23, 24, 25, 26, 27, 28, 29, 30, 31, 32, 33, 34] (by decide +kernel) (by decide +kernel)
set_option maxRecDepth 20000 in
theorem gX3_write_X3_find : GoodIn wsX3_write (wsV RX3 85 RX3 yX3_find wsX3_find) := goodIn_app (goodIn_of _ (by decide +kernel)) ggX3_write_X3_find
set_option maxRecDepth 20000 in
theorem ggX3_fault_X3_takes : GoodIn wsX3_fault wsX3_takes := goodIn_r _ [6, 7, 8, 5, 9] (by decide +kernel) (by decide +kernel)
set_option maxRecDepth 20000 in
theorem gX3_fault_X3_takes : GoodIn wsX3_fault (va_wsS RX3 49 yX3_takes wsX3_takes) := goodIn_app (goodIn_of _ (by decide +kernel)) ggX3_fault_X3_takes
set_option maxRecDepth 20000 in
theorem ggX3_fault_X3_find : GoodIn wsX3_fault wsX3_find := goodIn_r _ [13, 14, 15, 16, 17, 18, 19, 20, 21, 5, 22, 23, 28, 29, 30, 31, 32, 33, 34, 35, 36, 37, 38, 39, 40, 41, 42, 43, 44] (by decide +kernel) (by decide +kernel)
set_option maxRecDepth 20000 in
theorem gX3_fault_X3_find : GoodIn wsX3_fault (wsV RX3 85 RX3 yX3_find wsX3_find) := goodIn_app (goodIn_of _ (by decide +kernel)) ggX3_fault_X3_find
set_option maxRecDepth 20000 in
theorem ggX3_fault_X3_free : GoodIn wsX3_fault wsX3_free := goodIn_r _ [27, 18, 28, 29, 30, 31, 32, 33, 34, 35, 36, 37, 38, 39, 40, 41, 42, 43, 44] (by decide +kernel) (by decide +kernel)
set_option maxRecDepth 20000 in
theorem gX3_fault_X3_free : GoodIn wsX3_fault (wsV RX3 88 RX3 yX3_free wsX3_free) := goodIn_app (goodIn_of _ (by decide +kernel)) ggX3_fault_X3_free
set_option maxRecDepth 20000 in
theorem ggX3_act_X3_write : GoodIn wsX3_act wsX3_write := goodIn_r _ [11, 12, 4, 13, 14, 15, 16, 17, 18, 10, 19, 20, 3, 21, 22, 23, 24, 25, 50, 51, 52, 53, 54, 55, 56, 57, 58, 59, 60, 61, 62, 63, 64, 65, 66] (by decide +kernel) (by decide +kernel)
set_option maxRecDepth 20000 in
theorem gX3_act_X3_write : GoodIn wsX3_act (wsV RX3 92 RX3 yX3_write wsX3_write) := goodIn_app (goodIn_of _ (by decide +kernel)) ggX3_act_X3_write
set_option maxRecDepth 20000 in
theorem ggX3_act_X3_read : GoodIn wsX3_act wsX3_read := goodIn_r _ [29, 12, 14, 15, 4, 13, 16, 17, 18, 10, 19, 20, 3, 21, 22, 23, 24, 25, 50, 51, 52, 53, 54, 55, 56, 57, 58, 59, 60, 61, 62, 63, 64, 65, 66] (by decide +kernel) (by decide +kernel)
set_option maxRecDepth 20000 in
theorem gX3_act_X3_read : GoodIn wsX3_act (wsV RX3 96 RX3 yX3_read wsX3_read) := goodIn_app (goodIn_of _ (by decide +kernel)) ggX3_act_X3_read
set_option maxRecDepth 20000 in
theorem ggX3_act_X3_within : GoodIn wsX3_act wsX3_within := goodIn_r _ [32] (by decide +kernel) (by decide +kernel)
set_option maxRecDepth 20000 in
theorem gX3_act_X3_within : GoodIn wsX3_act (va_wsS RX3 45 yX3_within wsX3_within) := goodIn_app (goodIn_of _ (by decide +kernel)) ggX3_act_X3_within
set_option maxRecDepth 20000 in
theorem ggX3_act_X3_value : GoodIn wsX3_act wsX3_value := goodIn_r _ [35] (by decide +kernel) (by decide +kernel)
set_option maxRecDepth 20000 in
theorem gX3_act_X3_value : GoodIn wsX3_act (va_wsS RX3 100 yX3_value wsX3_value) := goodIn_app (goodIn_of _ (by decide +kernel)) ggX3_act_X3_value
set_option maxRecDepth 20000 in
theorem ggX3_act_X3_free : GoodIn wsX3_act wsX3_free := goodIn_r _ [39, 3, 50, 51, 52, 53, 54, 55, 56, 57, 58, 59, 60, 61, 62, 63, 64, 65, 66] (by decide +kernel) (by decide +kernel)
set_option maxRecDepth 20000 in
theorem gX3_act_X3_free : GoodIn wsX3_act (wsV RX3 88 RX3 yX3_free wsX3_free) := goodIn_app (goodIn_of _ (by decide +kernel)) ggX3_act_X3_free
set_option maxRecDepth 20000 in
theorem ggX3_act_X3_giveBack : GoodIn wsX3_act wsX3_giveBack := goodIn_r _ [43, 3, 44, 45, 46, 47, 48, 10, 49, 15, 20, 4, 21, 22, 23, 24, 25, 50, 51, 52, 53, 54, 55, 56, 57, 58, 59, 60, 61, 62, 63, 64, 65, 66] (by decide +kernel) (by decide +kernel)
set_option maxRecDepth 20000 in
theorem gX3_act_X3_giveBack : GoodIn wsX3_act (wsV RX3 104 RX3 yX3_giveBack wsX3_giveBack) := goodIn_app (goodIn_of _ (by decide +kernel)) ggX3_act_X3_giveBack
set_option maxRecDepth 20000 in
theorem ggX3_run_X3_within : GoodIn wsX3_run wsX3_within := goodIn_r _ [8] (by decide +kernel) (by decide +kernel)
set_option maxRecDepth 20000 in
theorem gX3_run_X3_within : GoodIn wsX3_run (va_wsS RX3 45 yX3_within wsX3_within) := goodIn_app (goodIn_of _ (by decide +kernel)) ggX3_run_X3_within
set_option maxRecDepth 20000 in
theorem ggX3_run_X3_fault : GoodIn wsX3_run wsX3_fault := goodIn_r _ [12, 4, 13, 14, 15, 7, 16, 5, 6, 8, 17, 18, 19, 20, 21, 22, 23, 24, 25, 26, 27, 28, 29, 30, 31, 32, 33, 34, 63, 64, 65, 66, 67, 68, 69, 70, 71, 72, 73, 74, 75, 76, 77, 78, 79] (by decide +kernel) (by decide +kernel)
set_option maxRecDepth 20000 in
theorem gX3_run_X3_fault : GoodIn wsX3_run (wsV RX3 107 RX3 yX3_fault wsX3_fault) := goodIn_app (goodIn_of _ (by decide +kernel)) ggX3_run_X3_fault
set_option maxRecDepth 20000 in
theorem ggX3_run_X3_act : GoodIn wsX3_run wsX3_act := goodIn_r _ [38, 4, 2, 25, 39, 40, 13, 41, 42, 43, 7, 44, 21, 22, 45, 23, 17, 18, 19, 20, 24, 26, 27, 28, 29, 30, 46, 47, 48, 49, 5, 6, 8, 50, 51, 52, 31, 32, 33, 34, 53, 54, 55, 56, 57, 58, 59, 60, 61, 62, 63, 64, 65, 66, 67, 68, 69, 70, 71, 72, 73, 74, 75, 76, 77, 78, 79] (by decide +kernel) (by decide +kernel)
set_option maxRecDepth 20000 in
theorem gX3_run_X3_act : GoodIn wsX3_run (wsV RX3 110 RX3 yX3_act wsX3_act) := goodIn_app (goodIn_of _ (by decide +kernel)) ggX3_run_X3_act
set_option maxRecDepth 20000 in
theorem ggX3_frame_X3_within : GoodIn wsX3_frame wsX3_within := goodIn_r _ [6] (by decide +kernel) (by decide +kernel)
set_option maxRecDepth 20000 in
theorem gX3_frame_X3_within : GoodIn wsX3_frame (va_wsS RX3 45 yX3_within wsX3_within) := goodIn_app (goodIn_of _ (by decide +kernel)) ggX3_frame_X3_within
set_option maxRecDepth 20000 in
theorem ggX3_set_X3_within : GoodIn wsX3_set wsX3_within := goodIn_r _ [6] (by decide +kernel) (by decide +kernel)
set_option maxRecDepth 20000 in
theorem gX3_set_X3_within : GoodIn wsX3_set (va_wsS RX3 45 yX3_within wsX3_within) := goodIn_app (goodIn_of _ (by decide +kernel)) ggX3_set_X3_within
set_option maxRecDepth 20000 in
theorem ggX3_root_X3_within : GoodIn wsX3_root wsX3_within := goodIn_r _ [6] (by decide +kernel) (by decide +kernel)
set_option maxRecDepth 20000 in
theorem gX3_root_X3_within : GoodIn wsX3_root (va_wsS RX3 45 yX3_within wsX3_within) := goodIn_app (goodIn_of _ (by decide +kernel)) ggX3_root_X3_within
set_option maxRecDepth 20000 in
theorem ggX3_count_X3_isBlock : GoodIn wsX3_count wsX3_isBlock := goodIn_r _ [7, 8, 9, 10, 6, 11, 24, 25, 26, 27, 28, 29, 30, 31, 32, 33, 34, 35, 36, 37, 38, 39, 40] (by decide +kernel) (by decide +kernel)
set_option maxRecDepth 20000 in
theorem gX3_count_X3_isBlock : GoodIn wsX3_count (wsV RX3 114 RX3 yX3_isBlock wsX3_isBlock) := goodIn_app (goodIn_of _ (by decide +kernel)) ggX3_count_X3_isBlock
set_option maxRecDepth 20000 in
theorem ggX3_count_X3_countAll : GoodIn wsX3_count wsX3_countAll := goodIn_r _ [15, 2, 16, 8, 17, 18, 19, 20, 21, 6, 22, 23, 24, 25, 26, 27, 28, 29, 30, 31, 32, 33, 34, 35, 36, 37, 38, 39, 40] (by decide +kernel) (by decide +kernel)
set_option maxRecDepth 20000 in
theorem gX3_count_X3_countAll : GoodIn wsX3_count (wsV RX3 73 RX3 yX3_countAll wsX3_countAll) := goodIn_app (goodIn_of _ (by decide +kernel)) ggX3_count_X3_countAll
set_option maxRecDepth 20000 in
theorem ggX3_typeOf_X3_isBlock : GoodIn wsX3_typeOf wsX3_isBlock := goodIn_r _ [7, 2, 8, 9, 6, 10, 11, 12, 13, 14, 15, 16, 17, 18, 19, 20, 21, 22, 23, 24, 25, 26, 27] (by decide +kernel) (by decide +kernel)
set_option maxRecDepth 20000 in
theorem gX3_typeOf_X3_isBlock : GoodIn wsX3_typeOf (wsV RX3 114 RX3 yX3_isBlock wsX3_isBlock) := goodIn_app (goodIn_of _ (by decide +kernel)) ggX3_typeOf_X3_isBlock
set_option maxRecDepth 20000 in
theorem ggX3_word_X3_isBlock : GoodIn wsX3_word wsX3_isBlock := goodIn_r _ [10, 3, 11, 12, 9, 13, 14, 15, 16, 17, 18, 19, 20, 21, 22, 23, 24, 25, 26, 27, 28, 29, 30] (by decide +kernel) (by decide +kernel)
set_option maxRecDepth 20000 in
theorem gX3_word_X3_isBlock : GoodIn wsX3_word (wsV RX3 114 RX3 yX3_isBlock wsX3_isBlock) := goodIn_app (goodIn_of _ (by decide +kernel)) ggX3_word_X3_isBlock
set_option maxRecDepth 20000 in
theorem ggX3_word_X3_within : GoodIn wsX3_word wsX3_within := goodIn_r _ [13] (by decide +kernel) (by decide +kernel)
set_option maxRecDepth 20000 in
theorem gX3_word_X3_within : GoodIn wsX3_word (va_wsS RX3 45 yX3_within wsX3_within) := goodIn_app (goodIn_of _ (by decide +kernel)) ggX3_word_X3_within
set_option maxRecDepth 20000 in
theorem ggX3_lost_X3_reach : GoodIn wsX3_lost wsX3_reach := goodIn_r _ [8, 3, 9, 2, 10, 11, 12, 13, 14, 7, 15, 16, 17, 18, 19, 20, 21, 22, 23, 24, 25, 26, 27, 28, 29, 30, 31, 32, 33] (by decide +kernel) (by decide +kernel)
set_option maxRecDepth 20000 in
theorem gX3_lost_X3_reach : GoodIn wsX3_lost (wsV RX3 119 RX3 yX3_reach wsX3_reach) := goodIn_app (goodIn_of _ (by decide +kernel)) ggX3_lost_X3_reach
set_option maxRecDepth 20000 in
theorem ggX3_collect_X3_lost : GoodIn wsX3_collect wsX3_lost := goodIn_r _ [8, 9, 2, 1, 10, 11, 12, 7, 13, 14, 15, 16, 17, 18, 19, 20, 21, 22, 23, 24, 25, 26, 27, 28, 29, 30, 31, 32, 33, 34, 35, 36, 37, 38] (by decide +kernel) (by decide +kernel)
set_option maxRecDepth 20000 in
theorem gX3_collect_X3_lost : GoodIn wsX3_collect (wsV RX3 122 RX3 yX3_lost wsX3_lost) := goodIn_app (goodIn_of _ (by decide +kernel)) ggX3_collect_X3_lost
abbrev vwCl : List vw_C := [(RX0, TX0, 11), (RX1, TX1, 5), (RX2, TX2, 5), (RX3, TX3, 17)]
