/-! ===== names of the class, printed by wip/whole/names.py ===== -/
def RX0 : String := "DeltaDesk$Blocks"
def TX0 : u_T := fun k => match k with
  | 0 => ("DeltaDesk$Blocks", "row", "LDeltaDesk$Row;", true)
  | 1 => ("DeltaDesk$Blocks", "weaks", "[I", true)
  | 2 => ("DeltaDesk$Blocks", "strongs", "[J", true)
  | 3 => ("DeltaDesk$Blocks", "usualSize", "I", false)
  | 4 => ("DeltaDesk$Blocks", "lastSize", "I", false)
  | _ => ("DeltaDesk$Blocks", "count", "I", false)
def tyX0 : Nat → FieldType := fun k => match k with
  | 0 => .object "DeltaDesk$Row"
  | 1 => .array .int
  | 2 => .array .long
  | 3 => .int
  | 4 => .int
  | _ => .int
abbrev wsX00 : List Cond := u_ws RX0 TX0 6
theorem nmX0 : ∀ a, a < 6 → ∀ b, b < 6 → a ≠ b → (TX0 a).2.1 ≠ (TX0 b).2.1 := by decide +kernel
theorem tyX0_ok : ∀ k, k < 6 → parseFieldDescriptor (TX0 k).2.2.1 = some (tyX0 k) := by decide +kernel
def RX1 : String := "DeltaDesk$Row"
def TX1 : u_T := fun k => match k with
  | 0 => ("DeltaDesk$Row", "octets", "[I", true)
  | _ => ("DeltaDesk$Row", "length", "I", false)
def tyX1 : Nat → FieldType := fun k => match k with
  | 0 => .array .int
  | _ => .int
abbrev wsX10 : List Cond := u_ws RX1 TX1 2
theorem nmX1 : ∀ a, a < 2 → ∀ b, b < 2 → a ≠ b → (TX1 a).2.1 ≠ (TX1 b).2.1 := by decide +kernel
theorem tyX1_ok : ∀ k, k < 2 → parseFieldDescriptor (TX1 k).2.2.1 = some (tyX1 k) := by decide +kernel
def RX2 : String := "DeltaDesk$Tokens"
def TX2 : u_T := fun k => match k with
  | 0 => ("DeltaDesk$Tokens", "kinds", "[I", true)
  | 1 => ("DeltaDesk$Tokens", "firsts", "[I", true)
  | 2 => ("DeltaDesk$Tokens", "lengths", "[I", true)
  | _ => ("DeltaDesk$Tokens", "count", "I", false)
def tyX2 : Nat → FieldType := fun k => match k with
  | 0 => .array .int
  | 1 => .array .int
  | 2 => .array .int
  | _ => .int
abbrev wsX20 : List Cond := u_ws RX2 TX2 4
theorem nmX2 : ∀ a, a < 4 → ∀ b, b < 4 → a ≠ b → (TX2 a).2.1 ≠ (TX2 b).2.1 := by decide +kernel
theorem tyX2_ok : ∀ k, k < 4 → parseFieldDescriptor (TX2 k).2.2.1 = some (tyX2 k) := by decide +kernel
def RX3 : String := "DeltaDesk$Window"
def TX3 : u_T := fun k => match k with
  | 0 => ("DeltaDesk$Window", "row", "LDeltaDesk$Row;", true)
  | 1 => ("DeltaDesk$Window", "size", "I", false)
  | 2 => ("DeltaDesk$Window", "place", "I", false)
  | 3 => ("DeltaDesk$Window", "inside", "Z", false)
  | 4 => ("DeltaDesk$Window", "a", "I", false)
  | 5 => ("DeltaDesk$Window", "b", "I", false)
  | 6 => ("DeltaDesk$Window", "weakHere", "I", false)
  | 7 => ("DeltaDesk$Window", "strongHere", "J", false)
  | _ => ("DeltaDesk$Window", "knowsStrong", "Z", false)
def tyX3 : Nat → FieldType := fun k => match k with
  | 0 => .object "DeltaDesk$Row"
  | 1 => .int
  | 2 => .int
  | 3 => .boolean
  | 4 => .int
  | 5 => .int
  | 6 => .int
  | 7 => .long
  | _ => .boolean
abbrev wsX30 : List Cond := u_ws RX3 TX3 9
theorem nmX3 : ∀ a, a < 9 → ∀ b, b < 9 → a ≠ b → (TX3 a).2.1 ≠ (TX3 b).2.1 := by decide +kernel
theorem tyX3_ok : ∀ k, k < 9 → parseFieldDescriptor (TX3 k).2.2.1 = some (tyX3 k) := by decide +kernel
def RX4 : String := "DeltaDesk"
def TX4 : u_T := fun k => match k with
  | 0 => ("DeltaDesk", "oldRow", "LDeltaDesk$Row;", true)
  | 1 => ("DeltaDesk", "newRow", "LDeltaDesk$Row;", true)
  | 2 => ("DeltaDesk", "made", "LDeltaDesk$Row;", true)
  | 3 => ("DeltaDesk", "blocks", "LDeltaDesk$Blocks;", true)
  | 4 => ("DeltaDesk", "usualWindow", "LDeltaDesk$Window;", true)
  | 5 => ("DeltaDesk", "lastWindow", "LDeltaDesk$Window;", true)
  | 6 => ("DeltaDesk", "tokens", "LDeltaDesk$Tokens;", true)
  | _ => ("DeltaDesk", "hasDelta", "Z", false)
def tyX4 : Nat → FieldType := fun k => match k with
  | 0 => .object "DeltaDesk$Row"
  | 1 => .object "DeltaDesk$Row"
  | 2 => .object "DeltaDesk$Row"
  | 3 => .object "DeltaDesk$Blocks"
  | 4 => .object "DeltaDesk$Window"
  | 5 => .object "DeltaDesk$Window"
  | 6 => .object "DeltaDesk$Tokens"
  | _ => .boolean
abbrev wsX40 : List Cond := u_ws RX4 TX4 8
theorem nmX4 : ∀ a, a < 8 → ∀ b, b < 8 → a ≠ b → (TX4 a).2.1 ≠ (TX4 b).2.1 := by decide +kernel
theorem tyX4_ok : ∀ k, k < 8 → parseFieldDescriptor (TX4 k).2.2.1 = some (tyX4 k) := by decide +kernel
def RX5 : String := "DeltaDeskModel"
def TX5 : u_T := fun k => match k with
  | 0 => ("DeltaDeskModel", "err", "I", false)
  | 1 => ("DeltaDeskModel", "octets", "[I", true)
  | 2 => ("DeltaDeskModel", "then", "[I", true)
  | 3 => ("DeltaDeskModel", "made", "[I", true)
  | 4 => ("DeltaDeskModel", "sizes", "[I", true)
  | 5 => ("DeltaDeskModel", "thenSizes", "[I", true)
  | 6 => ("DeltaDeskModel", "kind", "[I", true)
  | 7 => ("DeltaDeskModel", "first", "[I", true)
  | 8 => ("DeltaDeskModel", "many", "[I", true)
  | 9 => ("DeltaDeskModel", "tokens", "I", false)
  | 10 => ("DeltaDeskModel", "is", "Z", false)
  | _ => ("DeltaDeskModel", "width", "I", false)
def tyX5 : Nat → FieldType := fun k => match k with
  | 0 => .int
  | 1 => .array .int
  | 2 => .array .int
  | 3 => .array .int
  | 4 => .array .int
  | 5 => .array .int
  | 6 => .array .int
  | 7 => .array .int
  | 8 => .array .int
  | 9 => .int
  | 10 => .boolean
  | _ => .int
abbrev wsX50 : List Cond := u_ws RX5 TX5 12
theorem nmX5 : ∀ a, a < 12 → ∀ b, b < 12 → a ≠ b → (TX5 a).2.1 ≠ (TX5 b).2.1 := by decide +kernel
theorem tyX5_ok : ∀ k, k < 12 → parseFieldDescriptor (TX5 k).2.2.1 = some (tyX5 k) := by decide +kernel
abbrev vwCl : List vw_C := [(RX0, TX0, 6), (RX1, TX1, 2), (RX2, TX2, 4), (RX3, TX3, 9), (RX4, TX4, 8), (RX5, TX5, 12)]
def RL : String := "DeltaDeskLaw"
abbrev cX4_init : ByteArray := prog_1_method_1_code
def yX4_init : MethodName := ⟨RX4, "<init>", "()V"⟩
abbrev cX4_size : ByteArray := prog_1_method_2_code
def yX4_size : MethodName := ⟨RX4, "size", "(II)V"⟩
abbrev cX4_put : ByteArray := prog_1_method_3_code
def yX4_put : MethodName := ⟨RX4, "put", "(IIJ)V"⟩
abbrev cX4_move : ByteArray := prog_1_method_4_code
def yX4_move : MethodName := ⟨RX4, "move", "(IIIII)V"⟩
abbrev cX4_octet : ByteArray := prog_1_method_5_code
def yX4_octet : MethodName := ⟨RX4, "octet", "(II)I"⟩
abbrev cX4_weak : ByteArray := prog_1_method_6_code
def yX4_weak : MethodName := ⟨RX4, "weak", "(III)I"⟩
abbrev cX4_strong : ByteArray := prog_1_method_7_code
def yX4_strong : MethodName := ⟨RX4, "strong", "(III)J"⟩
abbrev cX4_find : ByteArray := prog_1_method_8_code
def yX4_find : MethodName := ⟨RX4, "find", "(IIII)I"⟩
abbrev cX4_delta : ByteArray := prog_1_method_9_code
def yX4_delta : MethodName := ⟨RX4, "delta", "(II)I"⟩
abbrev cX4_token : ByteArray := prog_1_method_10_code
def yX4_token : MethodName := ⟨RX4, "token", "(II)I"⟩
abbrev cX4_sent : ByteArray := prog_1_method_11_code
def yX4_sent : MethodName := ⟨RX4, "sent", "()I"⟩
abbrev cX4_patch : ByteArray := prog_1_method_12_code
def yX4_patch : MethodName := ⟨RX4, "patch", "()I"⟩
abbrev cX4_same : ByteArray := prog_1_method_13_code
def yX4_same : MethodName := ⟨RX4, "same", "()Z"⟩
abbrev cX4_count : ByteArray := prog_1_method_14_code
def yX4_count : MethodName := ⟨RX4, "count", "(I)I"⟩
abbrev cX4_row : ByteArray := prog_1_method_15_code
def yX4_row : MethodName := ⟨RX4, "row", "(I)LDeltaDesk$Row;"⟩
abbrev cX4_checkRow : ByteArray := prog_1_method_16_code
def yX4_checkRow : MethodName := ⟨RX4, "checkRow", "(I)V"⟩
abbrev cX4_checkOctet : ByteArray := prog_1_method_17_code
def yX4_checkOctet : MethodName := ⟨RX4, "checkOctet", "(LDeltaDesk$Row;I)V"⟩
abbrev cX4_checkRange : ByteArray := prog_1_method_18_code
def yX4_checkRange : MethodName := ⟨RX4, "checkRange", "(LDeltaDesk$Row;II)V"⟩
abbrev cX4_checkBlocks : ByteArray := prog_1_method_19_code
def yX4_checkBlocks : MethodName := ⟨RX4, "checkBlocks", "(II)V"⟩
abbrev cX4_blockCount : ByteArray := prog_1_method_20_code
def yX4_blockCount : MethodName := ⟨RX4, "blockCount", "(II)I"⟩
abbrev cX4_strongMask : ByteArray := prog_1_method_21_code
def yX4_strongMask : MethodName := ⟨RX4, "strongMask", "(I)J"⟩
abbrev cX4_firstPlace : ByteArray := prog_1_method_22_code
def yX4_firstPlace : MethodName := ⟨RX4, "firstPlace", "(IIJI)I"⟩
abbrev cX4_makeDelta : ByteArray := prog_1_method_23_code
def yX4_makeDelta : MethodName := ⟨RX4, "makeDelta", "(J)V"⟩
abbrev cX4_blockAt : ByteArray := prog_1_method_24_code
def yX4_blockAt : MethodName := ⟨RX4, "blockAt", "(IIJ)I"⟩
abbrev cX4_fits : ByteArray := prog_1_method_25_code
def yX4_fits : MethodName := ⟨RX4, "fits", "(IJ)Z"⟩
abbrev cX5_init : ByteArray := prog_7_method_1_code
def yX5_init : MethodName := ⟨RX5, "<init>", "()V"⟩
abbrev cX5_thrown : ByteArray := prog_7_method_2_code
def yX5_thrown : MethodName := ⟨RX5, "thrown", "()I"⟩
abbrev cX5_fails : ByteArray := prog_7_method_3_code
def yX5_fails : MethodName := ⟨RX5, "fails", "(ZI)Z"⟩
abbrev cX5_no : ByteArray := prog_7_method_4_code
def yX5_no : MethodName := ⟨RX5, "no", "(I)Z"⟩
abbrev cX5_size : ByteArray := prog_7_method_5_code
def yX5_size : MethodName := ⟨RX5, "size", "(II)V"⟩
abbrev cX5_put : ByteArray := prog_7_method_6_code
def yX5_put : MethodName := ⟨RX5, "put", "(IIJ)V"⟩
abbrev cX5_lacks : ByteArray := prog_7_method_7_code
def yX5_lacks : MethodName := ⟨RX5, "lacks", "(III)Z"⟩
abbrev cX5_move : ByteArray := prog_7_method_8_code
def yX5_move : MethodName := ⟨RX5, "move", "(IIIII)V"⟩
abbrev cX5_octet : ByteArray := prog_7_method_9_code
def yX5_octet : MethodName := ⟨RX5, "octet", "(II)I"⟩
abbrev cX5_weakOf : ByteArray := prog_7_method_10_code
def yX5_weakOf : MethodName := ⟨RX5, "weakOf", "(III)I"⟩
abbrev cX5_strongOf : ByteArray := prog_7_method_11_code
def yX5_strongOf : MethodName := ⟨RX5, "strongOf", "(III)J"⟩
abbrev cX5_weak : ByteArray := prog_7_method_12_code
def yX5_weak : MethodName := ⟨RX5, "weak", "(III)I"⟩
abbrev cX5_strong : ByteArray := prog_7_method_13_code
def yX5_strong : MethodName := ⟨RX5, "strong", "(III)J"⟩
abbrev cX5_bad : ByteArray := prog_7_method_14_code
def yX5_bad : MethodName := ⟨RX5, "bad", "(II)Z"⟩
abbrev cX5_blocks : ByteArray := prog_7_method_15_code
def yX5_blocks : MethodName := ⟨RX5, "blocks", "(I)I"⟩
abbrev cX5_length : ByteArray := prog_7_method_16_code
def yX5_length : MethodName := ⟨RX5, "length", "(II)I"⟩
abbrev cX5_fits : ByteArray := prog_7_method_17_code
def yX5_fits : MethodName := ⟨RX5, "fits", "(IIII)Z"⟩
abbrev cX5_find : ByteArray := prog_7_method_18_code
def yX5_find : MethodName := ⟨RX5, "find", "(IIII)I"⟩
abbrev cX5_delta : ByteArray := prog_7_method_19_code
def yX5_delta : MethodName := ⟨RX5, "delta", "(II)I"⟩
abbrev cX5_token : ByteArray := prog_7_method_20_code
def yX5_token : MethodName := ⟨RX5, "token", "(II)I"⟩
abbrev cX5_sent : ByteArray := prog_7_method_21_code
def yX5_sent : MethodName := ⟨RX5, "sent", "()I"⟩
abbrev cX5_patch : ByteArray := prog_7_method_22_code
def yX5_patch : MethodName := ⟨RX5, "patch", "()I"⟩
abbrev cX5_same : ByteArray := prog_7_method_23_code
def yX5_same : MethodName := ⟨RX5, "same", "()Z"⟩
abbrev cX5_count : ByteArray := prog_7_method_24_code
def yX5_count : MethodName := ⟨RX5, "count", "(I)I"⟩
abbrev cX0_init : ByteArray := prog_2_method_1_code
def yX0_init : MethodName := ⟨RX0, "<init>", "(LDeltaDesk$Row;)V"⟩
abbrev cX0_cut : ByteArray := prog_2_method_2_code
def yX0_cut : MethodName := ⟨RX0, "cut", "(I)V"⟩
abbrev cX0_start : ByteArray := prog_2_method_3_code
def yX0_start : MethodName := ⟨RX0, "start", "(I)I"⟩
abbrev cX0_length : ByteArray := prog_2_method_4_code
def yX0_length : MethodName := ⟨RX0, "length", "(I)I"⟩
abbrev cX1_init : ByteArray := prog_3_method_1_code
def yX1_init : MethodName := ⟨RX1, "<init>", "()V"⟩
abbrev cX1_resize : ByteArray := prog_3_method_2_code
def yX1_resize : MethodName := ⟨RX1, "resize", "(I)V"⟩
abbrev cX1_write : ByteArray := prog_3_method_3_code
def yX1_write : MethodName := ⟨RX1, "write", "(IJ)V"⟩
abbrev cX1_append : ByteArray := prog_3_method_4_code
def yX1_append : MethodName := ⟨RX1, "append", "(LDeltaDesk$Row;II)V"⟩
abbrev cX1_weakSum : ByteArray := prog_3_method_5_code
def yX1_weakSum : MethodName := ⟨RX1, "weakSum", "(II)I"⟩
abbrev cX1_joinWeak : ByteArray := prog_3_method_6_code
def yX1_joinWeak : MethodName := ⟨RX1, "joinWeak", "(II)I"⟩
abbrev cX1_strongSum : ByteArray := prog_3_method_7_code
def yX1_strongSum : MethodName := ⟨RX1, "strongSum", "(II)J"⟩
abbrev cX2_init : ByteArray := prog_4_method_1_code
def yX2_init : MethodName := ⟨RX2, "<init>", "()V"⟩
abbrev cX2_clear : ByteArray := prog_4_method_2_code
def yX2_clear : MethodName := ⟨RX2, "clear", "()V"⟩
abbrev cX2_add : ByteArray := prog_4_method_3_code
def yX2_add : MethodName := ⟨RX2, "add", "(II)V"⟩
abbrev cX2_goesOn : ByteArray := prog_4_method_4_code
def yX2_goesOn : MethodName := ⟨RX2, "goesOn", "(II)Z"⟩
abbrev cX3_init : ByteArray := prog_5_method_1_code
def yX3_init : MethodName := ⟨RX3, "<init>", "(LDeltaDesk$Row;)V"⟩
abbrev cX3_open : ByteArray := prog_5_method_2_code
def yX3_open : MethodName := ⟨RX3, "open", "(I)V"⟩
abbrev cX3_moveTo : ByteArray := prog_5_method_3_code
def yX3_moveTo : MethodName := ⟨RX3, "moveTo", "(I)V"⟩
abbrev cX3_roll : ByteArray := prog_5_method_4_code
def yX3_roll : MethodName := ⟨RX3, "roll", "()V"⟩
abbrev cX3_sumAfresh : ByteArray := prog_5_method_5_code
def yX3_sumAfresh : MethodName := ⟨RX3, "sumAfresh", "(I)V"⟩
abbrev cX3_shows : ByteArray := prog_5_method_6_code
def yX3_shows : MethodName := ⟨RX3, "shows", "(IJJ)Z"⟩
abbrev cX3_strongSumHere : ByteArray := prog_5_method_7_code
def yX3_strongSumHere : MethodName := ⟨RX3, "strongSumHere", "()J"⟩
abbrev cL_size : ByteArray := method_3_code
def yL_size : MethodName := ⟨RL, "size", "(LDeltaDesk;II)I"⟩
abbrev cL_put : ByteArray := method_4_code
def yL_put : MethodName := ⟨RL, "put", "(LDeltaDesk;IIJ)I"⟩
abbrev cL_move : ByteArray := method_5_code
def yL_move : MethodName := ⟨RL, "move", "(LDeltaDesk;IIIII)I"⟩
abbrev cL_octet : ByteArray := method_6_code
def yL_octet : MethodName := ⟨RL, "octet", "(LDeltaDesk;II[J)I"⟩
abbrev cL_weak : ByteArray := method_7_code
def yL_weak : MethodName := ⟨RL, "weak", "(LDeltaDesk;III[J)I"⟩
abbrev cL_strong : ByteArray := method_8_code
def yL_strong : MethodName := ⟨RL, "strong", "(LDeltaDesk;III[J)I"⟩
abbrev cL_find : ByteArray := method_9_code
def yL_find : MethodName := ⟨RL, "find", "(LDeltaDesk;IIII[J)I"⟩
abbrev cL_delta : ByteArray := method_10_code
def yL_delta : MethodName := ⟨RL, "delta", "(LDeltaDesk;II[J)I"⟩
abbrev cL_token : ByteArray := method_11_code
def yL_token : MethodName := ⟨RL, "token", "(LDeltaDesk;II[J)I"⟩
abbrev cL_count : ByteArray := method_12_code
def yL_count : MethodName := ⟨RL, "count", "(LDeltaDesk;I[J)I"⟩
abbrev cL_law : ByteArray := code
def yL_law : MethodName := ⟨RL, "law", "([I)Z"⟩
def ds_words : List Cond := [
  Cond.code yX4_init cX4_init 1 none,
  Cond.methodLink RX4 3 objectInit,
  Cond.instanceMethod objectInit,
  Cond.code objectInit ⟨#[0xb1]⟩ 1 none,
  Cond.classLink RX4 9 RX1,
  Cond.instantiable RX1 2,
  Cond.initialized RX1,
  Cond.instanceMethod yX1_init,
  Cond.fieldLink RX4 12 "DeltaDesk" "oldRow" "LDeltaDesk$Row;",
  Cond.fieldLink RX4 16 "DeltaDesk" "newRow" "LDeltaDesk$Row;",
  Cond.fieldLink RX4 19 "DeltaDesk" "made" "LDeltaDesk$Row;",
  Cond.classLink RX4 22 RX0,
  Cond.instantiable RX0 6,
  Cond.initialized RX0,
  Cond.instanceMethod yX0_init,
  Cond.fieldLink RX4 27 "DeltaDesk" "blocks" "LDeltaDesk$Blocks;",
  Cond.classLink RX4 31 RX3,
  Cond.instantiable RX3 9,
  Cond.initialized RX3,
  Cond.instanceMethod yX3_init,
  Cond.fieldLink RX4 34 "DeltaDesk" "usualWindow" "LDeltaDesk$Window;",
  Cond.fieldLink RX4 38 "DeltaDesk" "lastWindow" "LDeltaDesk$Window;",
  Cond.classLink RX4 41 RX2,
  Cond.instantiable RX2 4,
  Cond.initialized RX2,
  Cond.instanceMethod yX2_init,
  Cond.fieldLink RX4 44 "DeltaDesk" "tokens" "LDeltaDesk$Tokens;",
  Cond.fieldLink RX4 48 "DeltaDesk" "hasDelta" "Z",
  Cond.code yX4_size cX4_size 3 none,
  Cond.methodLink RX4 52 yX4_checkRow,
  Cond.initialized RX4,
  Cond.static yX4_checkRow,
  Cond.classLink RX4 56 "java/lang/IllegalArgumentException",
  Cond.initialized "java/lang/IllegalArgumentException",
  Cond.methodLink RX4 63 yX4_row,
  Cond.instanceMethod yX4_row,
  Cond.selects RX4 yX4_row yX4_row,
  Cond.instanceMethod yX1_resize,
  Cond.selects RX1 yX1_resize yX1_resize,
  Cond.code yX4_put cX4_put 5 none,
  Cond.methodLink RX4 70 yX4_checkOctet,
  Cond.static yX4_checkOctet,
  Cond.instanceMethod yX1_write,
  Cond.selects RX1 yX1_write yX1_write,
  Cond.code yX4_move cX4_move 6 none,
  Cond.methodLink RX4 78 yX4_checkRange,
  Cond.static yX4_checkRange,
  Cond.methodLink RX4 86 arraycopyName,
  Cond.native arraycopyName,
  Cond.static arraycopyName,
  Cond.initialized "java/lang/System",
  Cond.code yX4_octet cX4_octet 3 (some .int),
  Cond.code yX4_weak cX4_weak 4 (some .int),
  Cond.instanceMethod yX1_weakSum,
  Cond.selects RX1 yX1_weakSum yX1_weakSum,
  Cond.code yX4_strong cX4_strong 4 (some .long),
  Cond.instanceMethod yX1_strongSum,
  Cond.selects RX1 yX1_strongSum yX1_strongSum,
  Cond.code yX4_find cX4_find 5 (some .int),
  Cond.methodLink RX4 100 yX4_checkBlocks,
  Cond.static yX4_checkBlocks,
  Cond.methodLink RX4 108 yX4_blockCount,
  Cond.static yX4_blockCount,
  Cond.classLink RX4 111 "java/lang/IndexOutOfBoundsException",
  Cond.initialized "java/lang/IndexOutOfBoundsException",
  Cond.methodLink RX4 118 Lib.Math.min.name,
  Cond.static Lib.Math.min.name,
  Cond.initialized "java/lang/Math",
  Cond.code Lib.Math.min.name Lib.Math.min.code 2 (some .int),
  Cond.methodLink RX4 123 yX4_strongMask,
  Cond.static yX4_strongMask,
  Cond.methodLink RX4 127 yX4_firstPlace,
  Cond.instanceMethod yX4_firstPlace,
  Cond.selects RX4 yX4_firstPlace yX4_firstPlace,
  Cond.code yX4_delta cX4_delta 3 (some .int),
  Cond.instanceMethod yX0_cut,
  Cond.selects RX0 yX0_cut yX0_cut,
  Cond.instanceMethod yX3_open,
  Cond.selects RX3 yX3_open yX3_open,
  Cond.instanceMethod yX2_clear,
  Cond.selects RX2 yX2_clear yX2_clear,
  Cond.methodLink RX4 143 yX4_makeDelta,
  Cond.instanceMethod yX4_makeDelta,
  Cond.selects RX4 yX4_makeDelta yX4_makeDelta,
  Cond.code yX4_token cX4_token 3 (some .int),
  Cond.code yX4_sent cX4_sent 3 (some .int),
  Cond.code yX4_patch cX4_patch 1 (some .int),
  Cond.instanceMethod yX1_append,
  Cond.selects RX1 yX1_append yX1_append,
  Cond.code yX4_same cX4_same 2 (some .boolean),
  Cond.code yX4_count cX4_count 2 (some .int),
  Cond.code yX4_row cX4_row 2 (some (.object "DeltaDesk$Row")),
  Cond.code yX4_checkRow cX4_checkRow 1 none,
  Cond.code yX4_checkOctet cX4_checkOctet 2 none,
  Cond.code yX4_checkRange cX4_checkRange 3 none,
  Cond.code yX4_checkBlocks cX4_checkBlocks 2 none,
  Cond.code yX4_blockCount cX4_blockCount 2 (some .int),
  Cond.code yX4_strongMask cX4_strongMask 1 (some .long),
  Cond.constantLong RX4 178 (-1),
  Cond.code yX4_firstPlace cX4_firstPlace 10 (some .int),
  Cond.instanceMethod yX3_moveTo,
  Cond.selects RX3 yX3_moveTo yX3_moveTo,
  Cond.instanceMethod yX3_shows,
  Cond.selects RX3 yX3_shows yX3_shows,
  Cond.code yX4_makeDelta cX4_makeDelta 7 none,
  Cond.methodLink RX4 187 yX4_blockAt,
  Cond.instanceMethod yX4_blockAt,
  Cond.selects RX4 yX4_blockAt yX4_blockAt,
  Cond.instanceMethod yX2_add,
  Cond.selects RX2 yX2_add yX2_add,
  Cond.instanceMethod yX0_start,
  Cond.selects RX0 yX0_start yX0_start,
  Cond.instanceMethod yX0_length,
  Cond.selects RX0 yX0_length yX0_length,
  Cond.code yX4_blockAt cX4_blockAt 6 (some .int),
  Cond.methodLink RX4 201 yX4_fits,
  Cond.instanceMethod yX4_fits,
  Cond.selects RX4 yX4_fits yX4_fits,
  Cond.code yX4_fits cX4_fits 5 (some .boolean),
  Cond.code yX5_init cX5_init 1 none,
  Cond.methodLink RX5 1 objectInit,
  Cond.arrayClass .int,
  Cond.fieldLink RX5 7 "DeltaDeskModel" "octets" "[I",
  Cond.fieldLink RX5 13 "DeltaDeskModel" "then" "[I",
  Cond.fieldLink RX5 16 "DeltaDeskModel" "made" "[I",
  Cond.fieldLink RX5 19 "DeltaDeskModel" "sizes" "[I",
  Cond.fieldLink RX5 22 "DeltaDeskModel" "thenSizes" "[I",
  Cond.fieldLink RX5 25 "DeltaDeskModel" "kind" "[I",
  Cond.fieldLink RX5 28 "DeltaDeskModel" "first" "[I",
  Cond.fieldLink RX5 31 "DeltaDeskModel" "many" "[I",
  Cond.code yX5_thrown cX5_thrown 1 (some .int),
  Cond.fieldLink RX5 34 "DeltaDeskModel" "err" "I",
  Cond.code yX5_fails cX5_fails 3 (some .boolean),
  Cond.code yX5_no cX5_no 1 (some .boolean),
  Cond.code yX5_size cX5_size 4 none,
  Cond.methodLink RX5 38 yX5_no,
  Cond.initialized RX5,
  Cond.static yX5_no,
  Cond.methodLink RX5 42 yX5_fails,
  Cond.instanceMethod yX5_fails,
  Cond.selects RX5 yX5_fails yX5_fails,
  Cond.code yX5_put cX5_put 6 none,
  Cond.code yX5_lacks cX5_lacks 4 (some .boolean),
  Cond.code yX5_move cX5_move 7 none,
  Cond.methodLink RX5 46 yX5_lacks,
  Cond.instanceMethod yX5_lacks,
  Cond.selects RX5 yX5_lacks yX5_lacks,
  Cond.code yX5_octet cX5_octet 3 (some .int),
  Cond.code yX5_weakOf cX5_weakOf 7 (some .int),
  Cond.constant RX5 50 65535,
  Cond.constant RX5 51 65536,
  Cond.code yX5_strongOf cX5_strongOf 7 (some .long),
  Cond.constantLong RX5 52 (-3750763034362895579),
  Cond.constantLong RX5 54 (1099511628211),
  Cond.code yX5_weak cX5_weak 4 (some .int),
  Cond.methodLink RX5 56 yX5_weakOf,
  Cond.instanceMethod yX5_weakOf,
  Cond.selects RX5 yX5_weakOf yX5_weakOf,
  Cond.code yX5_strong cX5_strong 4 (some .long),
  Cond.methodLink RX5 60 yX5_strongOf,
  Cond.instanceMethod yX5_strongOf,
  Cond.selects RX5 yX5_strongOf yX5_strongOf,
  Cond.code yX5_bad cX5_bad 2 (some .boolean),
  Cond.code yX5_blocks cX5_blocks 2 (some .int),
  Cond.code yX5_length cX5_length 3 (some .int),
  Cond.code yX5_fits cX5_fits 8 (some .boolean),
  Cond.methodLink RX5 64 yX5_length,
  Cond.instanceMethod yX5_length,
  Cond.selects RX5 yX5_length yX5_length,
  Cond.code yX5_find cX5_find 6 (some .int),
  Cond.methodLink RX5 68 yX5_bad,
  Cond.static yX5_bad,
  Cond.methodLink RX5 72 yX5_blocks,
  Cond.instanceMethod yX5_blocks,
  Cond.selects RX5 yX5_blocks yX5_blocks,
  Cond.methodLink RX5 76 yX5_fits,
  Cond.instanceMethod yX5_fits,
  Cond.selects RX5 yX5_fits yX5_fits,
  Cond.code yX5_delta cX5_delta 9 (some .int),
  Cond.fieldLink RX5 80 "DeltaDeskModel" "is" "Z",
  Cond.fieldLink RX5 84 "DeltaDeskModel" "tokens" "I",
  Cond.fieldLink RX5 87 "DeltaDeskModel" "width" "I",
  Cond.code yX5_token cX5_token 3 (some .int),
  Cond.code yX5_sent cX5_sent 3 (some .int),
  Cond.code yX5_patch cX5_patch 6 (some .int),
  Cond.code yX5_same cX5_same 2 (some .boolean),
  Cond.code yX5_count cX5_count 2 (some .int),
  Cond.code yX0_init cX0_init 2 none,
  Cond.methodLink RX0 3 objectInit,
  Cond.fieldLink RX0 9 "DeltaDesk$Blocks" "row" "LDeltaDesk$Row;",
  Cond.fieldLink RX0 15 "DeltaDesk$Blocks" "weaks" "[I",
  Cond.arrayClass .long,
  Cond.fieldLink RX0 19 "DeltaDesk$Blocks" "strongs" "[J",
  Cond.fieldLink RX0 23 "DeltaDesk$Blocks" "usualSize" "I",
  Cond.fieldLink RX0 27 "DeltaDesk$Blocks" "lastSize" "I",
  Cond.fieldLink RX0 30 "DeltaDesk$Blocks" "count" "I",
  Cond.code yX0_cut cX0_cut 3 none,
  Cond.methodLink RX0 42 yX0_start,
  Cond.methodLink RX0 46 yX0_length,
  Cond.code yX0_start cX0_start 2 (some .int),
  Cond.code yX0_length cX0_length 2 (some .int),
  Cond.code yX1_init cX1_init 1 none,
  Cond.methodLink RX1 3 objectInit,
  Cond.fieldLink RX1 9 "DeltaDesk$Row" "octets" "[I",
  Cond.fieldLink RX1 15 "DeltaDesk$Row" "length" "I",
  Cond.code yX1_resize cX1_resize 3 none,
  Cond.code yX1_write cX1_write 5 none,
  Cond.code yX1_append cX1_append 4 none,
  Cond.methodLink RX1 19 arraycopyName,
  Cond.code yX1_weakSum cX1_weakSum 6 (some .int),
  Cond.methodLink RX1 25 yX1_joinWeak,
  Cond.static yX1_joinWeak,
  Cond.code yX1_joinWeak cX1_joinWeak 2 (some .int),
  Cond.constant RX1 29 65535,
  Cond.constant RX1 30 65536,
  Cond.code yX1_strongSum cX1_strongSum 6 (some .long),
  Cond.constantLong RX1 31 (-3750763034362895579),
  Cond.constantLong RX1 33 (1099511628211),
  Cond.code yX2_init cX2_init 1 none,
  Cond.methodLink RX2 3 objectInit,
  Cond.fieldLink RX2 9 "DeltaDesk$Tokens" "kinds" "[I",
  Cond.fieldLink RX2 15 "DeltaDesk$Tokens" "firsts" "[I",
  Cond.fieldLink RX2 18 "DeltaDesk$Tokens" "lengths" "[I",
  Cond.fieldLink RX2 21 "DeltaDesk$Tokens" "count" "I",
  Cond.code yX2_clear cX2_clear 1 none,
  Cond.code yX2_add cX2_add 3 none,
  Cond.methodLink RX2 25 yX2_goesOn,
  Cond.instanceMethod yX2_goesOn,
  Cond.selects RX2 yX2_goesOn yX2_goesOn,
  Cond.code yX2_goesOn cX2_goesOn 3 (some .boolean),
  Cond.code yX3_init cX3_init 2 none,
  Cond.methodLink RX3 3 objectInit,
  Cond.fieldLink RX3 9 "DeltaDesk$Window" "row" "LDeltaDesk$Row;",
  Cond.fieldLink RX3 15 "DeltaDesk$Window" "size" "I",
  Cond.fieldLink RX3 19 "DeltaDesk$Window" "place" "I",
  Cond.fieldLink RX3 22 "DeltaDesk$Window" "inside" "Z",
  Cond.fieldLink RX3 26 "DeltaDesk$Window" "knowsStrong" "Z",
  Cond.code yX3_open cX3_open 2 none,
  Cond.code yX3_moveTo cX3_moveTo 3 none,
  Cond.methodLink RX3 34 yX3_roll,
  Cond.instanceMethod yX3_roll,
  Cond.selects RX3 yX3_roll yX3_roll,
  Cond.methodLink RX3 37 yX3_sumAfresh,
  Cond.instanceMethod yX3_sumAfresh,
  Cond.selects RX3 yX3_sumAfresh yX3_sumAfresh,
  Cond.fieldLink RX3 41 "DeltaDesk$Window" "a" "I",
  Cond.fieldLink RX3 44 "DeltaDesk$Window" "b" "I",
  Cond.fieldLink RX3 51 "DeltaDesk$Window" "weakHere" "I",
  Cond.code yX3_roll cX3_roll 3 none,
  Cond.code yX3_sumAfresh cX3_sumAfresh 3 none,
  Cond.code yX3_shows cX3_shows 6 (some .boolean),
  Cond.methodLink RX3 58 yX3_strongSumHere,
  Cond.instanceMethod yX3_strongSumHere,
  Cond.selects RX3 yX3_strongSumHere yX3_strongSumHere,
  Cond.code yX3_strongSumHere cX3_strongSumHere 1 (some .long),
  Cond.fieldLink RX3 66 "DeltaDesk$Window" "strongHere" "J",
  Cond.codeWith yL_size cL_size 4 (some .int) [(0, 6, 9, 13)],
  Cond.methodLink RL 7 yX4_size,
  Cond.instanceMethod yX4_size,
  Cond.selects RX4 yX4_size yX4_size,
  Cond.codeWith yL_put cL_put 6 (some .int) [(0, 7, 10, 13), (0, 7, 14, 19)],
  Cond.methodLink RL 15 yX4_put,
  Cond.instanceMethod yX4_put,
  Cond.selects RX4 yX4_put yX4_put,
  Cond.codeWith yL_move cL_move 7 (some .int) [(0, 11, 14, 13), (0, 11, 18, 19)],
  Cond.methodLink RL 21 yX4_move,
  Cond.instanceMethod yX4_move,
  Cond.selects RX4 yX4_move yX4_move,
  Cond.codeWith yL_octet cL_octet 5 (some .int) [(0, 10, 13, 13), (0, 10, 17, 19)],
  Cond.methodLink RL 25 yX4_octet,
  Cond.instanceMethod yX4_octet,
  Cond.selects RX4 yX4_octet yX4_octet,
  Cond.codeWith yL_weak cL_weak 6 (some .int) [(0, 12, 15, 13), (0, 12, 19, 19)],
  Cond.methodLink RL 29 yX4_weak,
  Cond.instanceMethod yX4_weak,
  Cond.selects RX4 yX4_weak yX4_weak,
  Cond.codeWith yL_strong cL_strong 6 (some .int) [(0, 11, 14, 13), (0, 11, 18, 19)],
  Cond.methodLink RL 33 yX4_strong,
  Cond.instanceMethod yX4_strong,
  Cond.selects RX4 yX4_strong yX4_strong,
  Cond.codeWith yL_find cL_find 7 (some .int) [(0, 14, 17, 13), (0, 14, 21, 19)],
  Cond.methodLink RL 37 yX4_find,
  Cond.instanceMethod yX4_find,
  Cond.selects RX4 yX4_find yX4_find,
  Cond.codeWith yL_delta cL_delta 5 (some .int) [(0, 10, 13, 13)],
  Cond.methodLink RL 41 yX4_delta,
  Cond.instanceMethod yX4_delta,
  Cond.selects RX4 yX4_delta yX4_delta,
  Cond.codeWith yL_token cL_token 5 (some .int) [(0, 10, 13, 13), (0, 10, 17, 19)],
  Cond.methodLink RL 44 yX4_token,
  Cond.instanceMethod yX4_token,
  Cond.selects RX4 yX4_token yX4_token,
  Cond.codeWith yL_count cL_count 4 (some .int) [(0, 9, 12, 13)],
  Cond.methodLink RL 47 yX4_count,
  Cond.instanceMethod yX4_count,
  Cond.selects RX4 yX4_count yX4_count,
  Cond.classLink RL 8 RX4,
  Cond.instantiable RX4 8,
  Cond.methodLink RL 51 yX4_init,
  Cond.instanceMethod yX4_init,
  Cond.classLink RL 52 RX5,
  Cond.instantiable RX5 12,
  Cond.methodLink RL 54 yX5_init,
  Cond.instanceMethod yX5_init,
  Cond.methodLink RL 55 yL_size,
  Cond.initialized RL,
  Cond.static yL_size,
  Cond.methodLink RL 60 yX5_size,
  Cond.instanceMethod yX5_size,
  Cond.selects RX5 yX5_size yX5_size,
  Cond.methodLink RL 61 yX5_thrown,
  Cond.instanceMethod yX5_thrown,
  Cond.selects RX5 yX5_thrown yX5_thrown,
  Cond.constantLong RL 65 (4294967295),
  Cond.methodLink RL 67 yL_put,
  Cond.static yL_put,
  Cond.methodLink RL 70 yX5_put,
  Cond.instanceMethod yX5_put,
  Cond.selects RX5 yX5_put yX5_put,
  Cond.methodLink RL 71 yL_move,
  Cond.static yL_move,
  Cond.methodLink RL 74 yX5_move,
  Cond.instanceMethod yX5_move,
  Cond.selects RX5 yX5_move yX5_move,
  Cond.methodLink RL 75 yL_octet,
  Cond.static yL_octet,
  Cond.methodLink RL 78 yX5_octet,
  Cond.instanceMethod yX5_octet,
  Cond.selects RX5 yX5_octet yX5_octet,
  Cond.methodLink RL 79 yL_weak,
  Cond.static yL_weak,
  Cond.methodLink RL 82 yX5_weak,
  Cond.instanceMethod yX5_weak,
  Cond.selects RX5 yX5_weak yX5_weak,
  Cond.methodLink RL 83 yL_strong,
  Cond.static yL_strong,
  Cond.methodLink RL 85 yX5_strong,
  Cond.instanceMethod yX5_strong,
  Cond.selects RX5 yX5_strong yX5_strong,
  Cond.methodLink RL 86 yL_find,
  Cond.static yL_find,
  Cond.methodLink RL 89 yX5_find,
  Cond.instanceMethod yX5_find,
  Cond.selects RX5 yX5_find yX5_find,
  Cond.methodLink RL 90 yL_delta,
  Cond.static yL_delta,
  Cond.methodLink RL 92 yX5_delta,
  Cond.instanceMethod yX5_delta,
  Cond.selects RX5 yX5_delta yX5_delta,
  Cond.methodLink RL 93 yL_token,
  Cond.static yL_token,
  Cond.methodLink RL 95 yX5_token,
  Cond.instanceMethod yX5_token,
  Cond.selects RX5 yX5_token yX5_token,
  Cond.methodLink RL 96 yX4_sent,
  Cond.instanceMethod yX4_sent,
  Cond.selects RX4 yX4_sent yX4_sent,
  Cond.methodLink RL 99 yX5_sent,
  Cond.instanceMethod yX5_sent,
  Cond.selects RX5 yX5_sent yX5_sent,
  Cond.methodLink RL 100 yX4_patch,
  Cond.instanceMethod yX4_patch,
  Cond.selects RX4 yX4_patch yX4_patch,
  Cond.methodLink RL 103 yX5_patch,
  Cond.instanceMethod yX5_patch,
  Cond.selects RX5 yX5_patch yX5_patch,
  Cond.methodLink RL 104 yX4_same,
  Cond.instanceMethod yX4_same,
  Cond.selects RX4 yX4_same yX4_same,
  Cond.methodLink RL 108 yX5_same,
  Cond.instanceMethod yX5_same,
  Cond.selects RX5 yX5_same yX5_same,
  Cond.methodLink RL 109 yL_count,
  Cond.static yL_count,
  Cond.methodLink RL 112 yX5_count,
  Cond.instanceMethod yX5_count,
  Cond.selects RX5 yX5_count yX5_count,
  Cond.classLink RL 13 "java/lang/IllegalArgumentException",
  Cond.classLink RL 19 "java/lang/IndexOutOfBoundsException"]
def ds_xI : List Cond := (vx_atS RX4 60 "java/lang/IllegalArgumentException" ["java/lang/RuntimeException", "java/lang/Exception"]).filter goodWord
def ds_xO : List Cond := (vx_atS RX4 115 "java/lang/IndexOutOfBoundsException" ["java/lang/RuntimeException", "java/lang/Exception"]).filter goodWord
def ds_tail : List Cond := wsX00 ++ (wsX10 ++ (wsX20 ++ (wsX30 ++ (wsX40 ++ (wsX50 ++ (ds_xI ++ ds_xO))))))
def ds_all : List Cond := ds_words ++ ds_tail
theorem ds_in {w : Cond} (k : Nat) (h : ds_words[k]? = some w) : w ∈ ds_all := List.mem_append_left _ (List.mem_of_getElem? h)
theorem inA_X0 : ∀ w ∈ wsX00, w ∈ ds_all := fun _ h => List.mem_append_right _ (List.mem_append_left _ (h))
theorem inA_X1 : ∀ w ∈ wsX10, w ∈ ds_all := fun _ h => List.mem_append_right _ (List.mem_append_right _ (List.mem_append_left _ (h)))
theorem inA_X2 : ∀ w ∈ wsX20, w ∈ ds_all := fun _ h => List.mem_append_right _ (List.mem_append_right _ (List.mem_append_right _ (List.mem_append_left _ (h))))
theorem inA_X3 : ∀ w ∈ wsX30, w ∈ ds_all := fun _ h => List.mem_append_right _ (List.mem_append_right _ (List.mem_append_right _ (List.mem_append_right _ (List.mem_append_left _ (h)))))
theorem inA_X4 : ∀ w ∈ wsX40, w ∈ ds_all := fun _ h => List.mem_append_right _ (List.mem_append_right _ (List.mem_append_right _ (List.mem_append_right _ (List.mem_append_right _ (List.mem_append_left _ (h))))))
theorem inA_X5 : ∀ w ∈ wsX50, w ∈ ds_all := fun _ h => List.mem_append_right _ (List.mem_append_right _ (List.mem_append_right _ (List.mem_append_right _ (List.mem_append_right _ (List.mem_append_right _ (List.mem_append_left _ (h)))))))
theorem inA_xI : ∀ w ∈ ds_xI, w ∈ ds_all := fun _ h => List.mem_append_right _ (List.mem_append_right _ (List.mem_append_right _ (List.mem_append_right _ (List.mem_append_right _ (List.mem_append_right _ (List.mem_append_right _ (List.mem_append_left _ (h))))))))
theorem inA_xO : ∀ w ∈ ds_xO, w ∈ ds_all := fun _ h => List.mem_append_right _ (List.mem_append_right _ (List.mem_append_right _ (List.mem_append_right _ (List.mem_append_right _ (List.mem_append_right _ (List.mem_append_right _ (List.mem_append_right _ (h))))))))
set_option maxRecDepth 100000 in
theorem ds_good : ds_all.all goodWord = true := by decide +kernel
theorem ds_goodIn {w : Cond} (h : w ∈ ds_all) : GoodIn ds_all (w :: ds_all) := goodIn_sub (fun v hv => (List.mem_cons.mp hv).elim (fun e => e ▸ h) id) (List.all_eq_true.mpr (fun v hv => List.all_eq_true.mp ds_good v ((List.mem_cons.mp hv).elim (fun e => e ▸ h) id)))
set_option maxRecDepth 100000 in
theorem iw_0 : Cond.code yX4_init cX4_init 1 none ∈ ds_all := ds_in 0 rfl
theorem iw_1 : Cond.methodLink RX4 3 objectInit ∈ ds_all := ds_in 1 rfl
theorem iw_2 : Cond.instanceMethod objectInit ∈ ds_all := ds_in 2 rfl
theorem iw_3 : Cond.code objectInit ⟨#[0xb1]⟩ 1 none ∈ ds_all := ds_in 3 rfl
theorem iw_4 : Cond.classLink RX4 9 RX1 ∈ ds_all := ds_in 4 rfl
theorem iw_5 : Cond.instantiable RX1 2 ∈ ds_all := ds_in 5 rfl
theorem iw_6 : Cond.initialized RX1 ∈ ds_all := ds_in 6 rfl
theorem iw_7 : Cond.instanceMethod yX1_init ∈ ds_all := ds_in 7 rfl
theorem iw_8 : Cond.fieldLink RX4 12 "DeltaDesk" "oldRow" "LDeltaDesk$Row;" ∈ ds_all := ds_in 8 rfl
theorem iw_9 : Cond.fieldLink RX4 16 "DeltaDesk" "newRow" "LDeltaDesk$Row;" ∈ ds_all := ds_in 9 rfl
theorem iw_10 : Cond.fieldLink RX4 19 "DeltaDesk" "made" "LDeltaDesk$Row;" ∈ ds_all := ds_in 10 rfl
theorem iw_11 : Cond.classLink RX4 22 RX0 ∈ ds_all := ds_in 11 rfl
theorem iw_12 : Cond.instantiable RX0 6 ∈ ds_all := ds_in 12 rfl
theorem iw_13 : Cond.initialized RX0 ∈ ds_all := ds_in 13 rfl
theorem iw_14 : Cond.instanceMethod yX0_init ∈ ds_all := ds_in 14 rfl
theorem iw_15 : Cond.fieldLink RX4 27 "DeltaDesk" "blocks" "LDeltaDesk$Blocks;" ∈ ds_all := ds_in 15 rfl
theorem iw_16 : Cond.classLink RX4 31 RX3 ∈ ds_all := ds_in 16 rfl
theorem iw_17 : Cond.instantiable RX3 9 ∈ ds_all := ds_in 17 rfl
theorem iw_18 : Cond.initialized RX3 ∈ ds_all := ds_in 18 rfl
theorem iw_19 : Cond.instanceMethod yX3_init ∈ ds_all := ds_in 19 rfl
theorem iw_20 : Cond.fieldLink RX4 34 "DeltaDesk" "usualWindow" "LDeltaDesk$Window;" ∈ ds_all := ds_in 20 rfl
theorem iw_21 : Cond.fieldLink RX4 38 "DeltaDesk" "lastWindow" "LDeltaDesk$Window;" ∈ ds_all := ds_in 21 rfl
theorem iw_22 : Cond.classLink RX4 41 RX2 ∈ ds_all := ds_in 22 rfl
theorem iw_23 : Cond.instantiable RX2 4 ∈ ds_all := ds_in 23 rfl
theorem iw_24 : Cond.initialized RX2 ∈ ds_all := ds_in 24 rfl
theorem iw_25 : Cond.instanceMethod yX2_init ∈ ds_all := ds_in 25 rfl
theorem iw_26 : Cond.fieldLink RX4 44 "DeltaDesk" "tokens" "LDeltaDesk$Tokens;" ∈ ds_all := ds_in 26 rfl
theorem iw_27 : Cond.fieldLink RX4 48 "DeltaDesk" "hasDelta" "Z" ∈ ds_all := ds_in 27 rfl
theorem iw_28 : Cond.code yX4_size cX4_size 3 none ∈ ds_all := ds_in 28 rfl
theorem iw_29 : Cond.methodLink RX4 52 yX4_checkRow ∈ ds_all := ds_in 29 rfl
theorem iw_30 : Cond.initialized RX4 ∈ ds_all := ds_in 30 rfl
theorem iw_31 : Cond.static yX4_checkRow ∈ ds_all := ds_in 31 rfl
theorem iw_32 : Cond.classLink RX4 56 "java/lang/IllegalArgumentException" ∈ ds_all := ds_in 32 rfl
theorem iw_33 : Cond.initialized "java/lang/IllegalArgumentException" ∈ ds_all := ds_in 33 rfl
theorem iw_34 : Cond.methodLink RX4 63 yX4_row ∈ ds_all := ds_in 34 rfl
theorem iw_35 : Cond.instanceMethod yX4_row ∈ ds_all := ds_in 35 rfl
theorem iw_36 : Cond.selects RX4 yX4_row yX4_row ∈ ds_all := ds_in 36 rfl
theorem iw_37 : Cond.instanceMethod yX1_resize ∈ ds_all := ds_in 37 rfl
theorem iw_38 : Cond.selects RX1 yX1_resize yX1_resize ∈ ds_all := ds_in 38 rfl
theorem iw_39 : Cond.code yX4_put cX4_put 5 none ∈ ds_all := ds_in 39 rfl
theorem iw_40 : Cond.methodLink RX4 70 yX4_checkOctet ∈ ds_all := ds_in 40 rfl
theorem iw_41 : Cond.static yX4_checkOctet ∈ ds_all := ds_in 41 rfl
theorem iw_42 : Cond.instanceMethod yX1_write ∈ ds_all := ds_in 42 rfl
theorem iw_43 : Cond.selects RX1 yX1_write yX1_write ∈ ds_all := ds_in 43 rfl
theorem iw_44 : Cond.code yX4_move cX4_move 6 none ∈ ds_all := ds_in 44 rfl
theorem iw_45 : Cond.methodLink RX4 78 yX4_checkRange ∈ ds_all := ds_in 45 rfl
theorem iw_46 : Cond.static yX4_checkRange ∈ ds_all := ds_in 46 rfl
theorem iw_47 : Cond.methodLink RX4 86 arraycopyName ∈ ds_all := ds_in 47 rfl
theorem iw_48 : Cond.native arraycopyName ∈ ds_all := ds_in 48 rfl
theorem iw_49 : Cond.static arraycopyName ∈ ds_all := ds_in 49 rfl
theorem iw_50 : Cond.initialized "java/lang/System" ∈ ds_all := ds_in 50 rfl
theorem iw_51 : Cond.code yX4_octet cX4_octet 3 (some .int) ∈ ds_all := ds_in 51 rfl
theorem iw_52 : Cond.code yX4_weak cX4_weak 4 (some .int) ∈ ds_all := ds_in 52 rfl
theorem iw_53 : Cond.instanceMethod yX1_weakSum ∈ ds_all := ds_in 53 rfl
theorem iw_54 : Cond.selects RX1 yX1_weakSum yX1_weakSum ∈ ds_all := ds_in 54 rfl
theorem iw_55 : Cond.code yX4_strong cX4_strong 4 (some .long) ∈ ds_all := ds_in 55 rfl
theorem iw_56 : Cond.instanceMethod yX1_strongSum ∈ ds_all := ds_in 56 rfl
theorem iw_57 : Cond.selects RX1 yX1_strongSum yX1_strongSum ∈ ds_all := ds_in 57 rfl
theorem iw_58 : Cond.code yX4_find cX4_find 5 (some .int) ∈ ds_all := ds_in 58 rfl
theorem iw_59 : Cond.methodLink RX4 100 yX4_checkBlocks ∈ ds_all := ds_in 59 rfl
theorem iw_60 : Cond.static yX4_checkBlocks ∈ ds_all := ds_in 60 rfl
theorem iw_61 : Cond.methodLink RX4 108 yX4_blockCount ∈ ds_all := ds_in 61 rfl
theorem iw_62 : Cond.static yX4_blockCount ∈ ds_all := ds_in 62 rfl
theorem iw_63 : Cond.classLink RX4 111 "java/lang/IndexOutOfBoundsException" ∈ ds_all := ds_in 63 rfl
theorem iw_64 : Cond.initialized "java/lang/IndexOutOfBoundsException" ∈ ds_all := ds_in 64 rfl
theorem iw_65 : Cond.methodLink RX4 118 Lib.Math.min.name ∈ ds_all := ds_in 65 rfl
theorem iw_66 : Cond.static Lib.Math.min.name ∈ ds_all := ds_in 66 rfl
theorem iw_67 : Cond.initialized "java/lang/Math" ∈ ds_all := ds_in 67 rfl
theorem iw_68 : Cond.code Lib.Math.min.name Lib.Math.min.code 2 (some .int) ∈ ds_all := ds_in 68 rfl
theorem iw_69 : Cond.methodLink RX4 123 yX4_strongMask ∈ ds_all := ds_in 69 rfl
theorem iw_70 : Cond.static yX4_strongMask ∈ ds_all := ds_in 70 rfl
theorem iw_71 : Cond.methodLink RX4 127 yX4_firstPlace ∈ ds_all := ds_in 71 rfl
theorem iw_72 : Cond.instanceMethod yX4_firstPlace ∈ ds_all := ds_in 72 rfl
theorem iw_73 : Cond.selects RX4 yX4_firstPlace yX4_firstPlace ∈ ds_all := ds_in 73 rfl
theorem iw_74 : Cond.code yX4_delta cX4_delta 3 (some .int) ∈ ds_all := ds_in 74 rfl
theorem iw_75 : Cond.instanceMethod yX0_cut ∈ ds_all := ds_in 75 rfl
theorem iw_76 : Cond.selects RX0 yX0_cut yX0_cut ∈ ds_all := ds_in 76 rfl
theorem iw_77 : Cond.instanceMethod yX3_open ∈ ds_all := ds_in 77 rfl
theorem iw_78 : Cond.selects RX3 yX3_open yX3_open ∈ ds_all := ds_in 78 rfl
theorem iw_79 : Cond.instanceMethod yX2_clear ∈ ds_all := ds_in 79 rfl
theorem iw_80 : Cond.selects RX2 yX2_clear yX2_clear ∈ ds_all := ds_in 80 rfl
theorem iw_81 : Cond.methodLink RX4 143 yX4_makeDelta ∈ ds_all := ds_in 81 rfl
theorem iw_82 : Cond.instanceMethod yX4_makeDelta ∈ ds_all := ds_in 82 rfl
theorem iw_83 : Cond.selects RX4 yX4_makeDelta yX4_makeDelta ∈ ds_all := ds_in 83 rfl
theorem iw_84 : Cond.code yX4_token cX4_token 3 (some .int) ∈ ds_all := ds_in 84 rfl
theorem iw_85 : Cond.code yX4_sent cX4_sent 3 (some .int) ∈ ds_all := ds_in 85 rfl
theorem iw_86 : Cond.code yX4_patch cX4_patch 1 (some .int) ∈ ds_all := ds_in 86 rfl
theorem iw_87 : Cond.instanceMethod yX1_append ∈ ds_all := ds_in 87 rfl
theorem iw_88 : Cond.selects RX1 yX1_append yX1_append ∈ ds_all := ds_in 88 rfl
theorem iw_89 : Cond.code yX4_same cX4_same 2 (some .boolean) ∈ ds_all := ds_in 89 rfl
theorem iw_90 : Cond.code yX4_count cX4_count 2 (some .int) ∈ ds_all := ds_in 90 rfl
theorem iw_91 : Cond.code yX4_row cX4_row 2 (some (.object "DeltaDesk$Row")) ∈ ds_all := ds_in 91 rfl
theorem iw_92 : Cond.code yX4_checkRow cX4_checkRow 1 none ∈ ds_all := ds_in 92 rfl
theorem iw_93 : Cond.code yX4_checkOctet cX4_checkOctet 2 none ∈ ds_all := ds_in 93 rfl
theorem iw_94 : Cond.code yX4_checkRange cX4_checkRange 3 none ∈ ds_all := ds_in 94 rfl
theorem iw_95 : Cond.code yX4_checkBlocks cX4_checkBlocks 2 none ∈ ds_all := ds_in 95 rfl
theorem iw_96 : Cond.code yX4_blockCount cX4_blockCount 2 (some .int) ∈ ds_all := ds_in 96 rfl
theorem iw_97 : Cond.code yX4_strongMask cX4_strongMask 1 (some .long) ∈ ds_all := ds_in 97 rfl
theorem iw_98 : Cond.constantLong RX4 178 (-1) ∈ ds_all := ds_in 98 rfl
theorem iw_99 : Cond.code yX4_firstPlace cX4_firstPlace 10 (some .int) ∈ ds_all := ds_in 99 rfl
theorem iw_100 : Cond.instanceMethod yX3_moveTo ∈ ds_all := ds_in 100 rfl
theorem iw_101 : Cond.selects RX3 yX3_moveTo yX3_moveTo ∈ ds_all := ds_in 101 rfl
theorem iw_102 : Cond.instanceMethod yX3_shows ∈ ds_all := ds_in 102 rfl
theorem iw_103 : Cond.selects RX3 yX3_shows yX3_shows ∈ ds_all := ds_in 103 rfl
theorem iw_104 : Cond.code yX4_makeDelta cX4_makeDelta 7 none ∈ ds_all := ds_in 104 rfl
theorem iw_105 : Cond.methodLink RX4 187 yX4_blockAt ∈ ds_all := ds_in 105 rfl
theorem iw_106 : Cond.instanceMethod yX4_blockAt ∈ ds_all := ds_in 106 rfl
theorem iw_107 : Cond.selects RX4 yX4_blockAt yX4_blockAt ∈ ds_all := ds_in 107 rfl
theorem iw_108 : Cond.instanceMethod yX2_add ∈ ds_all := ds_in 108 rfl
theorem iw_109 : Cond.selects RX2 yX2_add yX2_add ∈ ds_all := ds_in 109 rfl
theorem iw_110 : Cond.instanceMethod yX0_start ∈ ds_all := ds_in 110 rfl
theorem iw_111 : Cond.selects RX0 yX0_start yX0_start ∈ ds_all := ds_in 111 rfl
theorem iw_112 : Cond.instanceMethod yX0_length ∈ ds_all := ds_in 112 rfl
theorem iw_113 : Cond.selects RX0 yX0_length yX0_length ∈ ds_all := ds_in 113 rfl
theorem iw_114 : Cond.code yX4_blockAt cX4_blockAt 6 (some .int) ∈ ds_all := ds_in 114 rfl
theorem iw_115 : Cond.methodLink RX4 201 yX4_fits ∈ ds_all := ds_in 115 rfl
theorem iw_116 : Cond.instanceMethod yX4_fits ∈ ds_all := ds_in 116 rfl
theorem iw_117 : Cond.selects RX4 yX4_fits yX4_fits ∈ ds_all := ds_in 117 rfl
theorem iw_118 : Cond.code yX4_fits cX4_fits 5 (some .boolean) ∈ ds_all := ds_in 118 rfl
theorem iw_119 : Cond.code yX5_init cX5_init 1 none ∈ ds_all := ds_in 119 rfl
theorem iw_120 : Cond.methodLink RX5 1 objectInit ∈ ds_all := ds_in 120 rfl
theorem iw_121 : Cond.arrayClass .int ∈ ds_all := ds_in 121 rfl
theorem iw_122 : Cond.fieldLink RX5 7 "DeltaDeskModel" "octets" "[I" ∈ ds_all := ds_in 122 rfl
theorem iw_123 : Cond.fieldLink RX5 13 "DeltaDeskModel" "then" "[I" ∈ ds_all := ds_in 123 rfl
theorem iw_124 : Cond.fieldLink RX5 16 "DeltaDeskModel" "made" "[I" ∈ ds_all := ds_in 124 rfl
theorem iw_125 : Cond.fieldLink RX5 19 "DeltaDeskModel" "sizes" "[I" ∈ ds_all := ds_in 125 rfl
theorem iw_126 : Cond.fieldLink RX5 22 "DeltaDeskModel" "thenSizes" "[I" ∈ ds_all := ds_in 126 rfl
theorem iw_127 : Cond.fieldLink RX5 25 "DeltaDeskModel" "kind" "[I" ∈ ds_all := ds_in 127 rfl
theorem iw_128 : Cond.fieldLink RX5 28 "DeltaDeskModel" "first" "[I" ∈ ds_all := ds_in 128 rfl
theorem iw_129 : Cond.fieldLink RX5 31 "DeltaDeskModel" "many" "[I" ∈ ds_all := ds_in 129 rfl
theorem iw_130 : Cond.code yX5_thrown cX5_thrown 1 (some .int) ∈ ds_all := ds_in 130 rfl
theorem iw_131 : Cond.fieldLink RX5 34 "DeltaDeskModel" "err" "I" ∈ ds_all := ds_in 131 rfl
theorem iw_132 : Cond.code yX5_fails cX5_fails 3 (some .boolean) ∈ ds_all := ds_in 132 rfl
theorem iw_133 : Cond.code yX5_no cX5_no 1 (some .boolean) ∈ ds_all := ds_in 133 rfl
theorem iw_134 : Cond.code yX5_size cX5_size 4 none ∈ ds_all := ds_in 134 rfl
theorem iw_135 : Cond.methodLink RX5 38 yX5_no ∈ ds_all := ds_in 135 rfl
theorem iw_136 : Cond.initialized RX5 ∈ ds_all := ds_in 136 rfl
theorem iw_137 : Cond.static yX5_no ∈ ds_all := ds_in 137 rfl
theorem iw_138 : Cond.methodLink RX5 42 yX5_fails ∈ ds_all := ds_in 138 rfl
theorem iw_139 : Cond.instanceMethod yX5_fails ∈ ds_all := ds_in 139 rfl
theorem iw_140 : Cond.selects RX5 yX5_fails yX5_fails ∈ ds_all := ds_in 140 rfl
theorem iw_141 : Cond.code yX5_put cX5_put 6 none ∈ ds_all := ds_in 141 rfl
theorem iw_142 : Cond.code yX5_lacks cX5_lacks 4 (some .boolean) ∈ ds_all := ds_in 142 rfl
theorem iw_143 : Cond.code yX5_move cX5_move 7 none ∈ ds_all := ds_in 143 rfl
theorem iw_144 : Cond.methodLink RX5 46 yX5_lacks ∈ ds_all := ds_in 144 rfl
theorem iw_145 : Cond.instanceMethod yX5_lacks ∈ ds_all := ds_in 145 rfl
theorem iw_146 : Cond.selects RX5 yX5_lacks yX5_lacks ∈ ds_all := ds_in 146 rfl
theorem iw_147 : Cond.code yX5_octet cX5_octet 3 (some .int) ∈ ds_all := ds_in 147 rfl
theorem iw_148 : Cond.code yX5_weakOf cX5_weakOf 7 (some .int) ∈ ds_all := ds_in 148 rfl
theorem iw_149 : Cond.constant RX5 50 65535 ∈ ds_all := ds_in 149 rfl
theorem iw_150 : Cond.constant RX5 51 65536 ∈ ds_all := ds_in 150 rfl
theorem iw_151 : Cond.code yX5_strongOf cX5_strongOf 7 (some .long) ∈ ds_all := ds_in 151 rfl
theorem iw_152 : Cond.constantLong RX5 52 (-3750763034362895579) ∈ ds_all := ds_in 152 rfl
theorem iw_153 : Cond.constantLong RX5 54 (1099511628211) ∈ ds_all := ds_in 153 rfl
theorem iw_154 : Cond.code yX5_weak cX5_weak 4 (some .int) ∈ ds_all := ds_in 154 rfl
theorem iw_155 : Cond.methodLink RX5 56 yX5_weakOf ∈ ds_all := ds_in 155 rfl
theorem iw_156 : Cond.instanceMethod yX5_weakOf ∈ ds_all := ds_in 156 rfl
theorem iw_157 : Cond.selects RX5 yX5_weakOf yX5_weakOf ∈ ds_all := ds_in 157 rfl
theorem iw_158 : Cond.code yX5_strong cX5_strong 4 (some .long) ∈ ds_all := ds_in 158 rfl
theorem iw_159 : Cond.methodLink RX5 60 yX5_strongOf ∈ ds_all := ds_in 159 rfl
theorem iw_160 : Cond.instanceMethod yX5_strongOf ∈ ds_all := ds_in 160 rfl
theorem iw_161 : Cond.selects RX5 yX5_strongOf yX5_strongOf ∈ ds_all := ds_in 161 rfl
theorem iw_162 : Cond.code yX5_bad cX5_bad 2 (some .boolean) ∈ ds_all := ds_in 162 rfl
theorem iw_163 : Cond.code yX5_blocks cX5_blocks 2 (some .int) ∈ ds_all := ds_in 163 rfl
theorem iw_164 : Cond.code yX5_length cX5_length 3 (some .int) ∈ ds_all := ds_in 164 rfl
theorem iw_165 : Cond.code yX5_fits cX5_fits 8 (some .boolean) ∈ ds_all := ds_in 165 rfl
theorem iw_166 : Cond.methodLink RX5 64 yX5_length ∈ ds_all := ds_in 166 rfl
theorem iw_167 : Cond.instanceMethod yX5_length ∈ ds_all := ds_in 167 rfl
theorem iw_168 : Cond.selects RX5 yX5_length yX5_length ∈ ds_all := ds_in 168 rfl
theorem iw_169 : Cond.code yX5_find cX5_find 6 (some .int) ∈ ds_all := ds_in 169 rfl
theorem iw_170 : Cond.methodLink RX5 68 yX5_bad ∈ ds_all := ds_in 170 rfl
theorem iw_171 : Cond.static yX5_bad ∈ ds_all := ds_in 171 rfl
theorem iw_172 : Cond.methodLink RX5 72 yX5_blocks ∈ ds_all := ds_in 172 rfl
theorem iw_173 : Cond.instanceMethod yX5_blocks ∈ ds_all := ds_in 173 rfl
theorem iw_174 : Cond.selects RX5 yX5_blocks yX5_blocks ∈ ds_all := ds_in 174 rfl
theorem iw_175 : Cond.methodLink RX5 76 yX5_fits ∈ ds_all := ds_in 175 rfl
theorem iw_176 : Cond.instanceMethod yX5_fits ∈ ds_all := ds_in 176 rfl
theorem iw_177 : Cond.selects RX5 yX5_fits yX5_fits ∈ ds_all := ds_in 177 rfl
theorem iw_178 : Cond.code yX5_delta cX5_delta 9 (some .int) ∈ ds_all := ds_in 178 rfl
theorem iw_179 : Cond.fieldLink RX5 80 "DeltaDeskModel" "is" "Z" ∈ ds_all := ds_in 179 rfl
theorem iw_180 : Cond.fieldLink RX5 84 "DeltaDeskModel" "tokens" "I" ∈ ds_all := ds_in 180 rfl
theorem iw_181 : Cond.fieldLink RX5 87 "DeltaDeskModel" "width" "I" ∈ ds_all := ds_in 181 rfl
theorem iw_182 : Cond.code yX5_token cX5_token 3 (some .int) ∈ ds_all := ds_in 182 rfl
theorem iw_183 : Cond.code yX5_sent cX5_sent 3 (some .int) ∈ ds_all := ds_in 183 rfl
theorem iw_184 : Cond.code yX5_patch cX5_patch 6 (some .int) ∈ ds_all := ds_in 184 rfl
theorem iw_185 : Cond.code yX5_same cX5_same 2 (some .boolean) ∈ ds_all := ds_in 185 rfl
theorem iw_186 : Cond.code yX5_count cX5_count 2 (some .int) ∈ ds_all := ds_in 186 rfl
theorem iw_187 : Cond.code yX0_init cX0_init 2 none ∈ ds_all := ds_in 187 rfl
theorem iw_188 : Cond.methodLink RX0 3 objectInit ∈ ds_all := ds_in 188 rfl
theorem iw_189 : Cond.fieldLink RX0 9 "DeltaDesk$Blocks" "row" "LDeltaDesk$Row;" ∈ ds_all := ds_in 189 rfl
theorem iw_190 : Cond.fieldLink RX0 15 "DeltaDesk$Blocks" "weaks" "[I" ∈ ds_all := ds_in 190 rfl
theorem iw_191 : Cond.arrayClass .long ∈ ds_all := ds_in 191 rfl
theorem iw_192 : Cond.fieldLink RX0 19 "DeltaDesk$Blocks" "strongs" "[J" ∈ ds_all := ds_in 192 rfl
theorem iw_193 : Cond.fieldLink RX0 23 "DeltaDesk$Blocks" "usualSize" "I" ∈ ds_all := ds_in 193 rfl
theorem iw_194 : Cond.fieldLink RX0 27 "DeltaDesk$Blocks" "lastSize" "I" ∈ ds_all := ds_in 194 rfl
theorem iw_195 : Cond.fieldLink RX0 30 "DeltaDesk$Blocks" "count" "I" ∈ ds_all := ds_in 195 rfl
theorem iw_196 : Cond.code yX0_cut cX0_cut 3 none ∈ ds_all := ds_in 196 rfl
theorem iw_197 : Cond.methodLink RX0 42 yX0_start ∈ ds_all := ds_in 197 rfl
theorem iw_198 : Cond.methodLink RX0 46 yX0_length ∈ ds_all := ds_in 198 rfl
theorem iw_199 : Cond.code yX0_start cX0_start 2 (some .int) ∈ ds_all := ds_in 199 rfl
theorem iw_200 : Cond.code yX0_length cX0_length 2 (some .int) ∈ ds_all := ds_in 200 rfl
theorem iw_201 : Cond.code yX1_init cX1_init 1 none ∈ ds_all := ds_in 201 rfl
theorem iw_202 : Cond.methodLink RX1 3 objectInit ∈ ds_all := ds_in 202 rfl
theorem iw_203 : Cond.fieldLink RX1 9 "DeltaDesk$Row" "octets" "[I" ∈ ds_all := ds_in 203 rfl
theorem iw_204 : Cond.fieldLink RX1 15 "DeltaDesk$Row" "length" "I" ∈ ds_all := ds_in 204 rfl
theorem iw_205 : Cond.code yX1_resize cX1_resize 3 none ∈ ds_all := ds_in 205 rfl
theorem iw_206 : Cond.code yX1_write cX1_write 5 none ∈ ds_all := ds_in 206 rfl
theorem iw_207 : Cond.code yX1_append cX1_append 4 none ∈ ds_all := ds_in 207 rfl
theorem iw_208 : Cond.methodLink RX1 19 arraycopyName ∈ ds_all := ds_in 208 rfl
theorem iw_209 : Cond.code yX1_weakSum cX1_weakSum 6 (some .int) ∈ ds_all := ds_in 209 rfl
theorem iw_210 : Cond.methodLink RX1 25 yX1_joinWeak ∈ ds_all := ds_in 210 rfl
theorem iw_211 : Cond.static yX1_joinWeak ∈ ds_all := ds_in 211 rfl
theorem iw_212 : Cond.code yX1_joinWeak cX1_joinWeak 2 (some .int) ∈ ds_all := ds_in 212 rfl
theorem iw_213 : Cond.constant RX1 29 65535 ∈ ds_all := ds_in 213 rfl
theorem iw_214 : Cond.constant RX1 30 65536 ∈ ds_all := ds_in 214 rfl
theorem iw_215 : Cond.code yX1_strongSum cX1_strongSum 6 (some .long) ∈ ds_all := ds_in 215 rfl
theorem iw_216 : Cond.constantLong RX1 31 (-3750763034362895579) ∈ ds_all := ds_in 216 rfl
theorem iw_217 : Cond.constantLong RX1 33 (1099511628211) ∈ ds_all := ds_in 217 rfl
theorem iw_218 : Cond.code yX2_init cX2_init 1 none ∈ ds_all := ds_in 218 rfl
theorem iw_219 : Cond.methodLink RX2 3 objectInit ∈ ds_all := ds_in 219 rfl
theorem iw_220 : Cond.fieldLink RX2 9 "DeltaDesk$Tokens" "kinds" "[I" ∈ ds_all := ds_in 220 rfl
theorem iw_221 : Cond.fieldLink RX2 15 "DeltaDesk$Tokens" "firsts" "[I" ∈ ds_all := ds_in 221 rfl
theorem iw_222 : Cond.fieldLink RX2 18 "DeltaDesk$Tokens" "lengths" "[I" ∈ ds_all := ds_in 222 rfl
theorem iw_223 : Cond.fieldLink RX2 21 "DeltaDesk$Tokens" "count" "I" ∈ ds_all := ds_in 223 rfl
theorem iw_224 : Cond.code yX2_clear cX2_clear 1 none ∈ ds_all := ds_in 224 rfl
theorem iw_225 : Cond.code yX2_add cX2_add 3 none ∈ ds_all := ds_in 225 rfl
theorem iw_226 : Cond.methodLink RX2 25 yX2_goesOn ∈ ds_all := ds_in 226 rfl
theorem iw_227 : Cond.instanceMethod yX2_goesOn ∈ ds_all := ds_in 227 rfl
theorem iw_228 : Cond.selects RX2 yX2_goesOn yX2_goesOn ∈ ds_all := ds_in 228 rfl
theorem iw_229 : Cond.code yX2_goesOn cX2_goesOn 3 (some .boolean) ∈ ds_all := ds_in 229 rfl
theorem iw_230 : Cond.code yX3_init cX3_init 2 none ∈ ds_all := ds_in 230 rfl
theorem iw_231 : Cond.methodLink RX3 3 objectInit ∈ ds_all := ds_in 231 rfl
theorem iw_232 : Cond.fieldLink RX3 9 "DeltaDesk$Window" "row" "LDeltaDesk$Row;" ∈ ds_all := ds_in 232 rfl
theorem iw_233 : Cond.fieldLink RX3 15 "DeltaDesk$Window" "size" "I" ∈ ds_all := ds_in 233 rfl
theorem iw_234 : Cond.fieldLink RX3 19 "DeltaDesk$Window" "place" "I" ∈ ds_all := ds_in 234 rfl
theorem iw_235 : Cond.fieldLink RX3 22 "DeltaDesk$Window" "inside" "Z" ∈ ds_all := ds_in 235 rfl
theorem iw_236 : Cond.fieldLink RX3 26 "DeltaDesk$Window" "knowsStrong" "Z" ∈ ds_all := ds_in 236 rfl
theorem iw_237 : Cond.code yX3_open cX3_open 2 none ∈ ds_all := ds_in 237 rfl
theorem iw_238 : Cond.code yX3_moveTo cX3_moveTo 3 none ∈ ds_all := ds_in 238 rfl
theorem iw_239 : Cond.methodLink RX3 34 yX3_roll ∈ ds_all := ds_in 239 rfl
theorem iw_240 : Cond.instanceMethod yX3_roll ∈ ds_all := ds_in 240 rfl
theorem iw_241 : Cond.selects RX3 yX3_roll yX3_roll ∈ ds_all := ds_in 241 rfl
theorem iw_242 : Cond.methodLink RX3 37 yX3_sumAfresh ∈ ds_all := ds_in 242 rfl
theorem iw_243 : Cond.instanceMethod yX3_sumAfresh ∈ ds_all := ds_in 243 rfl
theorem iw_244 : Cond.selects RX3 yX3_sumAfresh yX3_sumAfresh ∈ ds_all := ds_in 244 rfl
theorem iw_245 : Cond.fieldLink RX3 41 "DeltaDesk$Window" "a" "I" ∈ ds_all := ds_in 245 rfl
theorem iw_246 : Cond.fieldLink RX3 44 "DeltaDesk$Window" "b" "I" ∈ ds_all := ds_in 246 rfl
theorem iw_247 : Cond.fieldLink RX3 51 "DeltaDesk$Window" "weakHere" "I" ∈ ds_all := ds_in 247 rfl
theorem iw_248 : Cond.code yX3_roll cX3_roll 3 none ∈ ds_all := ds_in 248 rfl
theorem iw_249 : Cond.code yX3_sumAfresh cX3_sumAfresh 3 none ∈ ds_all := ds_in 249 rfl
theorem iw_250 : Cond.code yX3_shows cX3_shows 6 (some .boolean) ∈ ds_all := ds_in 250 rfl
theorem iw_251 : Cond.methodLink RX3 58 yX3_strongSumHere ∈ ds_all := ds_in 251 rfl
theorem iw_252 : Cond.instanceMethod yX3_strongSumHere ∈ ds_all := ds_in 252 rfl
theorem iw_253 : Cond.selects RX3 yX3_strongSumHere yX3_strongSumHere ∈ ds_all := ds_in 253 rfl
theorem iw_254 : Cond.code yX3_strongSumHere cX3_strongSumHere 1 (some .long) ∈ ds_all := ds_in 254 rfl
theorem iw_255 : Cond.fieldLink RX3 66 "DeltaDesk$Window" "strongHere" "J" ∈ ds_all := ds_in 255 rfl
theorem iw_256 : Cond.codeWith yL_size cL_size 4 (some .int) [(0, 6, 9, 13)] ∈ ds_all := ds_in 256 rfl
theorem iw_257 : Cond.methodLink RL 7 yX4_size ∈ ds_all := ds_in 257 rfl
theorem iw_258 : Cond.instanceMethod yX4_size ∈ ds_all := ds_in 258 rfl
theorem iw_259 : Cond.selects RX4 yX4_size yX4_size ∈ ds_all := ds_in 259 rfl
theorem iw_260 : Cond.codeWith yL_put cL_put 6 (some .int) [(0, 7, 10, 13), (0, 7, 14, 19)] ∈ ds_all := ds_in 260 rfl
theorem iw_261 : Cond.methodLink RL 15 yX4_put ∈ ds_all := ds_in 261 rfl
theorem iw_262 : Cond.instanceMethod yX4_put ∈ ds_all := ds_in 262 rfl
theorem iw_263 : Cond.selects RX4 yX4_put yX4_put ∈ ds_all := ds_in 263 rfl
theorem iw_264 : Cond.codeWith yL_move cL_move 7 (some .int) [(0, 11, 14, 13), (0, 11, 18, 19)] ∈ ds_all := ds_in 264 rfl
theorem iw_265 : Cond.methodLink RL 21 yX4_move ∈ ds_all := ds_in 265 rfl
theorem iw_266 : Cond.instanceMethod yX4_move ∈ ds_all := ds_in 266 rfl
theorem iw_267 : Cond.selects RX4 yX4_move yX4_move ∈ ds_all := ds_in 267 rfl
theorem iw_268 : Cond.codeWith yL_octet cL_octet 5 (some .int) [(0, 10, 13, 13), (0, 10, 17, 19)] ∈ ds_all := ds_in 268 rfl
theorem iw_269 : Cond.methodLink RL 25 yX4_octet ∈ ds_all := ds_in 269 rfl
theorem iw_270 : Cond.instanceMethod yX4_octet ∈ ds_all := ds_in 270 rfl
theorem iw_271 : Cond.selects RX4 yX4_octet yX4_octet ∈ ds_all := ds_in 271 rfl
theorem iw_272 : Cond.codeWith yL_weak cL_weak 6 (some .int) [(0, 12, 15, 13), (0, 12, 19, 19)] ∈ ds_all := ds_in 272 rfl
theorem iw_273 : Cond.methodLink RL 29 yX4_weak ∈ ds_all := ds_in 273 rfl
theorem iw_274 : Cond.instanceMethod yX4_weak ∈ ds_all := ds_in 274 rfl
theorem iw_275 : Cond.selects RX4 yX4_weak yX4_weak ∈ ds_all := ds_in 275 rfl
theorem iw_276 : Cond.codeWith yL_strong cL_strong 6 (some .int) [(0, 11, 14, 13), (0, 11, 18, 19)] ∈ ds_all := ds_in 276 rfl
theorem iw_277 : Cond.methodLink RL 33 yX4_strong ∈ ds_all := ds_in 277 rfl
theorem iw_278 : Cond.instanceMethod yX4_strong ∈ ds_all := ds_in 278 rfl
theorem iw_279 : Cond.selects RX4 yX4_strong yX4_strong ∈ ds_all := ds_in 279 rfl
theorem iw_280 : Cond.codeWith yL_find cL_find 7 (some .int) [(0, 14, 17, 13), (0, 14, 21, 19)] ∈ ds_all := ds_in 280 rfl
theorem iw_281 : Cond.methodLink RL 37 yX4_find ∈ ds_all := ds_in 281 rfl
theorem iw_282 : Cond.instanceMethod yX4_find ∈ ds_all := ds_in 282 rfl
theorem iw_283 : Cond.selects RX4 yX4_find yX4_find ∈ ds_all := ds_in 283 rfl
theorem iw_284 : Cond.codeWith yL_delta cL_delta 5 (some .int) [(0, 10, 13, 13)] ∈ ds_all := ds_in 284 rfl
theorem iw_285 : Cond.methodLink RL 41 yX4_delta ∈ ds_all := ds_in 285 rfl
theorem iw_286 : Cond.instanceMethod yX4_delta ∈ ds_all := ds_in 286 rfl
theorem iw_287 : Cond.selects RX4 yX4_delta yX4_delta ∈ ds_all := ds_in 287 rfl
theorem iw_288 : Cond.codeWith yL_token cL_token 5 (some .int) [(0, 10, 13, 13), (0, 10, 17, 19)] ∈ ds_all := ds_in 288 rfl
theorem iw_289 : Cond.methodLink RL 44 yX4_token ∈ ds_all := ds_in 289 rfl
theorem iw_290 : Cond.instanceMethod yX4_token ∈ ds_all := ds_in 290 rfl
theorem iw_291 : Cond.selects RX4 yX4_token yX4_token ∈ ds_all := ds_in 291 rfl
theorem iw_292 : Cond.codeWith yL_count cL_count 4 (some .int) [(0, 9, 12, 13)] ∈ ds_all := ds_in 292 rfl
theorem iw_293 : Cond.methodLink RL 47 yX4_count ∈ ds_all := ds_in 293 rfl
theorem iw_294 : Cond.instanceMethod yX4_count ∈ ds_all := ds_in 294 rfl
theorem iw_295 : Cond.selects RX4 yX4_count yX4_count ∈ ds_all := ds_in 295 rfl
theorem iw_296 : Cond.classLink RL 8 RX4 ∈ ds_all := ds_in 296 rfl
theorem iw_297 : Cond.instantiable RX4 8 ∈ ds_all := ds_in 297 rfl
theorem iw_298 : Cond.methodLink RL 51 yX4_init ∈ ds_all := ds_in 298 rfl
theorem iw_299 : Cond.instanceMethod yX4_init ∈ ds_all := ds_in 299 rfl
theorem iw_300 : Cond.classLink RL 52 RX5 ∈ ds_all := ds_in 300 rfl
theorem iw_301 : Cond.instantiable RX5 12 ∈ ds_all := ds_in 301 rfl
theorem iw_302 : Cond.methodLink RL 54 yX5_init ∈ ds_all := ds_in 302 rfl
theorem iw_303 : Cond.instanceMethod yX5_init ∈ ds_all := ds_in 303 rfl
theorem iw_304 : Cond.methodLink RL 55 yL_size ∈ ds_all := ds_in 304 rfl
theorem iw_305 : Cond.initialized RL ∈ ds_all := ds_in 305 rfl
theorem iw_306 : Cond.static yL_size ∈ ds_all := ds_in 306 rfl
theorem iw_307 : Cond.methodLink RL 60 yX5_size ∈ ds_all := ds_in 307 rfl
theorem iw_308 : Cond.instanceMethod yX5_size ∈ ds_all := ds_in 308 rfl
theorem iw_309 : Cond.selects RX5 yX5_size yX5_size ∈ ds_all := ds_in 309 rfl
theorem iw_310 : Cond.methodLink RL 61 yX5_thrown ∈ ds_all := ds_in 310 rfl
theorem iw_311 : Cond.instanceMethod yX5_thrown ∈ ds_all := ds_in 311 rfl
theorem iw_312 : Cond.selects RX5 yX5_thrown yX5_thrown ∈ ds_all := ds_in 312 rfl
theorem iw_313 : Cond.constantLong RL 65 (4294967295) ∈ ds_all := ds_in 313 rfl
theorem iw_314 : Cond.methodLink RL 67 yL_put ∈ ds_all := ds_in 314 rfl
theorem iw_315 : Cond.static yL_put ∈ ds_all := ds_in 315 rfl
theorem iw_316 : Cond.methodLink RL 70 yX5_put ∈ ds_all := ds_in 316 rfl
theorem iw_317 : Cond.instanceMethod yX5_put ∈ ds_all := ds_in 317 rfl
theorem iw_318 : Cond.selects RX5 yX5_put yX5_put ∈ ds_all := ds_in 318 rfl
theorem iw_319 : Cond.methodLink RL 71 yL_move ∈ ds_all := ds_in 319 rfl
theorem iw_320 : Cond.static yL_move ∈ ds_all := ds_in 320 rfl
theorem iw_321 : Cond.methodLink RL 74 yX5_move ∈ ds_all := ds_in 321 rfl
theorem iw_322 : Cond.instanceMethod yX5_move ∈ ds_all := ds_in 322 rfl
theorem iw_323 : Cond.selects RX5 yX5_move yX5_move ∈ ds_all := ds_in 323 rfl
theorem iw_324 : Cond.methodLink RL 75 yL_octet ∈ ds_all := ds_in 324 rfl
theorem iw_325 : Cond.static yL_octet ∈ ds_all := ds_in 325 rfl
theorem iw_326 : Cond.methodLink RL 78 yX5_octet ∈ ds_all := ds_in 326 rfl
theorem iw_327 : Cond.instanceMethod yX5_octet ∈ ds_all := ds_in 327 rfl
theorem iw_328 : Cond.selects RX5 yX5_octet yX5_octet ∈ ds_all := ds_in 328 rfl
theorem iw_329 : Cond.methodLink RL 79 yL_weak ∈ ds_all := ds_in 329 rfl
theorem iw_330 : Cond.static yL_weak ∈ ds_all := ds_in 330 rfl
theorem iw_331 : Cond.methodLink RL 82 yX5_weak ∈ ds_all := ds_in 331 rfl
theorem iw_332 : Cond.instanceMethod yX5_weak ∈ ds_all := ds_in 332 rfl
theorem iw_333 : Cond.selects RX5 yX5_weak yX5_weak ∈ ds_all := ds_in 333 rfl
theorem iw_334 : Cond.methodLink RL 83 yL_strong ∈ ds_all := ds_in 334 rfl
theorem iw_335 : Cond.static yL_strong ∈ ds_all := ds_in 335 rfl
theorem iw_336 : Cond.methodLink RL 85 yX5_strong ∈ ds_all := ds_in 336 rfl
theorem iw_337 : Cond.instanceMethod yX5_strong ∈ ds_all := ds_in 337 rfl
theorem iw_338 : Cond.selects RX5 yX5_strong yX5_strong ∈ ds_all := ds_in 338 rfl
theorem iw_339 : Cond.methodLink RL 86 yL_find ∈ ds_all := ds_in 339 rfl
theorem iw_340 : Cond.static yL_find ∈ ds_all := ds_in 340 rfl
theorem iw_341 : Cond.methodLink RL 89 yX5_find ∈ ds_all := ds_in 341 rfl
theorem iw_342 : Cond.instanceMethod yX5_find ∈ ds_all := ds_in 342 rfl
theorem iw_343 : Cond.selects RX5 yX5_find yX5_find ∈ ds_all := ds_in 343 rfl
theorem iw_344 : Cond.methodLink RL 90 yL_delta ∈ ds_all := ds_in 344 rfl
theorem iw_345 : Cond.static yL_delta ∈ ds_all := ds_in 345 rfl
theorem iw_346 : Cond.methodLink RL 92 yX5_delta ∈ ds_all := ds_in 346 rfl
theorem iw_347 : Cond.instanceMethod yX5_delta ∈ ds_all := ds_in 347 rfl
theorem iw_348 : Cond.selects RX5 yX5_delta yX5_delta ∈ ds_all := ds_in 348 rfl
theorem iw_349 : Cond.methodLink RL 93 yL_token ∈ ds_all := ds_in 349 rfl
theorem iw_350 : Cond.static yL_token ∈ ds_all := ds_in 350 rfl
theorem iw_351 : Cond.methodLink RL 95 yX5_token ∈ ds_all := ds_in 351 rfl
theorem iw_352 : Cond.instanceMethod yX5_token ∈ ds_all := ds_in 352 rfl
theorem iw_353 : Cond.selects RX5 yX5_token yX5_token ∈ ds_all := ds_in 353 rfl
theorem iw_354 : Cond.methodLink RL 96 yX4_sent ∈ ds_all := ds_in 354 rfl
theorem iw_355 : Cond.instanceMethod yX4_sent ∈ ds_all := ds_in 355 rfl
theorem iw_356 : Cond.selects RX4 yX4_sent yX4_sent ∈ ds_all := ds_in 356 rfl
theorem iw_357 : Cond.methodLink RL 99 yX5_sent ∈ ds_all := ds_in 357 rfl
theorem iw_358 : Cond.instanceMethod yX5_sent ∈ ds_all := ds_in 358 rfl
theorem iw_359 : Cond.selects RX5 yX5_sent yX5_sent ∈ ds_all := ds_in 359 rfl
theorem iw_360 : Cond.methodLink RL 100 yX4_patch ∈ ds_all := ds_in 360 rfl
theorem iw_361 : Cond.instanceMethod yX4_patch ∈ ds_all := ds_in 361 rfl
theorem iw_362 : Cond.selects RX4 yX4_patch yX4_patch ∈ ds_all := ds_in 362 rfl
theorem iw_363 : Cond.methodLink RL 103 yX5_patch ∈ ds_all := ds_in 363 rfl
theorem iw_364 : Cond.instanceMethod yX5_patch ∈ ds_all := ds_in 364 rfl
theorem iw_365 : Cond.selects RX5 yX5_patch yX5_patch ∈ ds_all := ds_in 365 rfl
theorem iw_366 : Cond.methodLink RL 104 yX4_same ∈ ds_all := ds_in 366 rfl
theorem iw_367 : Cond.instanceMethod yX4_same ∈ ds_all := ds_in 367 rfl
theorem iw_368 : Cond.selects RX4 yX4_same yX4_same ∈ ds_all := ds_in 368 rfl
theorem iw_369 : Cond.methodLink RL 108 yX5_same ∈ ds_all := ds_in 369 rfl
theorem iw_370 : Cond.instanceMethod yX5_same ∈ ds_all := ds_in 370 rfl
theorem iw_371 : Cond.selects RX5 yX5_same yX5_same ∈ ds_all := ds_in 371 rfl
theorem iw_372 : Cond.methodLink RL 109 yL_count ∈ ds_all := ds_in 372 rfl
theorem iw_373 : Cond.static yL_count ∈ ds_all := ds_in 373 rfl
theorem iw_374 : Cond.methodLink RL 112 yX5_count ∈ ds_all := ds_in 374 rfl
theorem iw_375 : Cond.instanceMethod yX5_count ∈ ds_all := ds_in 375 rfl
theorem iw_376 : Cond.selects RX5 yX5_count yX5_count ∈ ds_all := ds_in 376 rfl
theorem iw_377 : Cond.classLink RL 13 "java/lang/IllegalArgumentException" ∈ ds_all := ds_in 377 rfl
theorem iw_378 : Cond.classLink RL 19 "java/lang/IndexOutOfBoundsException" ∈ ds_all := ds_in 378 rfl
def ds_nW : List Cond := [
  Cond.fieldLinkNest RX4 82 "DeltaDesk$Row" "octets" "[I" "DeltaDesk",
  Cond.fieldLinkNest RX4 104 "DeltaDesk$Row" "length" "I" "DeltaDesk",
  Cond.fieldLinkNest RX4 137 "DeltaDesk$Blocks" "lastSize" "I" "DeltaDesk",
  Cond.fieldLinkNest RX4 147 "DeltaDesk$Tokens" "count" "I" "DeltaDesk",
  Cond.fieldLinkNest RX4 154 "DeltaDesk$Tokens" "kinds" "[I" "DeltaDesk",
  Cond.fieldLinkNest RX4 157 "DeltaDesk$Tokens" "firsts" "[I" "DeltaDesk",
  Cond.fieldLinkNest RX4 160 "DeltaDesk$Tokens" "lengths" "[I" "DeltaDesk",
  Cond.fieldLinkNest RX4 200 "DeltaDesk$Blocks" "count" "I" "DeltaDesk",
  Cond.fieldLinkNest RX4 205 "DeltaDesk$Blocks" "weaks" "[I" "DeltaDesk",
  Cond.fieldLinkNest RX4 208 "DeltaDesk$Blocks" "strongs" "[J" "DeltaDesk",
  Cond.fieldLinkNest RX0 33 "DeltaDesk$Row" "length" "I" "DeltaDesk",
  Cond.fieldLinkNest RX3 29 "DeltaDesk$Row" "length" "I" "DeltaDesk",
  Cond.fieldLinkNest RX3 54 "DeltaDesk$Row" "octets" "[I" "DeltaDesk",
  Cond.methodLinkNest RX4 11 yX1_init "DeltaDesk",
  Cond.methodLinkNest RX4 24 yX0_init "DeltaDesk",
  Cond.methodLinkNest RX4 33 yX3_init "DeltaDesk",
  Cond.methodLinkNest RX4 43 yX2_init "DeltaDesk",
  Cond.methodLinkNest RX4 67 yX1_resize "DeltaDesk",
  Cond.methodLinkNest RX4 74 yX1_write "DeltaDesk",
  Cond.methodLinkNest RX4 92 yX1_weakSum "DeltaDesk",
  Cond.methodLinkNest RX4 96 yX1_strongSum "DeltaDesk",
  Cond.methodLinkNest RX4 131 yX0_cut "DeltaDesk",
  Cond.methodLinkNest RX4 134 yX3_open "DeltaDesk",
  Cond.methodLinkNest RX4 140 yX2_clear "DeltaDesk",
  Cond.methodLinkNest RX4 163 yX1_append "DeltaDesk",
  Cond.methodLinkNest RX4 180 yX3_moveTo "DeltaDesk",
  Cond.methodLinkNest RX4 183 yX3_shows "DeltaDesk",
  Cond.methodLinkNest RX4 191 yX2_add "DeltaDesk",
  Cond.methodLinkNest RX4 194 yX0_start "DeltaDesk",
  Cond.methodLinkNest RX4 198 yX0_length "DeltaDesk",
  Cond.methodLinkNest RX0 38 yX4_blockCount "DeltaDesk",
  Cond.methodLinkNest RX0 48 yX1_weakSum "DeltaDesk",
  Cond.methodLinkNest RX0 51 yX1_strongSum "DeltaDesk",
  Cond.methodLinkNest RX3 47 yX1_joinWeak "DeltaDesk",
  Cond.methodLinkNest RX3 62 yX1_strongSum "DeltaDesk",
  Cond.castable "java/lang/IllegalArgumentException" "java/lang/IllegalArgumentException",
  Cond.castable "java/lang/IndexOutOfBoundsException" "java/lang/IndexOutOfBoundsException",
  Cond.declares ⟨"java/lang/RuntimeException", "<init>", "(Ljava/lang/String;)V"⟩,
  Cond.declares ⟨"java/lang/Exception", "<init>", "(Ljava/lang/String;)V"⟩,
  Cond.declares ⟨"java/lang/Throwable", "<init>", "(Ljava/lang/String;)V"⟩]
theorem nw_0 : Cond.fieldLinkNest RX4 82 "DeltaDesk$Row" "octets" "[I" "DeltaDesk" ∈ ds_nW := List.mem_of_getElem? (i := 0) rfl
theorem nw_1 : Cond.fieldLinkNest RX4 104 "DeltaDesk$Row" "length" "I" "DeltaDesk" ∈ ds_nW := List.mem_of_getElem? (i := 1) rfl
theorem nw_2 : Cond.fieldLinkNest RX4 137 "DeltaDesk$Blocks" "lastSize" "I" "DeltaDesk" ∈ ds_nW := List.mem_of_getElem? (i := 2) rfl
theorem nw_3 : Cond.fieldLinkNest RX4 147 "DeltaDesk$Tokens" "count" "I" "DeltaDesk" ∈ ds_nW := List.mem_of_getElem? (i := 3) rfl
theorem nw_4 : Cond.fieldLinkNest RX4 154 "DeltaDesk$Tokens" "kinds" "[I" "DeltaDesk" ∈ ds_nW := List.mem_of_getElem? (i := 4) rfl
theorem nw_5 : Cond.fieldLinkNest RX4 157 "DeltaDesk$Tokens" "firsts" "[I" "DeltaDesk" ∈ ds_nW := List.mem_of_getElem? (i := 5) rfl
theorem nw_6 : Cond.fieldLinkNest RX4 160 "DeltaDesk$Tokens" "lengths" "[I" "DeltaDesk" ∈ ds_nW := List.mem_of_getElem? (i := 6) rfl
theorem nw_7 : Cond.fieldLinkNest RX4 200 "DeltaDesk$Blocks" "count" "I" "DeltaDesk" ∈ ds_nW := List.mem_of_getElem? (i := 7) rfl
theorem nw_8 : Cond.fieldLinkNest RX4 205 "DeltaDesk$Blocks" "weaks" "[I" "DeltaDesk" ∈ ds_nW := List.mem_of_getElem? (i := 8) rfl
theorem nw_9 : Cond.fieldLinkNest RX4 208 "DeltaDesk$Blocks" "strongs" "[J" "DeltaDesk" ∈ ds_nW := List.mem_of_getElem? (i := 9) rfl
theorem nw_10 : Cond.fieldLinkNest RX0 33 "DeltaDesk$Row" "length" "I" "DeltaDesk" ∈ ds_nW := List.mem_of_getElem? (i := 10) rfl
theorem nw_11 : Cond.fieldLinkNest RX3 29 "DeltaDesk$Row" "length" "I" "DeltaDesk" ∈ ds_nW := List.mem_of_getElem? (i := 11) rfl
theorem nw_12 : Cond.fieldLinkNest RX3 54 "DeltaDesk$Row" "octets" "[I" "DeltaDesk" ∈ ds_nW := List.mem_of_getElem? (i := 12) rfl
theorem nw_13 : Cond.methodLinkNest RX4 11 yX1_init "DeltaDesk" ∈ ds_nW := List.mem_of_getElem? (i := 13) rfl
theorem nw_14 : Cond.methodLinkNest RX4 24 yX0_init "DeltaDesk" ∈ ds_nW := List.mem_of_getElem? (i := 14) rfl
theorem nw_15 : Cond.methodLinkNest RX4 33 yX3_init "DeltaDesk" ∈ ds_nW := List.mem_of_getElem? (i := 15) rfl
theorem nw_16 : Cond.methodLinkNest RX4 43 yX2_init "DeltaDesk" ∈ ds_nW := List.mem_of_getElem? (i := 16) rfl
theorem nw_17 : Cond.methodLinkNest RX4 67 yX1_resize "DeltaDesk" ∈ ds_nW := List.mem_of_getElem? (i := 17) rfl
theorem nw_18 : Cond.methodLinkNest RX4 74 yX1_write "DeltaDesk" ∈ ds_nW := List.mem_of_getElem? (i := 18) rfl
theorem nw_19 : Cond.methodLinkNest RX4 92 yX1_weakSum "DeltaDesk" ∈ ds_nW := List.mem_of_getElem? (i := 19) rfl
theorem nw_20 : Cond.methodLinkNest RX4 96 yX1_strongSum "DeltaDesk" ∈ ds_nW := List.mem_of_getElem? (i := 20) rfl
theorem nw_21 : Cond.methodLinkNest RX4 131 yX0_cut "DeltaDesk" ∈ ds_nW := List.mem_of_getElem? (i := 21) rfl
theorem nw_22 : Cond.methodLinkNest RX4 134 yX3_open "DeltaDesk" ∈ ds_nW := List.mem_of_getElem? (i := 22) rfl
theorem nw_23 : Cond.methodLinkNest RX4 140 yX2_clear "DeltaDesk" ∈ ds_nW := List.mem_of_getElem? (i := 23) rfl
theorem nw_24 : Cond.methodLinkNest RX4 163 yX1_append "DeltaDesk" ∈ ds_nW := List.mem_of_getElem? (i := 24) rfl
theorem nw_25 : Cond.methodLinkNest RX4 180 yX3_moveTo "DeltaDesk" ∈ ds_nW := List.mem_of_getElem? (i := 25) rfl
theorem nw_26 : Cond.methodLinkNest RX4 183 yX3_shows "DeltaDesk" ∈ ds_nW := List.mem_of_getElem? (i := 26) rfl
theorem nw_27 : Cond.methodLinkNest RX4 191 yX2_add "DeltaDesk" ∈ ds_nW := List.mem_of_getElem? (i := 27) rfl
theorem nw_28 : Cond.methodLinkNest RX4 194 yX0_start "DeltaDesk" ∈ ds_nW := List.mem_of_getElem? (i := 28) rfl
theorem nw_29 : Cond.methodLinkNest RX4 198 yX0_length "DeltaDesk" ∈ ds_nW := List.mem_of_getElem? (i := 29) rfl
theorem nw_30 : Cond.methodLinkNest RX0 38 yX4_blockCount "DeltaDesk" ∈ ds_nW := List.mem_of_getElem? (i := 30) rfl
theorem nw_31 : Cond.methodLinkNest RX0 48 yX1_weakSum "DeltaDesk" ∈ ds_nW := List.mem_of_getElem? (i := 31) rfl
theorem nw_32 : Cond.methodLinkNest RX0 51 yX1_strongSum "DeltaDesk" ∈ ds_nW := List.mem_of_getElem? (i := 32) rfl
theorem nw_33 : Cond.methodLinkNest RX3 47 yX1_joinWeak "DeltaDesk" ∈ ds_nW := List.mem_of_getElem? (i := 33) rfl
theorem nw_34 : Cond.methodLinkNest RX3 62 yX1_strongSum "DeltaDesk" ∈ ds_nW := List.mem_of_getElem? (i := 34) rfl
theorem nw_35 : Cond.castable "java/lang/IllegalArgumentException" "java/lang/IllegalArgumentException" ∈ ds_nW := List.mem_of_getElem? (i := 35) rfl
theorem nw_36 : Cond.castable "java/lang/IndexOutOfBoundsException" "java/lang/IndexOutOfBoundsException" ∈ ds_nW := List.mem_of_getElem? (i := 36) rfl
theorem nw_37 : Cond.declares ⟨"java/lang/RuntimeException", "<init>", "(Ljava/lang/String;)V"⟩ ∈ ds_nW := List.mem_of_getElem? (i := 37) rfl
theorem nw_38 : Cond.declares ⟨"java/lang/Exception", "<init>", "(Ljava/lang/String;)V"⟩ ∈ ds_nW := List.mem_of_getElem? (i := 38) rfl
theorem nw_39 : Cond.declares ⟨"java/lang/Throwable", "<init>", "(Ljava/lang/String;)V"⟩ ∈ ds_nW := List.mem_of_getElem? (i := 39) rfl
def ds_tx : List (Nat × String) := [(58, "a row has 0 to 1200 octets"), (113, "there is no such block"), (116, "the place is below 0"), (150, "a token tells 0, 1 or 2"), (152, "there is no such token"), (166, "counts are 0, 1 and 2"), (168, "rows are 0 and 1"), (170, "there is no such octet"), (172, "there are not so many octets"), (174, "a block has 4 to 256 octets"), (176, "bits are 0 to 64")]
theorem tx_0 : (58, "a row has 0 to 1200 octets") ∈ ds_tx := List.mem_of_getElem? (i := 0) rfl
theorem tx_1 : (113, "there is no such block") ∈ ds_tx := List.mem_of_getElem? (i := 1) rfl
theorem tx_2 : (116, "the place is below 0") ∈ ds_tx := List.mem_of_getElem? (i := 2) rfl
theorem tx_3 : (150, "a token tells 0, 1 or 2") ∈ ds_tx := List.mem_of_getElem? (i := 3) rfl
theorem tx_4 : (152, "there is no such token") ∈ ds_tx := List.mem_of_getElem? (i := 4) rfl
theorem tx_5 : (166, "counts are 0, 1 and 2") ∈ ds_tx := List.mem_of_getElem? (i := 5) rfl
theorem tx_6 : (168, "rows are 0 and 1") ∈ ds_tx := List.mem_of_getElem? (i := 6) rfl
theorem tx_7 : (170, "there is no such octet") ∈ ds_tx := List.mem_of_getElem? (i := 7) rfl
theorem tx_8 : (172, "there are not so many octets") ∈ ds_tx := List.mem_of_getElem? (i := 8) rfl
theorem tx_9 : (174, "a block has 4 to 256 octets") ∈ ds_tx := List.mem_of_getElem? (i := 9) rfl
theorem tx_10 : (176, "bits are 0 to 64") ∈ ds_tx := List.mem_of_getElem? (i := 10) rfl
def wsX4_init : List Cond := Cond.code yX4_init cX4_init 1 none :: ds_all
theorem g_X4_init : GoodIn ds_all wsX4_init := ds_goodIn iw_0
theorem hd_X4_init : yX4_init.cls ≠ "java/lang/invoke/MethodHandle" ∧ yX4_init.cls ≠ "java/lang/invoke/VarHandle" ∧ (parseMethodDescriptor yX4_init.desc).map (fun d => d.parameters.length) = some 0 := by decide +kernel
def wsX4_size : List Cond := Cond.code yX4_size cX4_size 3 none :: ds_all
theorem g_X4_size : GoodIn ds_all wsX4_size := ds_goodIn iw_28
theorem hd_X4_size : yX4_size.cls ≠ "java/lang/invoke/MethodHandle" ∧ yX4_size.cls ≠ "java/lang/invoke/VarHandle" ∧ (parseMethodDescriptor yX4_size.desc).map (fun d => d.parameters.length) = some 2 := by decide +kernel
def wsX4_put : List Cond := Cond.code yX4_put cX4_put 5 none :: ds_all
theorem g_X4_put : GoodIn ds_all wsX4_put := ds_goodIn iw_39
theorem hd_X4_put : yX4_put.cls ≠ "java/lang/invoke/MethodHandle" ∧ yX4_put.cls ≠ "java/lang/invoke/VarHandle" ∧ (parseMethodDescriptor yX4_put.desc).map (fun d => d.parameters.length) = some 3 := by decide +kernel
def wsX4_move : List Cond := Cond.code yX4_move cX4_move 6 none :: ds_all
theorem g_X4_move : GoodIn ds_all wsX4_move := ds_goodIn iw_44
theorem hd_X4_move : yX4_move.cls ≠ "java/lang/invoke/MethodHandle" ∧ yX4_move.cls ≠ "java/lang/invoke/VarHandle" ∧ (parseMethodDescriptor yX4_move.desc).map (fun d => d.parameters.length) = some 5 := by decide +kernel
def wsX4_octet : List Cond := Cond.code yX4_octet cX4_octet 3 (some .int) :: ds_all
theorem g_X4_octet : GoodIn ds_all wsX4_octet := ds_goodIn iw_51
theorem hd_X4_octet : yX4_octet.cls ≠ "java/lang/invoke/MethodHandle" ∧ yX4_octet.cls ≠ "java/lang/invoke/VarHandle" ∧ (parseMethodDescriptor yX4_octet.desc).map (fun d => d.parameters.length) = some 2 := by decide +kernel
def wsX4_weak : List Cond := Cond.code yX4_weak cX4_weak 4 (some .int) :: ds_all
theorem g_X4_weak : GoodIn ds_all wsX4_weak := ds_goodIn iw_52
theorem hd_X4_weak : yX4_weak.cls ≠ "java/lang/invoke/MethodHandle" ∧ yX4_weak.cls ≠ "java/lang/invoke/VarHandle" ∧ (parseMethodDescriptor yX4_weak.desc).map (fun d => d.parameters.length) = some 3 := by decide +kernel
def wsX4_strong : List Cond := Cond.code yX4_strong cX4_strong 4 (some .long) :: ds_all
theorem g_X4_strong : GoodIn ds_all wsX4_strong := ds_goodIn iw_55
theorem hd_X4_strong : yX4_strong.cls ≠ "java/lang/invoke/MethodHandle" ∧ yX4_strong.cls ≠ "java/lang/invoke/VarHandle" ∧ (parseMethodDescriptor yX4_strong.desc).map (fun d => d.parameters.length) = some 3 := by decide +kernel
def wsX4_find : List Cond := Cond.code yX4_find cX4_find 5 (some .int) :: ds_all
theorem g_X4_find : GoodIn ds_all wsX4_find := ds_goodIn iw_58
theorem hd_X4_find : yX4_find.cls ≠ "java/lang/invoke/MethodHandle" ∧ yX4_find.cls ≠ "java/lang/invoke/VarHandle" ∧ (parseMethodDescriptor yX4_find.desc).map (fun d => d.parameters.length) = some 4 := by decide +kernel
def wsX4_delta : List Cond := Cond.code yX4_delta cX4_delta 3 (some .int) :: ds_all
theorem g_X4_delta : GoodIn ds_all wsX4_delta := ds_goodIn iw_74
theorem hd_X4_delta : yX4_delta.cls ≠ "java/lang/invoke/MethodHandle" ∧ yX4_delta.cls ≠ "java/lang/invoke/VarHandle" ∧ (parseMethodDescriptor yX4_delta.desc).map (fun d => d.parameters.length) = some 2 := by decide +kernel
def wsX4_token : List Cond := Cond.code yX4_token cX4_token 3 (some .int) :: ds_all
theorem g_X4_token : GoodIn ds_all wsX4_token := ds_goodIn iw_84
theorem hd_X4_token : yX4_token.cls ≠ "java/lang/invoke/MethodHandle" ∧ yX4_token.cls ≠ "java/lang/invoke/VarHandle" ∧ (parseMethodDescriptor yX4_token.desc).map (fun d => d.parameters.length) = some 2 := by decide +kernel
def wsX4_sent : List Cond := Cond.code yX4_sent cX4_sent 3 (some .int) :: ds_all
theorem g_X4_sent : GoodIn ds_all wsX4_sent := ds_goodIn iw_85
theorem hd_X4_sent : yX4_sent.cls ≠ "java/lang/invoke/MethodHandle" ∧ yX4_sent.cls ≠ "java/lang/invoke/VarHandle" ∧ (parseMethodDescriptor yX4_sent.desc).map (fun d => d.parameters.length) = some 0 := by decide +kernel
def wsX4_patch : List Cond := Cond.code yX4_patch cX4_patch 1 (some .int) :: ds_all
theorem g_X4_patch : GoodIn ds_all wsX4_patch := ds_goodIn iw_86
theorem hd_X4_patch : yX4_patch.cls ≠ "java/lang/invoke/MethodHandle" ∧ yX4_patch.cls ≠ "java/lang/invoke/VarHandle" ∧ (parseMethodDescriptor yX4_patch.desc).map (fun d => d.parameters.length) = some 0 := by decide +kernel
def wsX4_same : List Cond := Cond.code yX4_same cX4_same 2 (some .boolean) :: ds_all
theorem g_X4_same : GoodIn ds_all wsX4_same := ds_goodIn iw_89
theorem hd_X4_same : yX4_same.cls ≠ "java/lang/invoke/MethodHandle" ∧ yX4_same.cls ≠ "java/lang/invoke/VarHandle" ∧ (parseMethodDescriptor yX4_same.desc).map (fun d => d.parameters.length) = some 0 := by decide +kernel
def wsX4_count : List Cond := Cond.code yX4_count cX4_count 2 (some .int) :: ds_all
theorem g_X4_count : GoodIn ds_all wsX4_count := ds_goodIn iw_90
theorem hd_X4_count : yX4_count.cls ≠ "java/lang/invoke/MethodHandle" ∧ yX4_count.cls ≠ "java/lang/invoke/VarHandle" ∧ (parseMethodDescriptor yX4_count.desc).map (fun d => d.parameters.length) = some 1 := by decide +kernel
def wsX4_row : List Cond := Cond.code yX4_row cX4_row 2 (some (.object "DeltaDesk$Row")) :: ds_all
theorem g_X4_row : GoodIn ds_all wsX4_row := ds_goodIn iw_91
theorem hd_X4_row : yX4_row.cls ≠ "java/lang/invoke/MethodHandle" ∧ yX4_row.cls ≠ "java/lang/invoke/VarHandle" ∧ (parseMethodDescriptor yX4_row.desc).map (fun d => d.parameters.length) = some 1 := by decide +kernel
def wsX4_checkRow : List Cond := Cond.code yX4_checkRow cX4_checkRow 1 none :: ds_all
theorem g_X4_checkRow : GoodIn ds_all wsX4_checkRow := ds_goodIn iw_92
theorem hd_X4_checkRow : yX4_checkRow.cls ≠ "java/lang/invoke/MethodHandle" ∧ yX4_checkRow.cls ≠ "java/lang/invoke/VarHandle" ∧ (parseMethodDescriptor yX4_checkRow.desc).map (fun d => d.parameters.length) = some 1 := by decide +kernel
def wsX4_checkOctet : List Cond := Cond.code yX4_checkOctet cX4_checkOctet 2 none :: ds_all
theorem g_X4_checkOctet : GoodIn ds_all wsX4_checkOctet := ds_goodIn iw_93
theorem hd_X4_checkOctet : yX4_checkOctet.cls ≠ "java/lang/invoke/MethodHandle" ∧ yX4_checkOctet.cls ≠ "java/lang/invoke/VarHandle" ∧ (parseMethodDescriptor yX4_checkOctet.desc).map (fun d => d.parameters.length) = some 2 := by decide +kernel
def wsX4_checkRange : List Cond := Cond.code yX4_checkRange cX4_checkRange 3 none :: ds_all
theorem g_X4_checkRange : GoodIn ds_all wsX4_checkRange := ds_goodIn iw_94
theorem hd_X4_checkRange : yX4_checkRange.cls ≠ "java/lang/invoke/MethodHandle" ∧ yX4_checkRange.cls ≠ "java/lang/invoke/VarHandle" ∧ (parseMethodDescriptor yX4_checkRange.desc).map (fun d => d.parameters.length) = some 3 := by decide +kernel
def wsX4_checkBlocks : List Cond := Cond.code yX4_checkBlocks cX4_checkBlocks 2 none :: ds_all
theorem g_X4_checkBlocks : GoodIn ds_all wsX4_checkBlocks := ds_goodIn iw_95
theorem hd_X4_checkBlocks : yX4_checkBlocks.cls ≠ "java/lang/invoke/MethodHandle" ∧ yX4_checkBlocks.cls ≠ "java/lang/invoke/VarHandle" ∧ (parseMethodDescriptor yX4_checkBlocks.desc).map (fun d => d.parameters.length) = some 2 := by decide +kernel
def wsX4_blockCount : List Cond := Cond.code yX4_blockCount cX4_blockCount 2 (some .int) :: ds_all
theorem g_X4_blockCount : GoodIn ds_all wsX4_blockCount := ds_goodIn iw_96
theorem hd_X4_blockCount : yX4_blockCount.cls ≠ "java/lang/invoke/MethodHandle" ∧ yX4_blockCount.cls ≠ "java/lang/invoke/VarHandle" ∧ (parseMethodDescriptor yX4_blockCount.desc).map (fun d => d.parameters.length) = some 2 := by decide +kernel
def wsX4_strongMask : List Cond := Cond.code yX4_strongMask cX4_strongMask 1 (some .long) :: ds_all
theorem g_X4_strongMask : GoodIn ds_all wsX4_strongMask := ds_goodIn iw_97
theorem hd_X4_strongMask : yX4_strongMask.cls ≠ "java/lang/invoke/MethodHandle" ∧ yX4_strongMask.cls ≠ "java/lang/invoke/VarHandle" ∧ (parseMethodDescriptor yX4_strongMask.desc).map (fun d => d.parameters.length) = some 1 := by decide +kernel
def wsX4_firstPlace : List Cond := Cond.code yX4_firstPlace cX4_firstPlace 10 (some .int) :: ds_all
theorem g_X4_firstPlace : GoodIn ds_all wsX4_firstPlace := ds_goodIn iw_99
theorem hd_X4_firstPlace : yX4_firstPlace.cls ≠ "java/lang/invoke/MethodHandle" ∧ yX4_firstPlace.cls ≠ "java/lang/invoke/VarHandle" ∧ (parseMethodDescriptor yX4_firstPlace.desc).map (fun d => d.parameters.length) = some 4 := by decide +kernel
def wsX4_makeDelta : List Cond := Cond.code yX4_makeDelta cX4_makeDelta 7 none :: ds_all
theorem g_X4_makeDelta : GoodIn ds_all wsX4_makeDelta := ds_goodIn iw_104
theorem hd_X4_makeDelta : yX4_makeDelta.cls ≠ "java/lang/invoke/MethodHandle" ∧ yX4_makeDelta.cls ≠ "java/lang/invoke/VarHandle" ∧ (parseMethodDescriptor yX4_makeDelta.desc).map (fun d => d.parameters.length) = some 1 := by decide +kernel
def wsX4_blockAt : List Cond := Cond.code yX4_blockAt cX4_blockAt 6 (some .int) :: ds_all
theorem g_X4_blockAt : GoodIn ds_all wsX4_blockAt := ds_goodIn iw_114
theorem hd_X4_blockAt : yX4_blockAt.cls ≠ "java/lang/invoke/MethodHandle" ∧ yX4_blockAt.cls ≠ "java/lang/invoke/VarHandle" ∧ (parseMethodDescriptor yX4_blockAt.desc).map (fun d => d.parameters.length) = some 3 := by decide +kernel
def wsX4_fits : List Cond := Cond.code yX4_fits cX4_fits 5 (some .boolean) :: ds_all
theorem g_X4_fits : GoodIn ds_all wsX4_fits := ds_goodIn iw_118
theorem hd_X4_fits : yX4_fits.cls ≠ "java/lang/invoke/MethodHandle" ∧ yX4_fits.cls ≠ "java/lang/invoke/VarHandle" ∧ (parseMethodDescriptor yX4_fits.desc).map (fun d => d.parameters.length) = some 2 := by decide +kernel
def wsX5_init : List Cond := Cond.code yX5_init cX5_init 1 none :: ds_all
theorem g_X5_init : GoodIn ds_all wsX5_init := ds_goodIn iw_119
theorem hd_X5_init : yX5_init.cls ≠ "java/lang/invoke/MethodHandle" ∧ yX5_init.cls ≠ "java/lang/invoke/VarHandle" ∧ (parseMethodDescriptor yX5_init.desc).map (fun d => d.parameters.length) = some 0 := by decide +kernel
def wsX5_thrown : List Cond := Cond.code yX5_thrown cX5_thrown 1 (some .int) :: ds_all
theorem g_X5_thrown : GoodIn ds_all wsX5_thrown := ds_goodIn iw_130
theorem hd_X5_thrown : yX5_thrown.cls ≠ "java/lang/invoke/MethodHandle" ∧ yX5_thrown.cls ≠ "java/lang/invoke/VarHandle" ∧ (parseMethodDescriptor yX5_thrown.desc).map (fun d => d.parameters.length) = some 0 := by decide +kernel
def wsX5_fails : List Cond := Cond.code yX5_fails cX5_fails 3 (some .boolean) :: ds_all
theorem g_X5_fails : GoodIn ds_all wsX5_fails := ds_goodIn iw_132
theorem hd_X5_fails : yX5_fails.cls ≠ "java/lang/invoke/MethodHandle" ∧ yX5_fails.cls ≠ "java/lang/invoke/VarHandle" ∧ (parseMethodDescriptor yX5_fails.desc).map (fun d => d.parameters.length) = some 2 := by decide +kernel
def wsX5_no : List Cond := Cond.code yX5_no cX5_no 1 (some .boolean) :: ds_all
theorem g_X5_no : GoodIn ds_all wsX5_no := ds_goodIn iw_133
theorem hd_X5_no : yX5_no.cls ≠ "java/lang/invoke/MethodHandle" ∧ yX5_no.cls ≠ "java/lang/invoke/VarHandle" ∧ (parseMethodDescriptor yX5_no.desc).map (fun d => d.parameters.length) = some 1 := by decide +kernel
def wsX5_size : List Cond := Cond.code yX5_size cX5_size 4 none :: ds_all
theorem g_X5_size : GoodIn ds_all wsX5_size := ds_goodIn iw_134
theorem hd_X5_size : yX5_size.cls ≠ "java/lang/invoke/MethodHandle" ∧ yX5_size.cls ≠ "java/lang/invoke/VarHandle" ∧ (parseMethodDescriptor yX5_size.desc).map (fun d => d.parameters.length) = some 2 := by decide +kernel
def wsX5_put : List Cond := Cond.code yX5_put cX5_put 6 none :: ds_all
theorem g_X5_put : GoodIn ds_all wsX5_put := ds_goodIn iw_141
theorem hd_X5_put : yX5_put.cls ≠ "java/lang/invoke/MethodHandle" ∧ yX5_put.cls ≠ "java/lang/invoke/VarHandle" ∧ (parseMethodDescriptor yX5_put.desc).map (fun d => d.parameters.length) = some 3 := by decide +kernel
def wsX5_lacks : List Cond := Cond.code yX5_lacks cX5_lacks 4 (some .boolean) :: ds_all
theorem g_X5_lacks : GoodIn ds_all wsX5_lacks := ds_goodIn iw_142
theorem hd_X5_lacks : yX5_lacks.cls ≠ "java/lang/invoke/MethodHandle" ∧ yX5_lacks.cls ≠ "java/lang/invoke/VarHandle" ∧ (parseMethodDescriptor yX5_lacks.desc).map (fun d => d.parameters.length) = some 3 := by decide +kernel
def wsX5_move : List Cond := Cond.code yX5_move cX5_move 7 none :: ds_all
theorem g_X5_move : GoodIn ds_all wsX5_move := ds_goodIn iw_143
theorem hd_X5_move : yX5_move.cls ≠ "java/lang/invoke/MethodHandle" ∧ yX5_move.cls ≠ "java/lang/invoke/VarHandle" ∧ (parseMethodDescriptor yX5_move.desc).map (fun d => d.parameters.length) = some 5 := by decide +kernel
def wsX5_octet : List Cond := Cond.code yX5_octet cX5_octet 3 (some .int) :: ds_all
theorem g_X5_octet : GoodIn ds_all wsX5_octet := ds_goodIn iw_147
theorem hd_X5_octet : yX5_octet.cls ≠ "java/lang/invoke/MethodHandle" ∧ yX5_octet.cls ≠ "java/lang/invoke/VarHandle" ∧ (parseMethodDescriptor yX5_octet.desc).map (fun d => d.parameters.length) = some 2 := by decide +kernel
def wsX5_weakOf : List Cond := Cond.code yX5_weakOf cX5_weakOf 7 (some .int) :: ds_all
theorem g_X5_weakOf : GoodIn ds_all wsX5_weakOf := ds_goodIn iw_148
theorem hd_X5_weakOf : yX5_weakOf.cls ≠ "java/lang/invoke/MethodHandle" ∧ yX5_weakOf.cls ≠ "java/lang/invoke/VarHandle" ∧ (parseMethodDescriptor yX5_weakOf.desc).map (fun d => d.parameters.length) = some 3 := by decide +kernel
def wsX5_strongOf : List Cond := Cond.code yX5_strongOf cX5_strongOf 7 (some .long) :: ds_all
theorem g_X5_strongOf : GoodIn ds_all wsX5_strongOf := ds_goodIn iw_151
theorem hd_X5_strongOf : yX5_strongOf.cls ≠ "java/lang/invoke/MethodHandle" ∧ yX5_strongOf.cls ≠ "java/lang/invoke/VarHandle" ∧ (parseMethodDescriptor yX5_strongOf.desc).map (fun d => d.parameters.length) = some 3 := by decide +kernel
def wsX5_weak : List Cond := Cond.code yX5_weak cX5_weak 4 (some .int) :: ds_all
theorem g_X5_weak : GoodIn ds_all wsX5_weak := ds_goodIn iw_154
theorem hd_X5_weak : yX5_weak.cls ≠ "java/lang/invoke/MethodHandle" ∧ yX5_weak.cls ≠ "java/lang/invoke/VarHandle" ∧ (parseMethodDescriptor yX5_weak.desc).map (fun d => d.parameters.length) = some 3 := by decide +kernel
def wsX5_strong : List Cond := Cond.code yX5_strong cX5_strong 4 (some .long) :: ds_all
theorem g_X5_strong : GoodIn ds_all wsX5_strong := ds_goodIn iw_158
theorem hd_X5_strong : yX5_strong.cls ≠ "java/lang/invoke/MethodHandle" ∧ yX5_strong.cls ≠ "java/lang/invoke/VarHandle" ∧ (parseMethodDescriptor yX5_strong.desc).map (fun d => d.parameters.length) = some 3 := by decide +kernel
def wsX5_bad : List Cond := Cond.code yX5_bad cX5_bad 2 (some .boolean) :: ds_all
theorem g_X5_bad : GoodIn ds_all wsX5_bad := ds_goodIn iw_162
theorem hd_X5_bad : yX5_bad.cls ≠ "java/lang/invoke/MethodHandle" ∧ yX5_bad.cls ≠ "java/lang/invoke/VarHandle" ∧ (parseMethodDescriptor yX5_bad.desc).map (fun d => d.parameters.length) = some 2 := by decide +kernel
def wsX5_blocks : List Cond := Cond.code yX5_blocks cX5_blocks 2 (some .int) :: ds_all
theorem g_X5_blocks : GoodIn ds_all wsX5_blocks := ds_goodIn iw_163
theorem hd_X5_blocks : yX5_blocks.cls ≠ "java/lang/invoke/MethodHandle" ∧ yX5_blocks.cls ≠ "java/lang/invoke/VarHandle" ∧ (parseMethodDescriptor yX5_blocks.desc).map (fun d => d.parameters.length) = some 1 := by decide +kernel
def wsX5_length : List Cond := Cond.code yX5_length cX5_length 3 (some .int) :: ds_all
theorem g_X5_length : GoodIn ds_all wsX5_length := ds_goodIn iw_164
theorem hd_X5_length : yX5_length.cls ≠ "java/lang/invoke/MethodHandle" ∧ yX5_length.cls ≠ "java/lang/invoke/VarHandle" ∧ (parseMethodDescriptor yX5_length.desc).map (fun d => d.parameters.length) = some 2 := by decide +kernel
def wsX5_fits : List Cond := Cond.code yX5_fits cX5_fits 8 (some .boolean) :: ds_all
theorem g_X5_fits : GoodIn ds_all wsX5_fits := ds_goodIn iw_165
theorem hd_X5_fits : yX5_fits.cls ≠ "java/lang/invoke/MethodHandle" ∧ yX5_fits.cls ≠ "java/lang/invoke/VarHandle" ∧ (parseMethodDescriptor yX5_fits.desc).map (fun d => d.parameters.length) = some 4 := by decide +kernel
def wsX5_find : List Cond := Cond.code yX5_find cX5_find 6 (some .int) :: ds_all
theorem g_X5_find : GoodIn ds_all wsX5_find := ds_goodIn iw_169
theorem hd_X5_find : yX5_find.cls ≠ "java/lang/invoke/MethodHandle" ∧ yX5_find.cls ≠ "java/lang/invoke/VarHandle" ∧ (parseMethodDescriptor yX5_find.desc).map (fun d => d.parameters.length) = some 4 := by decide +kernel
def wsX5_delta : List Cond := Cond.code yX5_delta cX5_delta 9 (some .int) :: ds_all
theorem g_X5_delta : GoodIn ds_all wsX5_delta := ds_goodIn iw_178
theorem hd_X5_delta : yX5_delta.cls ≠ "java/lang/invoke/MethodHandle" ∧ yX5_delta.cls ≠ "java/lang/invoke/VarHandle" ∧ (parseMethodDescriptor yX5_delta.desc).map (fun d => d.parameters.length) = some 2 := by decide +kernel
def wsX5_token : List Cond := Cond.code yX5_token cX5_token 3 (some .int) :: ds_all
theorem g_X5_token : GoodIn ds_all wsX5_token := ds_goodIn iw_182
theorem hd_X5_token : yX5_token.cls ≠ "java/lang/invoke/MethodHandle" ∧ yX5_token.cls ≠ "java/lang/invoke/VarHandle" ∧ (parseMethodDescriptor yX5_token.desc).map (fun d => d.parameters.length) = some 2 := by decide +kernel
def wsX5_sent : List Cond := Cond.code yX5_sent cX5_sent 3 (some .int) :: ds_all
theorem g_X5_sent : GoodIn ds_all wsX5_sent := ds_goodIn iw_183
theorem hd_X5_sent : yX5_sent.cls ≠ "java/lang/invoke/MethodHandle" ∧ yX5_sent.cls ≠ "java/lang/invoke/VarHandle" ∧ (parseMethodDescriptor yX5_sent.desc).map (fun d => d.parameters.length) = some 0 := by decide +kernel
def wsX5_patch : List Cond := Cond.code yX5_patch cX5_patch 6 (some .int) :: ds_all
theorem g_X5_patch : GoodIn ds_all wsX5_patch := ds_goodIn iw_184
theorem hd_X5_patch : yX5_patch.cls ≠ "java/lang/invoke/MethodHandle" ∧ yX5_patch.cls ≠ "java/lang/invoke/VarHandle" ∧ (parseMethodDescriptor yX5_patch.desc).map (fun d => d.parameters.length) = some 0 := by decide +kernel
def wsX5_same : List Cond := Cond.code yX5_same cX5_same 2 (some .boolean) :: ds_all
theorem g_X5_same : GoodIn ds_all wsX5_same := ds_goodIn iw_185
theorem hd_X5_same : yX5_same.cls ≠ "java/lang/invoke/MethodHandle" ∧ yX5_same.cls ≠ "java/lang/invoke/VarHandle" ∧ (parseMethodDescriptor yX5_same.desc).map (fun d => d.parameters.length) = some 0 := by decide +kernel
def wsX5_count : List Cond := Cond.code yX5_count cX5_count 2 (some .int) :: ds_all
theorem g_X5_count : GoodIn ds_all wsX5_count := ds_goodIn iw_186
theorem hd_X5_count : yX5_count.cls ≠ "java/lang/invoke/MethodHandle" ∧ yX5_count.cls ≠ "java/lang/invoke/VarHandle" ∧ (parseMethodDescriptor yX5_count.desc).map (fun d => d.parameters.length) = some 1 := by decide +kernel
def wsX0_init : List Cond := Cond.code yX0_init cX0_init 2 none :: ds_all
theorem g_X0_init : GoodIn ds_all wsX0_init := ds_goodIn iw_187
theorem hd_X0_init : yX0_init.cls ≠ "java/lang/invoke/MethodHandle" ∧ yX0_init.cls ≠ "java/lang/invoke/VarHandle" ∧ (parseMethodDescriptor yX0_init.desc).map (fun d => d.parameters.length) = some 1 := by decide +kernel
def wsX0_cut : List Cond := Cond.code yX0_cut cX0_cut 3 none :: ds_all
theorem g_X0_cut : GoodIn ds_all wsX0_cut := ds_goodIn iw_196
theorem hd_X0_cut : yX0_cut.cls ≠ "java/lang/invoke/MethodHandle" ∧ yX0_cut.cls ≠ "java/lang/invoke/VarHandle" ∧ (parseMethodDescriptor yX0_cut.desc).map (fun d => d.parameters.length) = some 1 := by decide +kernel
def wsX0_start : List Cond := Cond.code yX0_start cX0_start 2 (some .int) :: ds_all
theorem g_X0_start : GoodIn ds_all wsX0_start := ds_goodIn iw_199
theorem hd_X0_start : yX0_start.cls ≠ "java/lang/invoke/MethodHandle" ∧ yX0_start.cls ≠ "java/lang/invoke/VarHandle" ∧ (parseMethodDescriptor yX0_start.desc).map (fun d => d.parameters.length) = some 1 := by decide +kernel
def wsX0_length : List Cond := Cond.code yX0_length cX0_length 2 (some .int) :: ds_all
theorem g_X0_length : GoodIn ds_all wsX0_length := ds_goodIn iw_200
theorem hd_X0_length : yX0_length.cls ≠ "java/lang/invoke/MethodHandle" ∧ yX0_length.cls ≠ "java/lang/invoke/VarHandle" ∧ (parseMethodDescriptor yX0_length.desc).map (fun d => d.parameters.length) = some 1 := by decide +kernel
def wsX1_init : List Cond := Cond.code yX1_init cX1_init 1 none :: ds_all
theorem g_X1_init : GoodIn ds_all wsX1_init := ds_goodIn iw_201
theorem hd_X1_init : yX1_init.cls ≠ "java/lang/invoke/MethodHandle" ∧ yX1_init.cls ≠ "java/lang/invoke/VarHandle" ∧ (parseMethodDescriptor yX1_init.desc).map (fun d => d.parameters.length) = some 0 := by decide +kernel
def wsX1_resize : List Cond := Cond.code yX1_resize cX1_resize 3 none :: ds_all
theorem g_X1_resize : GoodIn ds_all wsX1_resize := ds_goodIn iw_205
theorem hd_X1_resize : yX1_resize.cls ≠ "java/lang/invoke/MethodHandle" ∧ yX1_resize.cls ≠ "java/lang/invoke/VarHandle" ∧ (parseMethodDescriptor yX1_resize.desc).map (fun d => d.parameters.length) = some 1 := by decide +kernel
def wsX1_write : List Cond := Cond.code yX1_write cX1_write 5 none :: ds_all
theorem g_X1_write : GoodIn ds_all wsX1_write := ds_goodIn iw_206
theorem hd_X1_write : yX1_write.cls ≠ "java/lang/invoke/MethodHandle" ∧ yX1_write.cls ≠ "java/lang/invoke/VarHandle" ∧ (parseMethodDescriptor yX1_write.desc).map (fun d => d.parameters.length) = some 2 := by decide +kernel
def wsX1_append : List Cond := Cond.code yX1_append cX1_append 4 none :: ds_all
theorem g_X1_append : GoodIn ds_all wsX1_append := ds_goodIn iw_207
theorem hd_X1_append : yX1_append.cls ≠ "java/lang/invoke/MethodHandle" ∧ yX1_append.cls ≠ "java/lang/invoke/VarHandle" ∧ (parseMethodDescriptor yX1_append.desc).map (fun d => d.parameters.length) = some 3 := by decide +kernel
def wsX1_weakSum : List Cond := Cond.code yX1_weakSum cX1_weakSum 6 (some .int) :: ds_all
theorem g_X1_weakSum : GoodIn ds_all wsX1_weakSum := ds_goodIn iw_209
theorem hd_X1_weakSum : yX1_weakSum.cls ≠ "java/lang/invoke/MethodHandle" ∧ yX1_weakSum.cls ≠ "java/lang/invoke/VarHandle" ∧ (parseMethodDescriptor yX1_weakSum.desc).map (fun d => d.parameters.length) = some 2 := by decide +kernel
def wsX1_joinWeak : List Cond := Cond.code yX1_joinWeak cX1_joinWeak 2 (some .int) :: ds_all
theorem g_X1_joinWeak : GoodIn ds_all wsX1_joinWeak := ds_goodIn iw_212
theorem hd_X1_joinWeak : yX1_joinWeak.cls ≠ "java/lang/invoke/MethodHandle" ∧ yX1_joinWeak.cls ≠ "java/lang/invoke/VarHandle" ∧ (parseMethodDescriptor yX1_joinWeak.desc).map (fun d => d.parameters.length) = some 2 := by decide +kernel
def wsX1_strongSum : List Cond := Cond.code yX1_strongSum cX1_strongSum 6 (some .long) :: ds_all
theorem g_X1_strongSum : GoodIn ds_all wsX1_strongSum := ds_goodIn iw_215
theorem hd_X1_strongSum : yX1_strongSum.cls ≠ "java/lang/invoke/MethodHandle" ∧ yX1_strongSum.cls ≠ "java/lang/invoke/VarHandle" ∧ (parseMethodDescriptor yX1_strongSum.desc).map (fun d => d.parameters.length) = some 2 := by decide +kernel
def wsX2_init : List Cond := Cond.code yX2_init cX2_init 1 none :: ds_all
theorem g_X2_init : GoodIn ds_all wsX2_init := ds_goodIn iw_218
theorem hd_X2_init : yX2_init.cls ≠ "java/lang/invoke/MethodHandle" ∧ yX2_init.cls ≠ "java/lang/invoke/VarHandle" ∧ (parseMethodDescriptor yX2_init.desc).map (fun d => d.parameters.length) = some 0 := by decide +kernel
def wsX2_clear : List Cond := Cond.code yX2_clear cX2_clear 1 none :: ds_all
theorem g_X2_clear : GoodIn ds_all wsX2_clear := ds_goodIn iw_224
theorem hd_X2_clear : yX2_clear.cls ≠ "java/lang/invoke/MethodHandle" ∧ yX2_clear.cls ≠ "java/lang/invoke/VarHandle" ∧ (parseMethodDescriptor yX2_clear.desc).map (fun d => d.parameters.length) = some 0 := by decide +kernel
def wsX2_add : List Cond := Cond.code yX2_add cX2_add 3 none :: ds_all
theorem g_X2_add : GoodIn ds_all wsX2_add := ds_goodIn iw_225
theorem hd_X2_add : yX2_add.cls ≠ "java/lang/invoke/MethodHandle" ∧ yX2_add.cls ≠ "java/lang/invoke/VarHandle" ∧ (parseMethodDescriptor yX2_add.desc).map (fun d => d.parameters.length) = some 2 := by decide +kernel
def wsX2_goesOn : List Cond := Cond.code yX2_goesOn cX2_goesOn 3 (some .boolean) :: ds_all
theorem g_X2_goesOn : GoodIn ds_all wsX2_goesOn := ds_goodIn iw_229
theorem hd_X2_goesOn : yX2_goesOn.cls ≠ "java/lang/invoke/MethodHandle" ∧ yX2_goesOn.cls ≠ "java/lang/invoke/VarHandle" ∧ (parseMethodDescriptor yX2_goesOn.desc).map (fun d => d.parameters.length) = some 2 := by decide +kernel
def wsX3_init : List Cond := Cond.code yX3_init cX3_init 2 none :: ds_all
theorem g_X3_init : GoodIn ds_all wsX3_init := ds_goodIn iw_230
theorem hd_X3_init : yX3_init.cls ≠ "java/lang/invoke/MethodHandle" ∧ yX3_init.cls ≠ "java/lang/invoke/VarHandle" ∧ (parseMethodDescriptor yX3_init.desc).map (fun d => d.parameters.length) = some 1 := by decide +kernel
def wsX3_open : List Cond := Cond.code yX3_open cX3_open 2 none :: ds_all
theorem g_X3_open : GoodIn ds_all wsX3_open := ds_goodIn iw_237
theorem hd_X3_open : yX3_open.cls ≠ "java/lang/invoke/MethodHandle" ∧ yX3_open.cls ≠ "java/lang/invoke/VarHandle" ∧ (parseMethodDescriptor yX3_open.desc).map (fun d => d.parameters.length) = some 1 := by decide +kernel
def wsX3_moveTo : List Cond := Cond.code yX3_moveTo cX3_moveTo 3 none :: ds_all
theorem g_X3_moveTo : GoodIn ds_all wsX3_moveTo := ds_goodIn iw_238
theorem hd_X3_moveTo : yX3_moveTo.cls ≠ "java/lang/invoke/MethodHandle" ∧ yX3_moveTo.cls ≠ "java/lang/invoke/VarHandle" ∧ (parseMethodDescriptor yX3_moveTo.desc).map (fun d => d.parameters.length) = some 1 := by decide +kernel
def wsX3_roll : List Cond := Cond.code yX3_roll cX3_roll 3 none :: ds_all
theorem g_X3_roll : GoodIn ds_all wsX3_roll := ds_goodIn iw_248
theorem hd_X3_roll : yX3_roll.cls ≠ "java/lang/invoke/MethodHandle" ∧ yX3_roll.cls ≠ "java/lang/invoke/VarHandle" ∧ (parseMethodDescriptor yX3_roll.desc).map (fun d => d.parameters.length) = some 0 := by decide +kernel
def wsX3_sumAfresh : List Cond := Cond.code yX3_sumAfresh cX3_sumAfresh 3 none :: ds_all
theorem g_X3_sumAfresh : GoodIn ds_all wsX3_sumAfresh := ds_goodIn iw_249
theorem hd_X3_sumAfresh : yX3_sumAfresh.cls ≠ "java/lang/invoke/MethodHandle" ∧ yX3_sumAfresh.cls ≠ "java/lang/invoke/VarHandle" ∧ (parseMethodDescriptor yX3_sumAfresh.desc).map (fun d => d.parameters.length) = some 1 := by decide +kernel
def wsX3_shows : List Cond := Cond.code yX3_shows cX3_shows 6 (some .boolean) :: ds_all
theorem g_X3_shows : GoodIn ds_all wsX3_shows := ds_goodIn iw_250
theorem hd_X3_shows : yX3_shows.cls ≠ "java/lang/invoke/MethodHandle" ∧ yX3_shows.cls ≠ "java/lang/invoke/VarHandle" ∧ (parseMethodDescriptor yX3_shows.desc).map (fun d => d.parameters.length) = some 3 := by decide +kernel
def wsX3_strongSumHere : List Cond := Cond.code yX3_strongSumHere cX3_strongSumHere 1 (some .long) :: ds_all
theorem g_X3_strongSumHere : GoodIn ds_all wsX3_strongSumHere := ds_goodIn iw_254
theorem hd_X3_strongSumHere : yX3_strongSumHere.cls ≠ "java/lang/invoke/MethodHandle" ∧ yX3_strongSumHere.cls ≠ "java/lang/invoke/VarHandle" ∧ (parseMethodDescriptor yX3_strongSumHere.desc).map (fun d => d.parameters.length) = some 0 := by decide +kernel
def wsL_size : List Cond := Cond.codeWith yL_size cL_size 4 (some .int) [(0, 6, 9, 13)] :: ds_all
theorem g_L_size : GoodIn ds_all wsL_size := ds_goodIn iw_256
theorem hd_L_size : yL_size.cls ≠ "java/lang/invoke/MethodHandle" ∧ yL_size.cls ≠ "java/lang/invoke/VarHandle" ∧ (parseMethodDescriptor yL_size.desc).map (fun d => d.parameters.length) = some 3 := by decide +kernel
def wsL_put : List Cond := Cond.codeWith yL_put cL_put 6 (some .int) [(0, 7, 10, 13), (0, 7, 14, 19)] :: ds_all
theorem g_L_put : GoodIn ds_all wsL_put := ds_goodIn iw_260
theorem hd_L_put : yL_put.cls ≠ "java/lang/invoke/MethodHandle" ∧ yL_put.cls ≠ "java/lang/invoke/VarHandle" ∧ (parseMethodDescriptor yL_put.desc).map (fun d => d.parameters.length) = some 4 := by decide +kernel
def wsL_move : List Cond := Cond.codeWith yL_move cL_move 7 (some .int) [(0, 11, 14, 13), (0, 11, 18, 19)] :: ds_all
theorem g_L_move : GoodIn ds_all wsL_move := ds_goodIn iw_264
theorem hd_L_move : yL_move.cls ≠ "java/lang/invoke/MethodHandle" ∧ yL_move.cls ≠ "java/lang/invoke/VarHandle" ∧ (parseMethodDescriptor yL_move.desc).map (fun d => d.parameters.length) = some 6 := by decide +kernel
def wsL_octet : List Cond := Cond.codeWith yL_octet cL_octet 5 (some .int) [(0, 10, 13, 13), (0, 10, 17, 19)] :: ds_all
theorem g_L_octet : GoodIn ds_all wsL_octet := ds_goodIn iw_268
theorem hd_L_octet : yL_octet.cls ≠ "java/lang/invoke/MethodHandle" ∧ yL_octet.cls ≠ "java/lang/invoke/VarHandle" ∧ (parseMethodDescriptor yL_octet.desc).map (fun d => d.parameters.length) = some 4 := by decide +kernel
def wsL_weak : List Cond := Cond.codeWith yL_weak cL_weak 6 (some .int) [(0, 12, 15, 13), (0, 12, 19, 19)] :: ds_all
theorem g_L_weak : GoodIn ds_all wsL_weak := ds_goodIn iw_272
theorem hd_L_weak : yL_weak.cls ≠ "java/lang/invoke/MethodHandle" ∧ yL_weak.cls ≠ "java/lang/invoke/VarHandle" ∧ (parseMethodDescriptor yL_weak.desc).map (fun d => d.parameters.length) = some 5 := by decide +kernel
def wsL_strong : List Cond := Cond.codeWith yL_strong cL_strong 6 (some .int) [(0, 11, 14, 13), (0, 11, 18, 19)] :: ds_all
theorem g_L_strong : GoodIn ds_all wsL_strong := ds_goodIn iw_276
theorem hd_L_strong : yL_strong.cls ≠ "java/lang/invoke/MethodHandle" ∧ yL_strong.cls ≠ "java/lang/invoke/VarHandle" ∧ (parseMethodDescriptor yL_strong.desc).map (fun d => d.parameters.length) = some 5 := by decide +kernel
def wsL_find : List Cond := Cond.codeWith yL_find cL_find 7 (some .int) [(0, 14, 17, 13), (0, 14, 21, 19)] :: ds_all
theorem g_L_find : GoodIn ds_all wsL_find := ds_goodIn iw_280
theorem hd_L_find : yL_find.cls ≠ "java/lang/invoke/MethodHandle" ∧ yL_find.cls ≠ "java/lang/invoke/VarHandle" ∧ (parseMethodDescriptor yL_find.desc).map (fun d => d.parameters.length) = some 6 := by decide +kernel
def wsL_delta : List Cond := Cond.codeWith yL_delta cL_delta 5 (some .int) [(0, 10, 13, 13)] :: ds_all
theorem g_L_delta : GoodIn ds_all wsL_delta := ds_goodIn iw_284
theorem hd_L_delta : yL_delta.cls ≠ "java/lang/invoke/MethodHandle" ∧ yL_delta.cls ≠ "java/lang/invoke/VarHandle" ∧ (parseMethodDescriptor yL_delta.desc).map (fun d => d.parameters.length) = some 4 := by decide +kernel
def wsL_token : List Cond := Cond.codeWith yL_token cL_token 5 (some .int) [(0, 10, 13, 13), (0, 10, 17, 19)] :: ds_all
theorem g_L_token : GoodIn ds_all wsL_token := ds_goodIn iw_288
theorem hd_L_token : yL_token.cls ≠ "java/lang/invoke/MethodHandle" ∧ yL_token.cls ≠ "java/lang/invoke/VarHandle" ∧ (parseMethodDescriptor yL_token.desc).map (fun d => d.parameters.length) = some 4 := by decide +kernel
def wsL_count : List Cond := Cond.codeWith yL_count cL_count 4 (some .int) [(0, 9, 12, 13)] :: ds_all
theorem g_L_count : GoodIn ds_all wsL_count := ds_goodIn iw_292
theorem hd_L_count : yL_count.cls ≠ "java/lang/invoke/MethodHandle" ∧ yL_count.cls ≠ "java/lang/invoke/VarHandle" ∧ (parseMethodDescriptor yL_count.desc).map (fun d => d.parameters.length) = some 3 := by decide +kernel
