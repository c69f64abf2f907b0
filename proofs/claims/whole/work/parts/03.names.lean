def RX0 : String := "CharRows$Ranges"
def TX0 : u_T := fun k => match k with
  | 0 => ("CharRows$Ranges", "lows", "[I", true)
  | 1 => ("CharRows$Ranges", "highs", "[I", true)
  | _ => ("CharRows$Ranges", "count", "I", false)
def tyX0 : Nat → FieldType := fun k => match k with
  | 0 => .array .int
  | 1 => .array .int
  | _ => .int
abbrev wsX00 : List Cond := u_ws RX0 TX0 3
theorem nmX0 : ∀ a, a < 3 → ∀ b, b < 3 → a ≠ b → (TX0 a).2.1 ≠ (TX0 b).2.1 := by decide +kernel
theorem tyX0_ok : ∀ k, k < 3 → parseFieldDescriptor (TX0 k).2.2.1 = some (tyX0 k) := by decide +kernel
abbrev cX0_init : ByteArray := prog_2_method_1_code
def yX0_init : MethodName := ⟨RX0, "<init>", "()V"⟩
abbrev cX0_empty : ByteArray := prog_2_method_2_code
def yX0_empty : MethodName := ⟨RX0, "empty", "()V"⟩
abbrev cX0_become : ByteArray := prog_2_method_3_code
def yX0_become : MethodName := ⟨RX0, "become", "(LCharRows$Ranges;)V"⟩
abbrev cX0_holds : ByteArray := prog_2_method_4_code
def yX0_holds : MethodName := ⟨RX0, "holds", "(I)Z"⟩
abbrev cX0_endAround : ByteArray := prog_2_method_5_code
def yX0_endAround : MethodName := ⟨RX0, "endAround", "(I)I"⟩
abbrev cX0_firstEndingFrom : ByteArray := prog_2_method_6_code
def yX0_firstEndingFrom : MethodName := ⟨RX0, "firstEndingFrom", "(I)I"⟩
abbrev cX0_put : ByteArray := prog_2_method_7_code
def yX0_put : MethodName := ⟨RX0, "put", "(II)V"⟩
abbrev cX0_insert : ByteArray := prog_2_method_8_code
def yX0_insert : MethodName := ⟨RX0, "insert", "(III)V"⟩
abbrev cX0_unite : ByteArray := prog_2_method_9_code
def yX0_unite : MethodName := ⟨RX0, "unite", "(IIII)V"⟩
abbrev cX0_shift : ByteArray := prog_2_method_10_code
def yX0_shift : MethodName := ⟨RX0, "shift", "(II)V"⟩
def RX1 : String := "CharRows"
def TX1 : u_T := fun k => match k with
  | 0 => ("CharRows", "held", "LCharRows$Ranges;", false)
  | 1 => ("CharRows", "spare", "LCharRows$Ranges;", false)
  | _ => ("CharRows", "kept", "LCharRows$Ranges;", true)
def tyX1 : Nat → FieldType := fun k => match k with
  | 0 => .object "CharRows$Ranges"
  | 1 => .object "CharRows$Ranges"
  | _ => .object "CharRows$Ranges"
abbrev wsX10 : List Cond := u_ws RX1 TX1 3
theorem nmX1 : ∀ a, a < 3 → ∀ b, b < 3 → a ≠ b → (TX1 a).2.1 ≠ (TX1 b).2.1 := by decide +kernel
theorem tyX1_ok : ∀ k, k < 3 → parseFieldDescriptor (TX1 k).2.2.1 = some (tyX1 k) := by decide +kernel
abbrev cX1_init : ByteArray := prog_1_method_1_code
def yX1_init : MethodName := ⟨RX1, "<init>", "()V"⟩
abbrev cX1_add : ByteArray := prog_1_method_2_code
def yX1_add : MethodName := ⟨RX1, "add", "(II)I"⟩
abbrev cX1_clear : ByteArray := prog_1_method_3_code
def yX1_clear : MethodName := ⟨RX1, "clear", "()V"⟩
abbrev cX1_fold : ByteArray := prog_1_method_4_code
def yX1_fold : MethodName := ⟨RX1, "fold", "()I"⟩
abbrev cX1_turn : ByteArray := prog_1_method_5_code
def yX1_turn : MethodName := ⟨RX1, "turn", "()I"⟩
abbrev cX1_keep : ByteArray := prog_1_method_6_code
def yX1_keep : MethodName := ⟨RX1, "keep", "()V"⟩
abbrev cX1_join : ByteArray := prog_1_method_7_code
def yX1_join : MethodName := ⟨RX1, "join", "()I"⟩
abbrev cX1_has : ByteArray := prog_1_method_8_code
def yX1_has : MethodName := ⟨RX1, "has", "(I)Z"⟩
abbrev cX1_ranges : ByteArray := prog_1_method_9_code
def yX1_ranges : MethodName := ⟨RX1, "ranges", "()I"⟩
abbrev cX1_range : ByteArray := prog_1_method_10_code
def yX1_range : MethodName := ⟨RX1, "range", "(II)I"⟩
abbrev cX1_rows : ByteArray := prog_1_method_11_code
def yX1_rows : MethodName := ⟨RX1, "rows", "()I"⟩
abbrev cX1_row : ByteArray := prog_1_method_12_code
def yX1_row : MethodName := ⟨RX1, "row", "(III)I"⟩
abbrev cX1_takes : ByteArray := prog_1_method_13_code
def yX1_takes : MethodName := ⟨RX1, "takes", "(II)Z"⟩
abbrev cX1_putCharacters : ByteArray := prog_1_method_14_code
def yX1_putCharacters : MethodName := ⟨RX1, "putCharacters", "(LCharRows$Ranges;II)V"⟩
abbrev cX1_foldLetters : ByteArray := prog_1_method_15_code
def yX1_foldLetters : MethodName := ⟨RX1, "foldLetters", "()V"⟩
abbrev cX1_foldPairs : ByteArray := prog_1_method_16_code
def yX1_foldPairs : MethodName := ⟨RX1, "foldPairs", "()V"⟩
abbrev cX1_foldTwo : ByteArray := prog_1_method_17_code
def yX1_foldTwo : MethodName := ⟨RX1, "foldTwo", "(II)V"⟩
abbrev cX1_countRows : ByteArray := prog_1_method_18_code
def yX1_countRows : MethodName := ⟨RX1, "countRows", "(II)I"⟩
abbrev cX1_firstOfRow : ByteArray := prog_1_method_19_code
def yX1_firstOfRow : MethodName := ⟨RX1, "firstOfRow", "(I)I"⟩
abbrev cX1_skipRows : ByteArray := prog_1_method_20_code
def yX1_skipRows : MethodName := ⟨RX1, "skipRows", "(III)I"⟩
abbrev cX1_lastOfRow : ByteArray := prog_1_method_21_code
def yX1_lastOfRow : MethodName := ⟨RX1, "lastOfRow", "(II)I"⟩
abbrev cX1_byteCount : ByteArray := prog_1_method_22_code
def yX1_byteCount : MethodName := ⟨RX1, "byteCount", "(I)I"⟩
abbrev cX1_lastOfLength : ByteArray := prog_1_method_23_code
def yX1_lastOfLength : MethodName := ⟨RX1, "lastOfLength", "(I)I"⟩
abbrev cX1_byteOf : ByteArray := prog_1_method_24_code
def yX1_byteOf : MethodName := ⟨RX1, "byteOf", "(III)I"⟩
abbrev cX1_leadMark : ByteArray := prog_1_method_25_code
def yX1_leadMark : MethodName := ⟨RX1, "leadMark", "(I)I"⟩
abbrev cX1_byteAt : ByteArray := prog_1_method_26_code
def yX1_byteAt : MethodName := ⟨RX1, "byteAt", "(II)I"⟩
abbrev cX1_decode : ByteArray := prog_1_method_27_code
def yX1_decode : MethodName := ⟨RX1, "decode", "(II)I"⟩
abbrev cX1_startsWithBytesOf : ByteArray := prog_1_method_28_code
def yX1_startsWithBytesOf : MethodName := ⟨RX1, "startsWithBytesOf", "(III)Z"⟩
def RX2 : String := "CharRowsModel"
def TX2 : u_T := fun k => match k with
  | _ => ("", "", "", false)
def tyX2 : Nat → FieldType := fun k => match k with
  | _ => .int
abbrev wsX20 : List Cond := u_ws RX2 TX2 0
theorem nmX2 : ∀ a, a < 0 → ∀ b, b < 0 → a ≠ b → (TX2 a).2.1 ≠ (TX2 b).2.1 := by decide +kernel
theorem tyX2_ok : ∀ k, k < 0 → parseFieldDescriptor (TX2 k).2.2.1 = some (tyX2 k) := by decide +kernel
def RJ9 : String := "java/lang/Math"
def TJ9 : u_T := fun k => match k with
  | _ => ("", "", "", false)
def tyJ9 : Nat → FieldType := fun k => match k with
  | _ => .int
abbrev wsJ90 : List Cond := u_ws RJ9 TJ9 0
theorem nmJ9 : ∀ a, a < 0 → ∀ b, b < 0 → a ≠ b → (TJ9 a).2.1 ≠ (TJ9 b).2.1 := by decide +kernel
theorem tyJ9_ok : ∀ k, k < 0 → parseFieldDescriptor (TJ9 k).2.2.1 = some (tyJ9 k) := by decide +kernel
abbrev cJ9_max_7cf53 : ByteArray := prog_7_method_65_code
def yJ9_max_7cf53 : MethodName := ⟨RJ9, "max", "(II)I"⟩
abbrev cJ9_min_7cf53 : ByteArray := prog_7_method_69_code
def yJ9_min_7cf53 : MethodName := ⟨RJ9, "min", "(II)I"⟩
def RJ0 : String := "java/lang/String"
def TJ0 : u_T := fun k => match k with
  | _ => ("", "", "", false)
def tyJ0 : Nat → FieldType := fun k => match k with
  | _ => .int
abbrev wsJ00 : List Cond := u_ws RJ0 TJ0 0
theorem nmJ0 : ∀ a, a < 0 → ∀ b, b < 0 → a ≠ b → (TJ0 a).2.1 ≠ (TJ0 b).2.1 := by decide +kernel
theorem tyJ0_ok : ∀ k, k < 0 → parseFieldDescriptor (TJ0 k).2.2.1 = some (tyJ0 k) := by decide +kernel
def RJ10 : String := "java/lang/System"
def TJ10 : u_T := fun k => match k with
  | _ => ("", "", "", false)
def tyJ10 : Nat → FieldType := fun k => match k with
  | _ => .int
abbrev wsJ100 : List Cond := u_ws RJ10 TJ10 0
theorem nmJ10 : ∀ a, a < 0 → ∀ b, b < 0 → a ≠ b → (TJ10 a).2.1 ≠ (TJ10 b).2.1 := by decide +kernel
theorem tyJ10_ok : ∀ k, k < 0 → parseFieldDescriptor (TJ10 k).2.2.1 = some (tyJ10 k) := by decide +kernel
def RL : String := "CharRowsLaw"
abbrev cL_add : ByteArray := method_3_code
def yL_add : MethodName := ⟨RL, "add", "(LCharRows;II[J)I"⟩
abbrev cL_law : ByteArray := code
def yL_law : MethodName := ⟨RL, "law", "([I)Z"⟩
def wsX0_init : List Cond := .code yX0_init cX0_init 1 none :: ([.methodLink RX0 1 objectInit, .instanceMethod objectInit, .code objectInit ⟨#[0xb1]⟩ 1 none, .arrayClass .int, .fieldLink RX0 9 "CharRows$Ranges" "lows" "[I", .fieldLink RX0 13 "CharRows$Ranges" "highs" "[I", .fieldLink RX0 16 "CharRows$Ranges" "count" "I"] ++ wsX00)
def wsX0_empty : List Cond := .code yX0_empty cX0_empty 1 none :: ([.fieldLink RX0 16 "CharRows$Ranges" "count" "I"] ++ wsX00)
def wsX0_become : List Cond := .code yX0_become cX0_become 2 none :: ([.fieldLink RX0 9 "CharRows$Ranges" "lows" "[I", .fieldLink RX0 16 "CharRows$Ranges" "count" "I", .methodLink RX0 20 arraycopyName, .native arraycopyName, .static arraycopyName, .initialized "java/lang/System", .fieldLink RX0 13 "CharRows$Ranges" "highs" "[I"] ++ wsX00)
def wsX0_firstEndingFrom : List Cond := .code yX0_firstEndingFrom cX0_firstEndingFrom 5 (some .int) :: ([.fieldLink RX0 16 "CharRows$Ranges" "count" "I", .fieldLink RX0 13 "CharRows$Ranges" "highs" "[I"] ++ wsX00)
def wsX0_holds : List Cond := .code yX0_holds cX0_holds 3 (some .boolean) :: ([.fieldLink RX0 16 "CharRows$Ranges" "count" "I", .fieldLink RX0 9 "CharRows$Ranges" "lows" "[I", .methodLink RX0 26 yX0_firstEndingFrom, .instanceMethod yX0_firstEndingFrom, .selects RX0 yX0_firstEndingFrom yX0_firstEndingFrom, .initialized RX0, .code yX0_firstEndingFrom cX0_firstEndingFrom 5 (some .int), .fieldLink RX0 13 "CharRows$Ranges" "highs" "[I"] ++ wsX00)
def wsX0_endAround : List Cond := .code yX0_endAround cX0_endAround 3 (some .int) :: ([.fieldLink RX0 16 "CharRows$Ranges" "count" "I", .fieldLink RX0 9 "CharRows$Ranges" "lows" "[I", .fieldLink RX0 13 "CharRows$Ranges" "highs" "[I", .methodLink RX0 26 yX0_firstEndingFrom, .instanceMethod yX0_firstEndingFrom, .selects RX0 yX0_firstEndingFrom yX0_firstEndingFrom, .initialized RX0, .code yX0_firstEndingFrom cX0_firstEndingFrom 5 (some .int)] ++ wsX00)
def wsX0_shift : List Cond := .code yX0_shift cX0_shift 3 none :: ([.fieldLink RX0 9 "CharRows$Ranges" "lows" "[I", .fieldLink RX0 16 "CharRows$Ranges" "count" "I", .methodLink RX0 20 arraycopyName, .native arraycopyName, .static arraycopyName, .initialized "java/lang/System", .fieldLink RX0 13 "CharRows$Ranges" "highs" "[I"] ++ wsX00)
def wsX0_insert : List Cond := .code yX0_insert cX0_insert 4 none :: ([.fieldLink RX0 16 "CharRows$Ranges" "count" "I", .fieldLink RX0 9 "CharRows$Ranges" "lows" "[I", .fieldLink RX0 13 "CharRows$Ranges" "highs" "[I", .methodLink RX0 38 yX0_shift, .instanceMethod yX0_shift, .selects RX0 yX0_shift yX0_shift, .initialized RX0, .code yX0_shift cX0_shift 3 none, .methodLink RX0 20 arraycopyName, .native arraycopyName, .static arraycopyName, .initialized "java/lang/System"] ++ wsX00)
def wsX0_unite : List Cond := .code yX0_unite cX0_unite 5 none :: ([.fieldLink RX0 9 "CharRows$Ranges" "lows" "[I", .methodLink RX0 42 Lib.Math.min.name, .static Lib.Math.min.name, .initialized "java/lang/Math", .code Lib.Math.min.name Lib.Math.min.code 2 (some .int), .fieldLink RX0 13 "CharRows$Ranges" "highs" "[I", .methodLink RX0 48 Lib.Math.max.name, .static Lib.Math.max.name, .code Lib.Math.max.name Lib.Math.max.code 2 (some .int), .methodLink RX0 38 yX0_shift, .instanceMethod yX0_shift, .selects RX0 yX0_shift yX0_shift, .initialized RX0, .code yX0_shift cX0_shift 3 none, .fieldLink RX0 16 "CharRows$Ranges" "count" "I", .methodLink RX0 20 arraycopyName, .native arraycopyName, .static arraycopyName, .initialized "java/lang/System"] ++ wsX00)
def wsX0_put_r1 : List Cond := [Cond.fieldLink RX0 16 "CharRows$Ranges" "count" "I", Cond.fieldLink RX0 9 "CharRows$Ranges" "lows" "[I", Cond.methodLink RX0 26 yX0_firstEndingFrom, Cond.instanceMethod yX0_firstEndingFrom, Cond.selects RX0 yX0_firstEndingFrom yX0_firstEndingFrom, Cond.initialized RX0, Cond.code yX0_firstEndingFrom cX0_firstEndingFrom 5 (some .int), Cond.fieldLink RX0 13 "CharRows$Ranges" "highs" "[I", Cond.methodLink RX0 30 yX0_insert, Cond.instanceMethod yX0_insert, Cond.selects RX0 yX0_insert yX0_insert, Cond.code yX0_insert cX0_insert 4 none, Cond.methodLink RX0 38 yX0_shift, Cond.instanceMethod yX0_shift, Cond.selects RX0 yX0_shift yX0_shift, Cond.code yX0_shift cX0_shift 3 none, Cond.methodLink RX0 20 arraycopyName, Cond.native arraycopyName, Cond.static arraycopyName, Cond.initialized "java/lang/System", Cond.methodLink RX0 34 yX0_unite, Cond.instanceMethod yX0_unite, Cond.selects RX0 yX0_unite yX0_unite, Cond.code yX0_unite cX0_unite 5 none]
def wsX0_put_r2 : List Cond := [Cond.methodLink RX0 42 Lib.Math.min.name, Cond.static Lib.Math.min.name, Cond.initialized "java/lang/Math", Cond.code Lib.Math.min.name Lib.Math.min.code 2 (some .int), Cond.methodLink RX0 48 Lib.Math.max.name, Cond.static Lib.Math.max.name, Cond.code Lib.Math.max.name Lib.Math.max.code 2 (some .int)]
def wsX0_put : List Cond := .code yX0_put cX0_put 5 none :: ((wsX0_put_r1 ++ wsX0_put_r2) ++ wsX00)
def wsX1_init : List Cond := .code yX1_init cX1_init 1 none :: ([.methodLink RX1 1 objectInit, .instanceMethod objectInit, .code objectInit ⟨#[0xb1]⟩ 1 none, .classLink RX1 7 RX0, .instantiable RX0 3, .initialized RX0, .fieldLink RX1 10 "CharRows" "held" "LCharRows$Ranges;", .fieldLink RX1 16 "CharRows" "spare" "LCharRows$Ranges;", .fieldLink RX1 19 "CharRows" "kept" "LCharRows$Ranges;", .instanceMethod yX0_init, .code yX0_init cX0_init 1 none, .methodLink RX0 1 objectInit, .arrayClass .int, .fieldLink RX0 9 "CharRows$Ranges" "lows" "[I", .fieldLink RX0 13 "CharRows$Ranges" "highs" "[I", .fieldLink RX0 16 "CharRows$Ranges" "count" "I"] ++ wsX00 ++ wsX10)
def wsX1_putCharacters_r1 : List Cond := [Cond.constant RX1 94 (55295), Cond.methodLink RX1 95 Lib.Math.min.name, Cond.static Lib.Math.min.name, Cond.initialized "java/lang/Math", Cond.code Lib.Math.min.name Lib.Math.min.code 2 (some .int), Cond.constant RX1 100 (57344), Cond.methodLink RX1 101 Lib.Math.max.name, Cond.static Lib.Math.max.name, Cond.code Lib.Math.max.name Lib.Math.max.code 2 (some .int), Cond.instanceMethod yX0_put, Cond.initialized RX0, Cond.selects RX0 yX0_put yX0_put, Cond.code yX0_put cX0_put 5 none, Cond.fieldLink RX0 16 "CharRows$Ranges" "count" "I", Cond.fieldLink RX0 9 "CharRows$Ranges" "lows" "[I", Cond.methodLink RX0 26 yX0_firstEndingFrom, Cond.instanceMethod yX0_firstEndingFrom, Cond.selects RX0 yX0_firstEndingFrom yX0_firstEndingFrom, Cond.code yX0_firstEndingFrom cX0_firstEndingFrom 5 (some .int), Cond.fieldLink RX0 13 "CharRows$Ranges" "highs" "[I", Cond.methodLink RX0 30 yX0_insert, Cond.instanceMethod yX0_insert, Cond.selects RX0 yX0_insert yX0_insert, Cond.code yX0_insert cX0_insert 4 none]
def wsX1_putCharacters_r2 : List Cond := [Cond.methodLink RX0 38 yX0_shift, Cond.instanceMethod yX0_shift, Cond.selects RX0 yX0_shift yX0_shift, Cond.code yX0_shift cX0_shift 3 none, Cond.methodLink RX0 20 arraycopyName, Cond.native arraycopyName, Cond.static arraycopyName, Cond.initialized "java/lang/System", Cond.methodLink RX0 34 yX0_unite, Cond.instanceMethod yX0_unite, Cond.selects RX0 yX0_unite yX0_unite, Cond.code yX0_unite cX0_unite 5 none, Cond.methodLink RX0 42 Lib.Math.min.name, Cond.methodLink RX0 48 Lib.Math.max.name]
def wsX1_putCharacters : List Cond := .code yX1_putCharacters cX1_putCharacters 3 none :: ((wsX1_putCharacters_r1 ++ wsX1_putCharacters_r2) ++ wsX00)
def wsX1_add_r1 : List Cond := [Cond.classLink RX1 23 "java/lang/IllegalArgumentException", Cond.initialized "java/lang/IllegalArgumentException", Cond.constant RX1 22 (1114111), Cond.fieldLink RX1 10 "CharRows" "held" "LCharRows$Ranges;", Cond.methodLink RX1 30 yX1_putCharacters, Cond.static yX1_putCharacters, Cond.initialized RX1, Cond.code yX1_putCharacters cX1_putCharacters 3 none, Cond.constant RX1 94 (55295), Cond.methodLink RX1 95 Lib.Math.min.name, Cond.static Lib.Math.min.name, Cond.initialized "java/lang/Math", Cond.code Lib.Math.min.name Lib.Math.min.code 2 (some .int), Cond.constant RX1 100 (57344), Cond.methodLink RX1 101 Lib.Math.max.name, Cond.static Lib.Math.max.name, Cond.code Lib.Math.max.name Lib.Math.max.code 2 (some .int), Cond.instanceMethod yX0_put, Cond.initialized RX0, Cond.selects RX0 yX0_put yX0_put, Cond.code yX0_put cX0_put 5 none, Cond.fieldLink RX0 16 "CharRows$Ranges" "count" "I", Cond.fieldLink RX0 9 "CharRows$Ranges" "lows" "[I", Cond.methodLink RX0 26 yX0_firstEndingFrom]
def wsX1_add_r2 : List Cond := [Cond.instanceMethod yX0_firstEndingFrom, Cond.selects RX0 yX0_firstEndingFrom yX0_firstEndingFrom, Cond.code yX0_firstEndingFrom cX0_firstEndingFrom 5 (some .int), Cond.fieldLink RX0 13 "CharRows$Ranges" "highs" "[I", Cond.methodLink RX0 30 yX0_insert, Cond.instanceMethod yX0_insert, Cond.selects RX0 yX0_insert yX0_insert, Cond.code yX0_insert cX0_insert 4 none, Cond.methodLink RX0 38 yX0_shift, Cond.instanceMethod yX0_shift, Cond.selects RX0 yX0_shift yX0_shift, Cond.code yX0_shift cX0_shift 3 none, Cond.methodLink RX0 20 arraycopyName, Cond.native arraycopyName, Cond.static arraycopyName, Cond.initialized "java/lang/System", Cond.methodLink RX0 34 yX0_unite, Cond.instanceMethod yX0_unite, Cond.selects RX0 yX0_unite yX0_unite, Cond.code yX0_unite cX0_unite 5 none, Cond.methodLink RX0 42 Lib.Math.min.name, Cond.methodLink RX0 48 Lib.Math.max.name]
def wsX1_add : List Cond := .code yX1_add cX1_add 3 (some .int) :: ((wsX1_add_r1 ++ wsX1_add_r2) ++ wsX10 ++ wsX00 ++ (vx_atS RX1 27 "java/lang/IllegalArgumentException" ["java/lang/RuntimeException", "java/lang/Exception"]).filter goodWord)
def wsX1_clear : List Cond := .code yX1_clear cX1_clear 1 none :: ([.fieldLink RX1 10 "CharRows" "held" "LCharRows$Ranges;", .instanceMethod yX0_empty, .initialized RX0, .selects RX0 yX0_empty yX0_empty, .code yX0_empty cX0_empty 1 none, .fieldLink RX0 16 "CharRows$Ranges" "count" "I"] ++ wsX10 ++ wsX00)
def wsX1_foldTwo_r1 : List Cond := [Cond.fieldLink RX1 10 "CharRows" "held" "LCharRows$Ranges;", Cond.instanceMethod yX0_holds, Cond.initialized RX0, Cond.selects RX0 yX0_holds yX0_holds, Cond.code yX0_holds cX0_holds 3 (some .boolean), Cond.fieldLink RX0 16 "CharRows$Ranges" "count" "I", Cond.fieldLink RX0 9 "CharRows$Ranges" "lows" "[I", Cond.methodLink RX0 26 yX0_firstEndingFrom, Cond.instanceMethod yX0_firstEndingFrom, Cond.selects RX0 yX0_firstEndingFrom yX0_firstEndingFrom, Cond.code yX0_firstEndingFrom cX0_firstEndingFrom 5 (some .int), Cond.fieldLink RX0 13 "CharRows$Ranges" "highs" "[I", Cond.instanceMethod yX0_put, Cond.selects RX0 yX0_put yX0_put, Cond.code yX0_put cX0_put 5 none, Cond.methodLink RX0 30 yX0_insert, Cond.instanceMethod yX0_insert, Cond.selects RX0 yX0_insert yX0_insert, Cond.code yX0_insert cX0_insert 4 none, Cond.methodLink RX0 38 yX0_shift, Cond.instanceMethod yX0_shift, Cond.selects RX0 yX0_shift yX0_shift, Cond.code yX0_shift cX0_shift 3 none, Cond.methodLink RX0 20 arraycopyName]
def wsX1_foldTwo_r2 : List Cond := [Cond.native arraycopyName, Cond.static arraycopyName, Cond.initialized "java/lang/System", Cond.methodLink RX0 34 yX0_unite, Cond.instanceMethod yX0_unite, Cond.selects RX0 yX0_unite yX0_unite, Cond.code yX0_unite cX0_unite 5 none, Cond.methodLink RX0 42 Lib.Math.min.name, Cond.static Lib.Math.min.name, Cond.initialized "java/lang/Math", Cond.code Lib.Math.min.name Lib.Math.min.code 2 (some .int), Cond.methodLink RX0 48 Lib.Math.max.name, Cond.static Lib.Math.max.name, Cond.code Lib.Math.max.name Lib.Math.max.code 2 (some .int)]
def wsX1_foldTwo : List Cond := .code yX1_foldTwo cX1_foldTwo 5 none :: ((wsX1_foldTwo_r1 ++ wsX1_foldTwo_r2) ++ wsX10 ++ wsX00)
def wsX1_foldLetters_r1 : List Cond := [Cond.fieldLink RX1 104 "CharRows" "LETTERS" "[I", Cond.methodLink RX1 107 yX1_foldTwo, Cond.instanceMethod yX1_foldTwo, Cond.selects RX1 yX1_foldTwo yX1_foldTwo, Cond.initialized RX1, Cond.code yX1_foldTwo cX1_foldTwo 5 none, Cond.fieldLink RX1 10 "CharRows" "held" "LCharRows$Ranges;", Cond.instanceMethod yX0_holds, Cond.initialized RX0, Cond.selects RX0 yX0_holds yX0_holds, Cond.code yX0_holds cX0_holds 3 (some .boolean), Cond.fieldLink RX0 16 "CharRows$Ranges" "count" "I", Cond.fieldLink RX0 9 "CharRows$Ranges" "lows" "[I", Cond.methodLink RX0 26 yX0_firstEndingFrom, Cond.instanceMethod yX0_firstEndingFrom, Cond.selects RX0 yX0_firstEndingFrom yX0_firstEndingFrom, Cond.code yX0_firstEndingFrom cX0_firstEndingFrom 5 (some .int), Cond.fieldLink RX0 13 "CharRows$Ranges" "highs" "[I", Cond.instanceMethod yX0_put, Cond.selects RX0 yX0_put yX0_put, Cond.code yX0_put cX0_put 5 none, Cond.methodLink RX0 30 yX0_insert, Cond.instanceMethod yX0_insert, Cond.selects RX0 yX0_insert yX0_insert]
def wsX1_foldLetters_r2 : List Cond := [Cond.code yX0_insert cX0_insert 4 none, Cond.methodLink RX0 38 yX0_shift, Cond.instanceMethod yX0_shift, Cond.selects RX0 yX0_shift yX0_shift, Cond.code yX0_shift cX0_shift 3 none, Cond.methodLink RX0 20 arraycopyName, Cond.native arraycopyName, Cond.static arraycopyName, Cond.initialized "java/lang/System", Cond.methodLink RX0 34 yX0_unite, Cond.instanceMethod yX0_unite, Cond.selects RX0 yX0_unite yX0_unite, Cond.code yX0_unite cX0_unite 5 none, Cond.methodLink RX0 42 Lib.Math.min.name, Cond.static Lib.Math.min.name, Cond.initialized "java/lang/Math", Cond.code Lib.Math.min.name Lib.Math.min.code 2 (some .int), Cond.methodLink RX0 48 Lib.Math.max.name, Cond.static Lib.Math.max.name, Cond.code Lib.Math.max.name Lib.Math.max.code 2 (some .int)]
def wsX1_foldLetters : List Cond := .code yX1_foldLetters cX1_foldLetters 4 none :: ((wsX1_foldLetters_r1 ++ wsX1_foldLetters_r2) ++ wsX10 ++ wsX00)
def wsX1_foldPairs_r1 : List Cond := [Cond.fieldLink RX1 110 "CharRows" "PAIRS" "[I", Cond.methodLink RX1 107 yX1_foldTwo, Cond.instanceMethod yX1_foldTwo, Cond.selects RX1 yX1_foldTwo yX1_foldTwo, Cond.initialized RX1, Cond.code yX1_foldTwo cX1_foldTwo 5 none, Cond.fieldLink RX1 10 "CharRows" "held" "LCharRows$Ranges;", Cond.instanceMethod yX0_holds, Cond.initialized RX0, Cond.selects RX0 yX0_holds yX0_holds, Cond.code yX0_holds cX0_holds 3 (some .boolean), Cond.fieldLink RX0 16 "CharRows$Ranges" "count" "I", Cond.fieldLink RX0 9 "CharRows$Ranges" "lows" "[I", Cond.methodLink RX0 26 yX0_firstEndingFrom, Cond.instanceMethod yX0_firstEndingFrom, Cond.selects RX0 yX0_firstEndingFrom yX0_firstEndingFrom, Cond.code yX0_firstEndingFrom cX0_firstEndingFrom 5 (some .int), Cond.fieldLink RX0 13 "CharRows$Ranges" "highs" "[I", Cond.instanceMethod yX0_put, Cond.selects RX0 yX0_put yX0_put, Cond.code yX0_put cX0_put 5 none, Cond.methodLink RX0 30 yX0_insert, Cond.instanceMethod yX0_insert, Cond.selects RX0 yX0_insert yX0_insert]
def wsX1_foldPairs_r2 : List Cond := [Cond.code yX0_insert cX0_insert 4 none, Cond.methodLink RX0 38 yX0_shift, Cond.instanceMethod yX0_shift, Cond.selects RX0 yX0_shift yX0_shift, Cond.code yX0_shift cX0_shift 3 none, Cond.methodLink RX0 20 arraycopyName, Cond.native arraycopyName, Cond.static arraycopyName, Cond.initialized "java/lang/System", Cond.methodLink RX0 34 yX0_unite, Cond.instanceMethod yX0_unite, Cond.selects RX0 yX0_unite yX0_unite, Cond.code yX0_unite cX0_unite 5 none, Cond.methodLink RX0 42 Lib.Math.min.name, Cond.static Lib.Math.min.name, Cond.initialized "java/lang/Math", Cond.code Lib.Math.min.name Lib.Math.min.code 2 (some .int), Cond.methodLink RX0 48 Lib.Math.max.name, Cond.static Lib.Math.max.name, Cond.code Lib.Math.max.name Lib.Math.max.code 2 (some .int)]
def wsX1_foldPairs : List Cond := .code yX1_foldPairs cX1_foldPairs 2 none :: ((wsX1_foldPairs_r1 ++ wsX1_foldPairs_r2) ++ wsX10 ++ wsX00)
def wsX1_fold_r1 : List Cond := [Cond.fieldLink RX1 10 "CharRows" "held" "LCharRows$Ranges;", Cond.methodLink RX1 41 yX1_foldLetters, Cond.instanceMethod yX1_foldLetters, Cond.selects RX1 yX1_foldLetters yX1_foldLetters, Cond.initialized RX1, Cond.code yX1_foldLetters cX1_foldLetters 4 none, Cond.fieldLink RX1 104 "CharRows" "LETTERS" "[I", Cond.methodLink RX1 107 yX1_foldTwo, Cond.instanceMethod yX1_foldTwo, Cond.selects RX1 yX1_foldTwo yX1_foldTwo, Cond.code yX1_foldTwo cX1_foldTwo 5 none, Cond.instanceMethod yX0_holds, Cond.initialized RX0, Cond.selects RX0 yX0_holds yX0_holds, Cond.code yX0_holds cX0_holds 3 (some .boolean), Cond.fieldLink RX0 16 "CharRows$Ranges" "count" "I", Cond.fieldLink RX0 9 "CharRows$Ranges" "lows" "[I", Cond.methodLink RX0 26 yX0_firstEndingFrom, Cond.instanceMethod yX0_firstEndingFrom, Cond.selects RX0 yX0_firstEndingFrom yX0_firstEndingFrom, Cond.code yX0_firstEndingFrom cX0_firstEndingFrom 5 (some .int), Cond.fieldLink RX0 13 "CharRows$Ranges" "highs" "[I", Cond.instanceMethod yX0_put, Cond.selects RX0 yX0_put yX0_put]
def wsX1_fold_r2 : List Cond := [Cond.code yX0_put cX0_put 5 none, Cond.methodLink RX0 30 yX0_insert, Cond.instanceMethod yX0_insert, Cond.selects RX0 yX0_insert yX0_insert, Cond.code yX0_insert cX0_insert 4 none, Cond.methodLink RX0 38 yX0_shift, Cond.instanceMethod yX0_shift, Cond.selects RX0 yX0_shift yX0_shift, Cond.code yX0_shift cX0_shift 3 none, Cond.methodLink RX0 20 arraycopyName, Cond.native arraycopyName, Cond.static arraycopyName, Cond.initialized "java/lang/System", Cond.methodLink RX0 34 yX0_unite, Cond.instanceMethod yX0_unite, Cond.selects RX0 yX0_unite yX0_unite, Cond.code yX0_unite cX0_unite 5 none, Cond.methodLink RX0 42 Lib.Math.min.name, Cond.static Lib.Math.min.name, Cond.initialized "java/lang/Math", Cond.code Lib.Math.min.name Lib.Math.min.code 2 (some .int), Cond.methodLink RX0 48 Lib.Math.max.name, Cond.static Lib.Math.max.name, Cond.code Lib.Math.max.name Lib.Math.max.code 2 (some .int)]
def wsX1_fold_r3 : List Cond := [Cond.methodLink RX1 44 yX1_foldPairs, Cond.instanceMethod yX1_foldPairs, Cond.selects RX1 yX1_foldPairs yX1_foldPairs, Cond.code yX1_foldPairs cX1_foldPairs 2 none, Cond.fieldLink RX1 110 "CharRows" "PAIRS" "[I"]
def wsX1_fold : List Cond := .code yX1_fold cX1_fold 1 (some .int) :: ((wsX1_fold_r1 ++ (wsX1_fold_r2 ++ wsX1_fold_r3)) ++ wsX10 ++ wsX00)
def wsX1_turn_r1 : List Cond := [Cond.fieldLink RX1 10 "CharRows" "held" "LCharRows$Ranges;", Cond.fieldLink RX1 16 "CharRows" "spare" "LCharRows$Ranges;", Cond.constant RX1 22 (1114111), Cond.instanceMethod yX0_empty, Cond.initialized RX0, Cond.selects RX0 yX0_empty yX0_empty, Cond.code yX0_empty cX0_empty 1 none, Cond.fieldLink RX0 16 "CharRows$Ranges" "count" "I", Cond.methodLink RX1 30 yX1_putCharacters, Cond.static yX1_putCharacters, Cond.initialized RX1, Cond.code yX1_putCharacters cX1_putCharacters 3 none, Cond.constant RX1 94 (55295), Cond.methodLink RX1 95 Lib.Math.min.name, Cond.static Lib.Math.min.name, Cond.initialized "java/lang/Math", Cond.code Lib.Math.min.name Lib.Math.min.code 2 (some .int), Cond.constant RX1 100 (57344), Cond.methodLink RX1 101 Lib.Math.max.name, Cond.static Lib.Math.max.name, Cond.code Lib.Math.max.name Lib.Math.max.code 2 (some .int), Cond.instanceMethod yX0_put, Cond.selects RX0 yX0_put yX0_put, Cond.code yX0_put cX0_put 5 none]
def wsX1_turn_r2 : List Cond := [Cond.fieldLink RX0 9 "CharRows$Ranges" "lows" "[I", Cond.methodLink RX0 26 yX0_firstEndingFrom, Cond.instanceMethod yX0_firstEndingFrom, Cond.selects RX0 yX0_firstEndingFrom yX0_firstEndingFrom, Cond.code yX0_firstEndingFrom cX0_firstEndingFrom 5 (some .int), Cond.fieldLink RX0 13 "CharRows$Ranges" "highs" "[I", Cond.methodLink RX0 30 yX0_insert, Cond.instanceMethod yX0_insert, Cond.selects RX0 yX0_insert yX0_insert, Cond.code yX0_insert cX0_insert 4 none, Cond.methodLink RX0 38 yX0_shift, Cond.instanceMethod yX0_shift, Cond.selects RX0 yX0_shift yX0_shift, Cond.code yX0_shift cX0_shift 3 none, Cond.methodLink RX0 20 arraycopyName, Cond.native arraycopyName, Cond.static arraycopyName, Cond.initialized "java/lang/System", Cond.methodLink RX0 34 yX0_unite, Cond.instanceMethod yX0_unite, Cond.selects RX0 yX0_unite yX0_unite, Cond.code yX0_unite cX0_unite 5 none, Cond.methodLink RX0 42 Lib.Math.min.name, Cond.methodLink RX0 48 Lib.Math.max.name]
def wsX1_turn : List Cond := .code yX1_turn cX1_turn 5 (some .int) :: ((wsX1_turn_r1 ++ wsX1_turn_r2) ++ wsX10 ++ wsX00)
def wsX1_keep : List Cond := .code yX1_keep cX1_keep 1 none :: ([.fieldLink RX1 19 "CharRows" "kept" "LCharRows$Ranges;", .fieldLink RX1 10 "CharRows" "held" "LCharRows$Ranges;", .instanceMethod yX0_become, .initialized RX0, .selects RX0 yX0_become yX0_become, .code yX0_become cX0_become 2 none, .fieldLink RX0 9 "CharRows$Ranges" "lows" "[I", .fieldLink RX0 16 "CharRows$Ranges" "count" "I", .methodLink RX0 20 arraycopyName, .native arraycopyName, .static arraycopyName, .initialized "java/lang/System", .fieldLink RX0 13 "CharRows$Ranges" "highs" "[I"] ++ wsX10 ++ wsX00)
def wsX1_join_r1 : List Cond := [Cond.fieldLink RX1 19 "CharRows" "kept" "LCharRows$Ranges;", Cond.fieldLink RX1 10 "CharRows" "held" "LCharRows$Ranges;", Cond.instanceMethod yX0_put, Cond.initialized RX0, Cond.selects RX0 yX0_put yX0_put, Cond.code yX0_put cX0_put 5 none, Cond.fieldLink RX0 16 "CharRows$Ranges" "count" "I", Cond.fieldLink RX0 9 "CharRows$Ranges" "lows" "[I", Cond.methodLink RX0 26 yX0_firstEndingFrom, Cond.instanceMethod yX0_firstEndingFrom, Cond.selects RX0 yX0_firstEndingFrom yX0_firstEndingFrom, Cond.code yX0_firstEndingFrom cX0_firstEndingFrom 5 (some .int), Cond.fieldLink RX0 13 "CharRows$Ranges" "highs" "[I", Cond.methodLink RX0 30 yX0_insert, Cond.instanceMethod yX0_insert, Cond.selects RX0 yX0_insert yX0_insert, Cond.code yX0_insert cX0_insert 4 none, Cond.methodLink RX0 38 yX0_shift, Cond.instanceMethod yX0_shift, Cond.selects RX0 yX0_shift yX0_shift, Cond.code yX0_shift cX0_shift 3 none, Cond.methodLink RX0 20 arraycopyName, Cond.native arraycopyName, Cond.static arraycopyName]
def wsX1_join_r2 : List Cond := [Cond.initialized "java/lang/System", Cond.methodLink RX0 34 yX0_unite, Cond.instanceMethod yX0_unite, Cond.selects RX0 yX0_unite yX0_unite, Cond.code yX0_unite cX0_unite 5 none, Cond.methodLink RX0 42 Lib.Math.min.name, Cond.static Lib.Math.min.name, Cond.initialized "java/lang/Math", Cond.code Lib.Math.min.name Lib.Math.min.code 2 (some .int), Cond.methodLink RX0 48 Lib.Math.max.name, Cond.static Lib.Math.max.name, Cond.code Lib.Math.max.name Lib.Math.max.code 2 (some .int)]
def wsX1_join : List Cond := .code yX1_join cX1_join 2 (some .int) :: ((wsX1_join_r1 ++ wsX1_join_r2) ++ wsX10 ++ wsX00)
def wsX1_has : List Cond := .code yX1_has cX1_has 2 (some .boolean) :: ([.fieldLink RX1 10 "CharRows" "held" "LCharRows$Ranges;", .instanceMethod yX0_holds, .initialized RX0, .selects RX0 yX0_holds yX0_holds, .code yX0_holds cX0_holds 3 (some .boolean), .fieldLink RX0 16 "CharRows$Ranges" "count" "I", .fieldLink RX0 9 "CharRows$Ranges" "lows" "[I", .methodLink RX0 26 yX0_firstEndingFrom, .instanceMethod yX0_firstEndingFrom, .selects RX0 yX0_firstEndingFrom yX0_firstEndingFrom, .code yX0_firstEndingFrom cX0_firstEndingFrom 5 (some .int), .fieldLink RX0 13 "CharRows$Ranges" "highs" "[I"] ++ wsX10 ++ wsX00)
def wsX1_ranges : List Cond := .code yX1_ranges cX1_ranges 1 (some .int) :: ([.fieldLink RX1 10 "CharRows" "held" "LCharRows$Ranges;"] ++ wsX10 ++ wsX00)
def wsX1_range : List Cond := .code yX1_range cX1_range 3 (some .int) :: ([.fieldLink RX1 10 "CharRows" "held" "LCharRows$Ranges;"] ++ wsX10 ++ wsX00)
def wsX1_lastOfLength : List Cond := .code yX1_lastOfLength cX1_lastOfLength 1 (some .int) :: ([.constant RX1 119 (65535), .constant RX1 22 (1114111)])
def wsX1_byteCount : List Cond := .code yX1_byteCount cX1_byteCount 1 (some .int) :: ([.methodLink RX1 116 yX1_lastOfLength, .static yX1_lastOfLength, .initialized RX1, .code yX1_lastOfLength cX1_lastOfLength 1 (some .int), .constant RX1 119 (65535), .constant RX1 22 (1114111)])
def wsX1_lastOfRow : List Cond := .code yX1_lastOfRow cX1_lastOfRow 8 (some .int) :: ([.methodLink RX1 95 Lib.Math.min.name, .static Lib.Math.min.name, .initialized "java/lang/Math", .code Lib.Math.min.name Lib.Math.min.code 2 (some .int), .methodLink RX1 74 yX1_byteCount, .static yX1_byteCount, .initialized RX1, .code yX1_byteCount cX1_byteCount 1 (some .int), .methodLink RX1 116 yX1_lastOfLength, .static yX1_lastOfLength, .code yX1_lastOfLength cX1_lastOfLength 1 (some .int), .constant RX1 119 (65535), .constant RX1 22 (1114111)])
def wsX1_countRows : List Cond := .code yX1_countRows cX1_countRows 4 (some .int) :: ([.methodLink RX1 84 yX1_lastOfRow, .static yX1_lastOfRow, .initialized RX1, .code yX1_lastOfRow cX1_lastOfRow 8 (some .int), .methodLink RX1 95 Lib.Math.min.name, .static Lib.Math.min.name, .initialized "java/lang/Math", .code Lib.Math.min.name Lib.Math.min.code 2 (some .int), .methodLink RX1 74 yX1_byteCount, .static yX1_byteCount, .code yX1_byteCount cX1_byteCount 1 (some .int), .methodLink RX1 116 yX1_lastOfLength, .static yX1_lastOfLength, .code yX1_lastOfLength cX1_lastOfLength 1 (some .int), .constant RX1 119 (65535), .constant RX1 22 (1114111)])
def wsX1_rows : List Cond := .code yX1_rows cX1_rows 3 (some .int) :: ([.fieldLink RX1 10 "CharRows" "held" "LCharRows$Ranges;", .methodLink RX1 66 yX1_countRows, .static yX1_countRows, .initialized RX1, .code yX1_countRows cX1_countRows 4 (some .int), .methodLink RX1 84 yX1_lastOfRow, .static yX1_lastOfRow, .code yX1_lastOfRow cX1_lastOfRow 8 (some .int), .methodLink RX1 95 Lib.Math.min.name, .static Lib.Math.min.name, .initialized "java/lang/Math", .code Lib.Math.min.name Lib.Math.min.code 2 (some .int), .methodLink RX1 74 yX1_byteCount, .static yX1_byteCount, .code yX1_byteCount cX1_byteCount 1 (some .int), .methodLink RX1 116 yX1_lastOfLength, .static yX1_lastOfLength, .code yX1_lastOfLength cX1_lastOfLength 1 (some .int), .constant RX1 119 (65535), .constant RX1 22 (1114111)] ++ wsX10 ++ wsX00)
def wsX1_skipRows : List Cond := .code yX1_skipRows cX1_skipRows 5 (some .int) :: ([.methodLink RX1 84 yX1_lastOfRow, .static yX1_lastOfRow, .initialized RX1, .code yX1_lastOfRow cX1_lastOfRow 8 (some .int), .methodLink RX1 95 Lib.Math.min.name, .static Lib.Math.min.name, .initialized "java/lang/Math", .code Lib.Math.min.name Lib.Math.min.code 2 (some .int), .methodLink RX1 74 yX1_byteCount, .static yX1_byteCount, .code yX1_byteCount cX1_byteCount 1 (some .int), .methodLink RX1 116 yX1_lastOfLength, .static yX1_lastOfLength, .code yX1_lastOfLength cX1_lastOfLength 1 (some .int), .constant RX1 119 (65535), .constant RX1 22 (1114111)])
def wsX1_firstOfRow : List Cond := .code yX1_firstOfRow cX1_firstOfRow 5 (some .int) :: ([.fieldLink RX1 10 "CharRows" "held" "LCharRows$Ranges;", .methodLink RX1 66 yX1_countRows, .static yX1_countRows, .initialized RX1, .code yX1_countRows cX1_countRows 4 (some .int), .methodLink RX1 84 yX1_lastOfRow, .static yX1_lastOfRow, .code yX1_lastOfRow cX1_lastOfRow 8 (some .int), .methodLink RX1 95 Lib.Math.min.name, .static Lib.Math.min.name, .initialized "java/lang/Math", .code Lib.Math.min.name Lib.Math.min.code 2 (some .int), .methodLink RX1 74 yX1_byteCount, .static yX1_byteCount, .code yX1_byteCount cX1_byteCount 1 (some .int), .methodLink RX1 116 yX1_lastOfLength, .static yX1_lastOfLength, .code yX1_lastOfLength cX1_lastOfLength 1 (some .int), .constant RX1 119 (65535), .constant RX1 22 (1114111), .methodLink RX1 113 yX1_skipRows, .static yX1_skipRows, .code yX1_skipRows cX1_skipRows 5 (some .int)] ++ wsX10 ++ wsX00)
def wsX1_leadMark : List Cond := .code yX1_leadMark cX1_leadMark 1 (some .int) :: ([.constant RX1 123 (65280)])
def wsX1_byteOf : List Cond := .code yX1_byteOf cX1_byteOf 4 (some .int) :: ([.methodLink RX1 120 yX1_leadMark, .static yX1_leadMark, .initialized RX1, .code yX1_leadMark cX1_leadMark 1 (some .int), .constant RX1 123 (65280)])
def wsX1_row_r1 : List Cond := [Cond.fieldLink RX1 10 "CharRows" "held" "LCharRows$Ranges;", Cond.methodLink RX1 70 yX1_firstOfRow, Cond.instanceMethod yX1_firstOfRow, Cond.selects RX1 yX1_firstOfRow yX1_firstOfRow, Cond.initialized RX1, Cond.code yX1_firstOfRow cX1_firstOfRow 5 (some .int), Cond.methodLink RX1 66 yX1_countRows, Cond.static yX1_countRows, Cond.code yX1_countRows cX1_countRows 4 (some .int), Cond.methodLink RX1 84 yX1_lastOfRow, Cond.static yX1_lastOfRow, Cond.code yX1_lastOfRow cX1_lastOfRow 8 (some .int), Cond.methodLink RX1 95 Lib.Math.min.name, Cond.static Lib.Math.min.name, Cond.initialized "java/lang/Math", Cond.code Lib.Math.min.name Lib.Math.min.code 2 (some .int), Cond.methodLink RX1 74 yX1_byteCount, Cond.static yX1_byteCount, Cond.code yX1_byteCount cX1_byteCount 1 (some .int), Cond.methodLink RX1 116 yX1_lastOfLength, Cond.static yX1_lastOfLength, Cond.code yX1_lastOfLength cX1_lastOfLength 1 (some .int), Cond.constant RX1 119 (65535), Cond.constant RX1 22 (1114111)]
def wsX1_row_r2 : List Cond := [Cond.methodLink RX1 113 yX1_skipRows, Cond.static yX1_skipRows, Cond.code yX1_skipRows cX1_skipRows 5 (some .int), Cond.methodLink RX1 77 yX1_byteOf, Cond.static yX1_byteOf, Cond.code yX1_byteOf cX1_byteOf 4 (some .int), Cond.methodLink RX1 120 yX1_leadMark, Cond.static yX1_leadMark, Cond.code yX1_leadMark cX1_leadMark 1 (some .int), Cond.constant RX1 123 (65280), Cond.instanceMethod yX0_endAround, Cond.initialized RX0, Cond.selects RX0 yX0_endAround yX0_endAround, Cond.code yX0_endAround cX0_endAround 3 (some .int), Cond.fieldLink RX0 16 "CharRows$Ranges" "count" "I", Cond.fieldLink RX0 9 "CharRows$Ranges" "lows" "[I", Cond.fieldLink RX0 13 "CharRows$Ranges" "highs" "[I", Cond.methodLink RX0 26 yX0_firstEndingFrom, Cond.instanceMethod yX0_firstEndingFrom, Cond.selects RX0 yX0_firstEndingFrom yX0_firstEndingFrom, Cond.code yX0_firstEndingFrom cX0_firstEndingFrom 5 (some .int)]
def wsX1_row : List Cond := .code yX1_row cX1_row 6 (some .int) :: ((wsX1_row_r1 ++ wsX1_row_r2) ++ wsX10 ++ wsX00)
def wsX1_byteAt : List Cond := .code yX1_byteAt cX1_byteAt 2 (some .int) :: ([])
def wsX1_decode : List Cond := .code yX1_decode cX1_decode 4 (some .int) :: ([.methodLink RX1 124 yX1_byteAt, .static yX1_byteAt, .initialized RX1, .code yX1_byteAt cX1_byteAt 2 (some .int)])
def wsX1_startsWithBytesOf : List Cond := .code yX1_startsWithBytesOf cX1_startsWithBytesOf 4 (some .boolean) :: ([.methodLink RX1 77 yX1_byteOf, .static yX1_byteOf, .initialized RX1, .code yX1_byteOf cX1_byteOf 4 (some .int), .methodLink RX1 120 yX1_leadMark, .static yX1_leadMark, .code yX1_leadMark cX1_leadMark 1 (some .int), .constant RX1 123 (65280), .methodLink RX1 124 yX1_byteAt, .static yX1_byteAt, .code yX1_byteAt cX1_byteAt 2 (some .int)])
def wsX1_takes_r1 : List Cond := [Cond.fieldLink RX1 10 "CharRows" "held" "LCharRows$Ranges;", Cond.methodLink RX1 87 yX1_decode, Cond.static yX1_decode, Cond.initialized RX1, Cond.code yX1_decode cX1_decode 4 (some .int), Cond.methodLink RX1 124 yX1_byteAt, Cond.static yX1_byteAt, Cond.code yX1_byteAt cX1_byteAt 2 (some .int), Cond.instanceMethod yX0_holds, Cond.initialized RX0, Cond.selects RX0 yX0_holds yX0_holds, Cond.code yX0_holds cX0_holds 3 (some .boolean), Cond.fieldLink RX0 16 "CharRows$Ranges" "count" "I", Cond.fieldLink RX0 9 "CharRows$Ranges" "lows" "[I", Cond.methodLink RX0 26 yX0_firstEndingFrom, Cond.instanceMethod yX0_firstEndingFrom, Cond.selects RX0 yX0_firstEndingFrom yX0_firstEndingFrom, Cond.code yX0_firstEndingFrom cX0_firstEndingFrom 5 (some .int), Cond.fieldLink RX0 13 "CharRows$Ranges" "highs" "[I", Cond.methodLink RX1 74 yX1_byteCount, Cond.static yX1_byteCount, Cond.code yX1_byteCount cX1_byteCount 1 (some .int), Cond.methodLink RX1 116 yX1_lastOfLength, Cond.static yX1_lastOfLength]
def wsX1_takes_r2 : List Cond := [Cond.code yX1_lastOfLength cX1_lastOfLength 1 (some .int), Cond.constant RX1 119 (65535), Cond.constant RX1 22 (1114111), Cond.methodLink RX1 90 yX1_startsWithBytesOf, Cond.static yX1_startsWithBytesOf, Cond.code yX1_startsWithBytesOf cX1_startsWithBytesOf 4 (some .boolean), Cond.methodLink RX1 77 yX1_byteOf, Cond.static yX1_byteOf, Cond.code yX1_byteOf cX1_byteOf 4 (some .int), Cond.methodLink RX1 120 yX1_leadMark, Cond.static yX1_leadMark, Cond.code yX1_leadMark cX1_leadMark 1 (some .int), Cond.constant RX1 123 (65280)]
def wsX1_takes : List Cond := .code yX1_takes cX1_takes 4 (some .boolean) :: ((wsX1_takes_r1 ++ wsX1_takes_r2) ++ wsX10 ++ wsX00)
def wsJ9_max_7cf53 : List Cond := .code yJ9_max_7cf53 cJ9_max_7cf53 2 (some .int) :: ([])
def wsJ9_min_7cf53 : List Cond := .code yJ9_min_7cf53 cJ9_min_7cf53 2 (some .int) :: ([])
def wsL_add_r1 : List Cond := [Cond.classLink RL 13 "java/lang/IllegalArgumentException", Cond.methodLink RL 7 yX1_add, Cond.instanceMethod yX1_add, Cond.selects RX1 yX1_add yX1_add, Cond.initialized RX1, Cond.code yX1_add cX1_add 3 (some .int), Cond.classLink RX1 23 "java/lang/IllegalArgumentException", Cond.initialized "java/lang/IllegalArgumentException", Cond.constant RX1 22 (1114111), Cond.fieldLink RX1 10 "CharRows" "held" "LCharRows$Ranges;", Cond.methodLink RX1 30 yX1_putCharacters, Cond.static yX1_putCharacters, Cond.code yX1_putCharacters cX1_putCharacters 3 none, Cond.constant RX1 94 (55295), Cond.methodLink RX1 95 Lib.Math.min.name, Cond.static Lib.Math.min.name, Cond.initialized "java/lang/Math", Cond.code Lib.Math.min.name Lib.Math.min.code 2 (some .int), Cond.constant RX1 100 (57344), Cond.methodLink RX1 101 Lib.Math.max.name, Cond.static Lib.Math.max.name, Cond.code Lib.Math.max.name Lib.Math.max.code 2 (some .int), Cond.instanceMethod yX0_put, Cond.initialized RX0]
def wsL_add_r2 : List Cond := [Cond.selects RX0 yX0_put yX0_put, Cond.code yX0_put cX0_put 5 none, Cond.fieldLink RX0 16 "CharRows$Ranges" "count" "I", Cond.fieldLink RX0 9 "CharRows$Ranges" "lows" "[I", Cond.methodLink RX0 26 yX0_firstEndingFrom, Cond.instanceMethod yX0_firstEndingFrom, Cond.selects RX0 yX0_firstEndingFrom yX0_firstEndingFrom, Cond.code yX0_firstEndingFrom cX0_firstEndingFrom 5 (some .int), Cond.fieldLink RX0 13 "CharRows$Ranges" "highs" "[I", Cond.methodLink RX0 30 yX0_insert, Cond.instanceMethod yX0_insert, Cond.selects RX0 yX0_insert yX0_insert, Cond.code yX0_insert cX0_insert 4 none, Cond.methodLink RX0 38 yX0_shift, Cond.instanceMethod yX0_shift, Cond.selects RX0 yX0_shift yX0_shift, Cond.code yX0_shift cX0_shift 3 none, Cond.methodLink RX0 20 arraycopyName, Cond.native arraycopyName, Cond.static arraycopyName, Cond.initialized "java/lang/System", Cond.methodLink RX0 34 yX0_unite, Cond.instanceMethod yX0_unite, Cond.selects RX0 yX0_unite yX0_unite]
def wsL_add_r3 : List Cond := [Cond.code yX0_unite cX0_unite 5 none, Cond.methodLink RX0 42 Lib.Math.min.name, Cond.methodLink RX0 48 Lib.Math.max.name]
def wsL_add : List Cond := .codeWith yL_add cL_add 5 (some .int) [(0, 10, 13, 13)] :: ((wsL_add_r1 ++ (wsL_add_r2 ++ wsL_add_r3)) ++ wsX10 ++ wsX00 ++ (vx_atS RX1 27 "java/lang/IllegalArgumentException" ["java/lang/RuntimeException", "java/lang/Exception"]).filter goodWord)
def wsL_law0_r1 : List Cond := [Cond.classLink RL 8 RX1, Cond.instantiable RX1 3, Cond.initialized RX1, Cond.methodLink RL 15 yX1_init, Cond.instanceMethod yX1_init, Cond.code yX1_init cX1_init 1 none, Cond.methodLink RX1 1 objectInit, Cond.instanceMethod objectInit, Cond.code objectInit ⟨#[0xb1]⟩ 1 none, Cond.classLink RX1 7 RX0, Cond.instantiable RX0 3, Cond.initialized RX0, Cond.fieldLink RX1 10 "CharRows" "held" "LCharRows$Ranges;", Cond.fieldLink RX1 16 "CharRows" "spare" "LCharRows$Ranges;", Cond.fieldLink RX1 19 "CharRows" "kept" "LCharRows$Ranges;", Cond.instanceMethod yX0_init, Cond.code yX0_init cX0_init 1 none, Cond.methodLink RX0 1 objectInit, Cond.arrayClass .int, Cond.fieldLink RX0 9 "CharRows$Ranges" "lows" "[I", Cond.fieldLink RX0 13 "CharRows$Ranges" "highs" "[I", Cond.fieldLink RX0 16 "CharRows$Ranges" "count" "I", Cond.methodLink RL 19 yL_add, Cond.static yL_add]
def wsL_law0_r2 : List Cond := [Cond.initialized RL, Cond.codeWith yL_add cL_add 5 (some .int) [(0, 10, 13, 13)], Cond.classLink RL 13 "java/lang/IllegalArgumentException", Cond.methodLink RL 7 yX1_add, Cond.instanceMethod yX1_add, Cond.selects RX1 yX1_add yX1_add, Cond.code yX1_add cX1_add 3 (some .int), Cond.classLink RX1 23 "java/lang/IllegalArgumentException", Cond.initialized "java/lang/IllegalArgumentException", Cond.constant RX1 22 (1114111), Cond.methodLink RX1 30 yX1_putCharacters, Cond.static yX1_putCharacters, Cond.code yX1_putCharacters cX1_putCharacters 3 none, Cond.constant RX1 94 (55295), Cond.methodLink RX1 95 Lib.Math.min.name, Cond.static Lib.Math.min.name, Cond.initialized "java/lang/Math", Cond.code Lib.Math.min.name Lib.Math.min.code 2 (some .int), Cond.constant RX1 100 (57344), Cond.methodLink RX1 101 Lib.Math.max.name, Cond.static Lib.Math.max.name, Cond.code Lib.Math.max.name Lib.Math.max.code 2 (some .int), Cond.instanceMethod yX0_put, Cond.selects RX0 yX0_put yX0_put]
def wsL_law0_r3 : List Cond := [Cond.code yX0_put cX0_put 5 none, Cond.methodLink RX0 26 yX0_firstEndingFrom, Cond.instanceMethod yX0_firstEndingFrom, Cond.selects RX0 yX0_firstEndingFrom yX0_firstEndingFrom, Cond.code yX0_firstEndingFrom cX0_firstEndingFrom 5 (some .int), Cond.methodLink RX0 30 yX0_insert, Cond.instanceMethod yX0_insert, Cond.selects RX0 yX0_insert yX0_insert, Cond.code yX0_insert cX0_insert 4 none, Cond.methodLink RX0 38 yX0_shift, Cond.instanceMethod yX0_shift, Cond.selects RX0 yX0_shift yX0_shift, Cond.code yX0_shift cX0_shift 3 none, Cond.methodLink RX0 20 arraycopyName, Cond.native arraycopyName, Cond.static arraycopyName, Cond.initialized "java/lang/System", Cond.methodLink RX0 34 yX0_unite, Cond.instanceMethod yX0_unite, Cond.selects RX0 yX0_unite yX0_unite, Cond.code yX0_unite cX0_unite 5 none, Cond.methodLink RX0 42 Lib.Math.min.name, Cond.methodLink RX0 48 Lib.Math.max.name, Cond.methodLink RL 29 yX1_clear]
def wsL_law0_r4 : List Cond := [Cond.instanceMethod yX1_clear, Cond.selects RX1 yX1_clear yX1_clear, Cond.code yX1_clear cX1_clear 1 none, Cond.instanceMethod yX0_empty, Cond.selects RX0 yX0_empty yX0_empty, Cond.code yX0_empty cX0_empty 1 none, Cond.methodLink RL 33 yX1_fold, Cond.instanceMethod yX1_fold, Cond.selects RX1 yX1_fold yX1_fold, Cond.code yX1_fold cX1_fold 1 (some .int), Cond.methodLink RX1 41 yX1_foldLetters, Cond.instanceMethod yX1_foldLetters, Cond.selects RX1 yX1_foldLetters yX1_foldLetters, Cond.code yX1_foldLetters cX1_foldLetters 4 none, Cond.fieldLink RX1 104 "CharRows" "LETTERS" "[I", Cond.methodLink RX1 107 yX1_foldTwo, Cond.instanceMethod yX1_foldTwo, Cond.selects RX1 yX1_foldTwo yX1_foldTwo, Cond.code yX1_foldTwo cX1_foldTwo 5 none, Cond.instanceMethod yX0_holds, Cond.selects RX0 yX0_holds yX0_holds, Cond.code yX0_holds cX0_holds 3 (some .boolean), Cond.methodLink RX1 44 yX1_foldPairs, Cond.instanceMethod yX1_foldPairs]
def wsL_law0_r5 : List Cond := [Cond.selects RX1 yX1_foldPairs yX1_foldPairs, Cond.code yX1_foldPairs cX1_foldPairs 2 none, Cond.fieldLink RX1 110 "CharRows" "PAIRS" "[I", Cond.methodLink RL 37 yX1_turn, Cond.instanceMethod yX1_turn, Cond.selects RX1 yX1_turn yX1_turn, Cond.code yX1_turn cX1_turn 5 (some .int), Cond.methodLink RL 41 yX1_keep, Cond.instanceMethod yX1_keep, Cond.selects RX1 yX1_keep yX1_keep, Cond.code yX1_keep cX1_keep 1 none, Cond.instanceMethod yX0_become, Cond.selects RX0 yX0_become yX0_become, Cond.code yX0_become cX0_become 2 none, Cond.methodLink RL 45 yX1_join, Cond.instanceMethod yX1_join, Cond.selects RX1 yX1_join yX1_join, Cond.code yX1_join cX1_join 2 (some .int), Cond.methodLink RL 49 yX1_has, Cond.instanceMethod yX1_has, Cond.selects RX1 yX1_has yX1_has, Cond.code yX1_has cX1_has 2 (some .boolean), Cond.methodLink RL 54 yX1_ranges, Cond.instanceMethod yX1_ranges]
def wsL_law0_r6 : List Cond := [Cond.selects RX1 yX1_ranges yX1_ranges, Cond.code yX1_ranges cX1_ranges 1 (some .int), Cond.methodLink RL 58 yX1_range, Cond.instanceMethod yX1_range, Cond.selects RX1 yX1_range yX1_range, Cond.code yX1_range cX1_range 3 (some .int), Cond.methodLink RL 62 yX1_rows, Cond.instanceMethod yX1_rows, Cond.selects RX1 yX1_rows yX1_rows, Cond.code yX1_rows cX1_rows 3 (some .int), Cond.methodLink RX1 66 yX1_countRows, Cond.static yX1_countRows, Cond.code yX1_countRows cX1_countRows 4 (some .int), Cond.methodLink RX1 84 yX1_lastOfRow, Cond.static yX1_lastOfRow, Cond.code yX1_lastOfRow cX1_lastOfRow 8 (some .int), Cond.methodLink RX1 74 yX1_byteCount, Cond.static yX1_byteCount, Cond.code yX1_byteCount cX1_byteCount 1 (some .int), Cond.methodLink RX1 116 yX1_lastOfLength, Cond.static yX1_lastOfLength, Cond.code yX1_lastOfLength cX1_lastOfLength 1 (some .int), Cond.constant RX1 119 (65535), Cond.methodLink RL 66 yX1_row]
def wsL_law0_r7 : List Cond := [Cond.instanceMethod yX1_row, Cond.selects RX1 yX1_row yX1_row, Cond.code yX1_row cX1_row 6 (some .int), Cond.methodLink RX1 70 yX1_firstOfRow, Cond.instanceMethod yX1_firstOfRow, Cond.selects RX1 yX1_firstOfRow yX1_firstOfRow, Cond.code yX1_firstOfRow cX1_firstOfRow 5 (some .int), Cond.methodLink RX1 113 yX1_skipRows, Cond.static yX1_skipRows, Cond.code yX1_skipRows cX1_skipRows 5 (some .int), Cond.methodLink RX1 77 yX1_byteOf, Cond.static yX1_byteOf, Cond.code yX1_byteOf cX1_byteOf 4 (some .int), Cond.methodLink RX1 120 yX1_leadMark, Cond.static yX1_leadMark, Cond.code yX1_leadMark cX1_leadMark 1 (some .int), Cond.constant RX1 123 (65280), Cond.instanceMethod yX0_endAround, Cond.selects RX0 yX0_endAround yX0_endAround, Cond.code yX0_endAround cX0_endAround 3 (some .int), Cond.methodLink RL 71 yX1_takes, Cond.instanceMethod yX1_takes, Cond.selects RX1 yX1_takes yX1_takes, Cond.code yX1_takes cX1_takes 4 (some .boolean)]
def wsL_law0_r8 : List Cond := [Cond.methodLink RX1 87 yX1_decode, Cond.static yX1_decode, Cond.code yX1_decode cX1_decode 4 (some .int), Cond.methodLink RX1 124 yX1_byteAt, Cond.static yX1_byteAt, Cond.code yX1_byteAt cX1_byteAt 2 (some .int), Cond.methodLink RX1 90 yX1_startsWithBytesOf, Cond.static yX1_startsWithBytesOf, Cond.code yX1_startsWithBytesOf cX1_startsWithBytesOf 4 (some .boolean)]
def wsL_law0 : List Cond := (wsL_law0_r1 ++ (wsL_law0_r2 ++ (wsL_law0_r3 ++ (wsL_law0_r4 ++ (wsL_law0_r5 ++ (wsL_law0_r6 ++ (wsL_law0_r7 ++ wsL_law0_r8))))))) ++ wsX10 ++ wsX00 ++ ([] : List Cond)
def wsL_law : List Cond := wsL_law0 ++ (vx_atS RX1 27 "java/lang/IllegalArgumentException" ["java/lang/RuntimeException", "java/lang/Exception"]).filter goodWord
set_option maxRecDepth 20000 in
theorem wsL_law_in0 : ∀ w ∈ wsL_law0, w ∈ lw_tbl := fun w h => (goodIn_p wsL_law0 [35, 38, 43, 225, 136, 120, 123, 102, 98, 106, 110, 117, 72, 76, 80, 84, 90, 94, 127, 133, 145, 149, 153, 157, 161, 165, 169, 172, 175, 178, 181, 186, 190, 193, 196, 199, 204, 208, 211, 214, 217] (by decide +kernel) (by decide +kernel) w h).1
theorem wsL_law_x0 : ∀ w ∈ (vx_atS RX1 27 "java/lang/IllegalArgumentException" ["java/lang/RuntimeException", "java/lang/Exception"]).filter goodWord, w ∈ lw_tbl := by decide +kernel
theorem wsL_law_in : ∀ w ∈ wsL_law, w ∈ lw_tbl := fun w h => (List.mem_append.mp h).elim (fun h => wsL_law_in0 w h) (fun h => wsL_law_x0 w h)
theorem inlX0 : ∀ w ∈ wsX00, w ∈ wsL_law := fun _ h => List.mem_append_left _ (List.mem_append_left _ (List.mem_append_right _ h))
theorem inX0 : ∀ w ∈ wsX00, w ∈ lw_tbl := fun w h => wsL_law_in w (inlX0 w h)
theorem inlX1 : ∀ w ∈ wsX10, w ∈ wsL_law := fun _ h => List.mem_append_left _ (List.mem_append_left _ (List.mem_append_left _ (List.mem_append_right _ h)))
theorem inX1 : ∀ w ∈ wsX10, w ∈ lw_tbl := fun w h => wsL_law_in w (inlX1 w h)
theorem inX2 : ∀ w ∈ wsX20, w ∈ lw_tbl := by decide +kernel
theorem inJ9 : ∀ w ∈ wsJ90, w ∈ lw_tbl := by decide +kernel
theorem inJ0 : ∀ w ∈ wsJ00, w ∈ lw_tbl := by decide +kernel
theorem inJ10 : ∀ w ∈ wsJ100, w ∈ lw_tbl := by decide +kernel
theorem dX0_init_0 : decode cX0_init 0 = .ok (.aload_n 0, 1) := by decide +kernel
theorem dX0_init_1 : decode cX0_init 1 = .ok (.invokespecial 1, 3) := by decide +kernel
theorem dX0_init_4 : decode cX0_init 4 = .ok (.aload_n 0, 1) := by decide +kernel
theorem dX0_init_5 : decode cX0_init 5 = .ok (.sipush 768, 3) := by decide +kernel
theorem dX0_init_8 : decode cX0_init 8 = .ok (.newarray .int, 2) := by decide +kernel
theorem dX0_init_10 : decode cX0_init 10 = .ok (.putfield 9, 3) := by decide +kernel
theorem dX0_init_13 : decode cX0_init 13 = .ok (.aload_n 0, 1) := by decide +kernel
theorem dX0_init_14 : decode cX0_init 14 = .ok (.sipush 768, 3) := by decide +kernel
theorem dX0_init_17 : decode cX0_init 17 = .ok (.newarray .int, 2) := by decide +kernel
theorem dX0_init_19 : decode cX0_init 19 = .ok (.putfield 13, 3) := by decide +kernel
theorem dX0_init_22 : decode cX0_init 22 = .ok (.aload_n 0, 1) := by decide +kernel
theorem dX0_init_23 : decode cX0_init 23 = .ok (.iconst 0, 1) := by decide +kernel
theorem dX0_init_24 : decode cX0_init 24 = .ok (.putfield 16, 3) := by decide +kernel
theorem dX0_init_27 : decode cX0_init 27 = .ok (.return_, 1) := by decide +kernel
theorem dX0_empty_0 : decode cX0_empty 0 = .ok (.aload_n 0, 1) := by decide +kernel
theorem dX0_empty_1 : decode cX0_empty 1 = .ok (.iconst 0, 1) := by decide +kernel
theorem dX0_empty_2 : decode cX0_empty 2 = .ok (.putfield 16, 3) := by decide +kernel
theorem dX0_empty_5 : decode cX0_empty 5 = .ok (.return_, 1) := by decide +kernel
theorem dX0_become_0 : decode cX0_become 0 = .ok (.aload_n 1, 1) := by decide +kernel
theorem dX0_become_1 : decode cX0_become 1 = .ok (.getfield 9, 3) := by decide +kernel
theorem dX0_become_4 : decode cX0_become 4 = .ok (.iconst 0, 1) := by decide +kernel
theorem dX0_become_5 : decode cX0_become 5 = .ok (.aload_n 0, 1) := by decide +kernel
theorem dX0_become_6 : decode cX0_become 6 = .ok (.getfield 9, 3) := by decide +kernel
theorem dX0_become_9 : decode cX0_become 9 = .ok (.iconst 0, 1) := by decide +kernel
theorem dX0_become_10 : decode cX0_become 10 = .ok (.aload_n 1, 1) := by decide +kernel
theorem dX0_become_11 : decode cX0_become 11 = .ok (.getfield 16, 3) := by decide +kernel
theorem dX0_become_14 : decode cX0_become 14 = .ok (.invokestatic 20, 3) := by decide +kernel
theorem dX0_become_17 : decode cX0_become 17 = .ok (.aload_n 1, 1) := by decide +kernel
theorem dX0_become_18 : decode cX0_become 18 = .ok (.getfield 13, 3) := by decide +kernel
theorem dX0_become_21 : decode cX0_become 21 = .ok (.iconst 0, 1) := by decide +kernel
theorem dX0_become_22 : decode cX0_become 22 = .ok (.aload_n 0, 1) := by decide +kernel
theorem dX0_become_23 : decode cX0_become 23 = .ok (.getfield 13, 3) := by decide +kernel
theorem dX0_become_26 : decode cX0_become 26 = .ok (.iconst 0, 1) := by decide +kernel
theorem dX0_become_27 : decode cX0_become 27 = .ok (.aload_n 1, 1) := by decide +kernel
theorem dX0_become_28 : decode cX0_become 28 = .ok (.getfield 16, 3) := by decide +kernel
theorem dX0_become_31 : decode cX0_become 31 = .ok (.invokestatic 20, 3) := by decide +kernel
theorem dX0_become_34 : decode cX0_become 34 = .ok (.aload_n 0, 1) := by decide +kernel
theorem dX0_become_35 : decode cX0_become 35 = .ok (.aload_n 1, 1) := by decide +kernel
theorem dX0_become_36 : decode cX0_become 36 = .ok (.getfield 16, 3) := by decide +kernel
theorem dX0_become_39 : decode cX0_become 39 = .ok (.putfield 16, 3) := by decide +kernel
theorem dX0_become_42 : decode cX0_become 42 = .ok (.return_, 1) := by decide +kernel
set_option maxRecDepth 20000 in
theorem ggX0_holds_X0_firstEndingFrom : GoodIn wsX0_holds wsX0_firstEndingFrom := goodIn_r _ [7, 1, 8, 9, 10, 11] (by decide +kernel) (by decide +kernel)
set_option maxRecDepth 20000 in
theorem gX0_holds_X0_firstEndingFrom : GoodIn wsX0_holds (wsV RX0 26 RX0 yX0_firstEndingFrom wsX0_firstEndingFrom) := goodIn_app (goodIn_of _ (by decide +kernel)) ggX0_holds_X0_firstEndingFrom
theorem dX0_holds_0 : decode cX0_holds 0 = .ok (.aload_n 0, 1) := by decide +kernel
theorem dX0_holds_1 : decode cX0_holds 1 = .ok (.iload_n 1, 1) := by decide +kernel
theorem dX0_holds_2 : decode cX0_holds 2 = .ok (.invokevirtual 26, 3) := by decide +kernel
theorem dX0_holds_5 : decode cX0_holds 5 = .ok (.istore_n 2, 1) := by decide +kernel
theorem dX0_holds_6 : decode cX0_holds 6 = .ok (.iload_n 2, 1) := by decide +kernel
theorem dX0_holds_7 : decode cX0_holds 7 = .ok (.aload_n 0, 1) := by decide +kernel
theorem dX0_holds_8 : decode cX0_holds 8 = .ok (.getfield 16, 3) := by decide +kernel
theorem dX0_holds_11 : decode cX0_holds 11 = .ok (.if_icmp .ge 17, 3) := by decide +kernel
theorem dX0_holds_14 : decode cX0_holds 14 = .ok (.aload_n 0, 1) := by decide +kernel
theorem dX0_holds_15 : decode cX0_holds 15 = .ok (.getfield 9, 3) := by decide +kernel
theorem dX0_holds_18 : decode cX0_holds 18 = .ok (.iload_n 2, 1) := by decide +kernel
theorem dX0_holds_19 : decode cX0_holds 19 = .ok (.iaload, 1) := by decide +kernel
theorem dX0_holds_20 : decode cX0_holds 20 = .ok (.iload_n 1, 1) := by decide +kernel
theorem dX0_holds_21 : decode cX0_holds 21 = .ok (.if_icmp .gt 7, 3) := by decide +kernel
theorem dX0_holds_24 : decode cX0_holds 24 = .ok (.iconst 1, 1) := by decide +kernel
theorem dX0_holds_25 : decode cX0_holds 25 = .ok (.goto 4, 3) := by decide +kernel
theorem dX0_holds_28 : decode cX0_holds 28 = .ok (.iconst 0, 1) := by decide +kernel
theorem dX0_holds_29 : decode cX0_holds 29 = .ok (.ireturn, 1) := by decide +kernel
set_option maxRecDepth 20000 in
theorem ggX0_endAround_X0_firstEndingFrom : GoodIn wsX0_endAround wsX0_firstEndingFrom := goodIn_r _ [8, 1, 3, 9, 10, 11] (by decide +kernel) (by decide +kernel)
set_option maxRecDepth 20000 in
theorem gX0_endAround_X0_firstEndingFrom : GoodIn wsX0_endAround (wsV RX0 26 RX0 yX0_firstEndingFrom wsX0_firstEndingFrom) := goodIn_app (goodIn_of _ (by decide +kernel)) ggX0_endAround_X0_firstEndingFrom
theorem dX0_endAround_0 : decode cX0_endAround 0 = .ok (.aload_n 0, 1) := by decide +kernel
theorem dX0_endAround_1 : decode cX0_endAround 1 = .ok (.iload_n 1, 1) := by decide +kernel
theorem dX0_endAround_2 : decode cX0_endAround 2 = .ok (.invokevirtual 26, 3) := by decide +kernel
theorem dX0_endAround_5 : decode cX0_endAround 5 = .ok (.istore_n 2, 1) := by decide +kernel
theorem dX0_endAround_6 : decode cX0_endAround 6 = .ok (.iload_n 2, 1) := by decide +kernel
theorem dX0_endAround_7 : decode cX0_endAround 7 = .ok (.aload_n 0, 1) := by decide +kernel
theorem dX0_endAround_8 : decode cX0_endAround 8 = .ok (.getfield 16, 3) := by decide +kernel
theorem dX0_endAround_11 : decode cX0_endAround 11 = .ok (.if_icmp .ge 22, 3) := by decide +kernel
theorem dX0_endAround_14 : decode cX0_endAround 14 = .ok (.aload_n 0, 1) := by decide +kernel
theorem dX0_endAround_15 : decode cX0_endAround 15 = .ok (.getfield 9, 3) := by decide +kernel
theorem dX0_endAround_18 : decode cX0_endAround 18 = .ok (.iload_n 2, 1) := by decide +kernel
theorem dX0_endAround_19 : decode cX0_endAround 19 = .ok (.iaload, 1) := by decide +kernel
theorem dX0_endAround_20 : decode cX0_endAround 20 = .ok (.iload_n 1, 1) := by decide +kernel
theorem dX0_endAround_21 : decode cX0_endAround 21 = .ok (.if_icmp .gt 12, 3) := by decide +kernel
theorem dX0_endAround_24 : decode cX0_endAround 24 = .ok (.aload_n 0, 1) := by decide +kernel
theorem dX0_endAround_25 : decode cX0_endAround 25 = .ok (.getfield 13, 3) := by decide +kernel
theorem dX0_endAround_28 : decode cX0_endAround 28 = .ok (.iload_n 2, 1) := by decide +kernel
theorem dX0_endAround_29 : decode cX0_endAround 29 = .ok (.iaload, 1) := by decide +kernel
theorem dX0_endAround_30 : decode cX0_endAround 30 = .ok (.goto 4, 3) := by decide +kernel
theorem dX0_endAround_33 : decode cX0_endAround 33 = .ok (.iload_n 1, 1) := by decide +kernel
theorem dX0_endAround_34 : decode cX0_endAround 34 = .ok (.ireturn, 1) := by decide +kernel
theorem dX0_firstEndingFrom_0 : decode cX0_firstEndingFrom 0 = .ok (.iconst 0, 1) := by decide +kernel
theorem dX0_firstEndingFrom_1 : decode cX0_firstEndingFrom 1 = .ok (.istore_n 2, 1) := by decide +kernel
theorem dX0_firstEndingFrom_2 : decode cX0_firstEndingFrom 2 = .ok (.aload_n 0, 1) := by decide +kernel
theorem dX0_firstEndingFrom_3 : decode cX0_firstEndingFrom 3 = .ok (.getfield 16, 3) := by decide +kernel
theorem dX0_firstEndingFrom_6 : decode cX0_firstEndingFrom 6 = .ok (.istore_n 3, 1) := by decide +kernel
theorem dX0_firstEndingFrom_7 : decode cX0_firstEndingFrom 7 = .ok (.iload_n 2, 1) := by decide +kernel
theorem dX0_firstEndingFrom_8 : decode cX0_firstEndingFrom 8 = .ok (.iload_n 3, 1) := by decide +kernel
theorem dX0_firstEndingFrom_9 : decode cX0_firstEndingFrom 9 = .ok (.if_icmp .ge 35, 3) := by decide +kernel
theorem dX0_firstEndingFrom_12 : decode cX0_firstEndingFrom 12 = .ok (.iload_n 2, 1) := by decide +kernel
theorem dX0_firstEndingFrom_13 : decode cX0_firstEndingFrom 13 = .ok (.iload_n 3, 1) := by decide +kernel
theorem dX0_firstEndingFrom_14 : decode cX0_firstEndingFrom 14 = .ok (.iadd, 1) := by decide +kernel
theorem dX0_firstEndingFrom_15 : decode cX0_firstEndingFrom 15 = .ok (.iconst 1, 1) := by decide +kernel
theorem dX0_firstEndingFrom_16 : decode cX0_firstEndingFrom 16 = .ok (.iushr, 1) := by decide +kernel
theorem dX0_firstEndingFrom_17 : decode cX0_firstEndingFrom 17 = .ok (.istore 4, 2) := by decide +kernel
theorem dX0_firstEndingFrom_19 : decode cX0_firstEndingFrom 19 = .ok (.aload_n 0, 1) := by decide +kernel
theorem dX0_firstEndingFrom_20 : decode cX0_firstEndingFrom 20 = .ok (.getfield 13, 3) := by decide +kernel
theorem dX0_firstEndingFrom_23 : decode cX0_firstEndingFrom 23 = .ok (.iload 4, 2) := by decide +kernel
theorem dX0_firstEndingFrom_25 : decode cX0_firstEndingFrom 25 = .ok (.iaload, 1) := by decide +kernel
theorem dX0_firstEndingFrom_26 : decode cX0_firstEndingFrom 26 = .ok (.iload_n 1, 1) := by decide +kernel
theorem dX0_firstEndingFrom_27 : decode cX0_firstEndingFrom 27 = .ok (.if_icmp .ge 11, 3) := by decide +kernel
theorem dX0_firstEndingFrom_30 : decode cX0_firstEndingFrom 30 = .ok (.iload 4, 2) := by decide +kernel
theorem dX0_firstEndingFrom_32 : decode cX0_firstEndingFrom 32 = .ok (.iconst 1, 1) := by decide +kernel
theorem dX0_firstEndingFrom_33 : decode cX0_firstEndingFrom 33 = .ok (.iadd, 1) := by decide +kernel
theorem dX0_firstEndingFrom_34 : decode cX0_firstEndingFrom 34 = .ok (.istore_n 2, 1) := by decide +kernel
theorem dX0_firstEndingFrom_35 : decode cX0_firstEndingFrom 35 = .ok (.goto 6, 3) := by decide +kernel
theorem dX0_firstEndingFrom_38 : decode cX0_firstEndingFrom 38 = .ok (.iload 4, 2) := by decide +kernel
theorem dX0_firstEndingFrom_40 : decode cX0_firstEndingFrom 40 = .ok (.istore_n 3, 1) := by decide +kernel
theorem dX0_firstEndingFrom_41 : decode cX0_firstEndingFrom 41 = .ok (.goto (-34), 3) := by decide +kernel
theorem dX0_firstEndingFrom_44 : decode cX0_firstEndingFrom 44 = .ok (.iload_n 2, 1) := by decide +kernel
theorem dX0_firstEndingFrom_45 : decode cX0_firstEndingFrom 45 = .ok (.ireturn, 1) := by decide +kernel
set_option maxRecDepth 20000 in
theorem ggX0_put_X0_firstEndingFrom : GoodIn wsX0_put wsX0_firstEndingFrom := goodIn_r _ [7, 1, 8, 32, 33, 34] (by decide +kernel) (by decide +kernel)
set_option maxRecDepth 20000 in
theorem gX0_put_X0_firstEndingFrom : GoodIn wsX0_put (wsV RX0 26 RX0 yX0_firstEndingFrom wsX0_firstEndingFrom) := goodIn_app (goodIn_of _ (by decide +kernel)) ggX0_put_X0_firstEndingFrom
set_option maxRecDepth 20000 in
theorem ggX0_put_X0_insert : GoodIn wsX0_put wsX0_insert := goodIn_r _ [12, 1, 2, 8, 13, 14, 15, 6, 16, 17, 18, 19, 20, 32, 33, 34] (by decide +kernel) (by decide +kernel)
set_option maxRecDepth 20000 in
theorem gX0_put_X0_insert : GoodIn wsX0_put (wsV RX0 30 RX0 yX0_insert wsX0_insert) := goodIn_app (goodIn_of _ (by decide +kernel)) ggX0_put_X0_insert
set_option maxRecDepth 20000 in
theorem ggX0_put_X0_unite : GoodIn wsX0_put wsX0_unite := goodIn_r _ [24, 2, 25, 26, 27, 28, 8, 29, 30, 31, 13, 14, 15, 6, 16, 1, 17, 18, 19, 20, 32, 33, 34] (by decide +kernel) (by decide +kernel)
set_option maxRecDepth 20000 in
theorem gX0_put_X0_unite : GoodIn wsX0_put (wsV RX0 34 RX0 yX0_unite wsX0_unite) := goodIn_app (goodIn_of _ (by decide +kernel)) ggX0_put_X0_unite
theorem dX0_put_0 : decode cX0_put 0 = .ok (.iload_n 1, 1) := by decide +kernel
theorem dX0_put_1 : decode cX0_put 1 = .ok (.iload_n 2, 1) := by decide +kernel
theorem dX0_put_2 : decode cX0_put 2 = .ok (.if_icmp .le 4, 3) := by decide +kernel
theorem dX0_put_5 : decode cX0_put 5 = .ok (.return_, 1) := by decide +kernel
theorem dX0_put_6 : decode cX0_put 6 = .ok (.aload_n 0, 1) := by decide +kernel
theorem dX0_put_7 : decode cX0_put 7 = .ok (.iload_n 1, 1) := by decide +kernel
theorem dX0_put_8 : decode cX0_put 8 = .ok (.iconst 1, 1) := by decide +kernel
theorem dX0_put_9 : decode cX0_put 9 = .ok (.isub, 1) := by decide +kernel
theorem dX0_put_10 : decode cX0_put 10 = .ok (.invokevirtual 26, 3) := by decide +kernel
theorem dX0_put_13 : decode cX0_put 13 = .ok (.istore_n 3, 1) := by decide +kernel
theorem dX0_put_14 : decode cX0_put 14 = .ok (.iload_n 3, 1) := by decide +kernel
theorem dX0_put_15 : decode cX0_put 15 = .ok (.istore 4, 2) := by decide +kernel
theorem dX0_put_17 : decode cX0_put 17 = .ok (.iload 4, 2) := by decide +kernel
theorem dX0_put_19 : decode cX0_put 19 = .ok (.aload_n 0, 1) := by decide +kernel
theorem dX0_put_20 : decode cX0_put 20 = .ok (.getfield 16, 3) := by decide +kernel
theorem dX0_put_23 : decode cX0_put 23 = .ok (.if_icmp .ge 22, 3) := by decide +kernel
theorem dX0_put_26 : decode cX0_put 26 = .ok (.aload_n 0, 1) := by decide +kernel
theorem dX0_put_27 : decode cX0_put 27 = .ok (.getfield 9, 3) := by decide +kernel
theorem dX0_put_30 : decode cX0_put 30 = .ok (.iload 4, 2) := by decide +kernel
theorem dX0_put_32 : decode cX0_put 32 = .ok (.iaload, 1) := by decide +kernel
theorem dX0_put_33 : decode cX0_put 33 = .ok (.iload_n 2, 1) := by decide +kernel
theorem dX0_put_34 : decode cX0_put 34 = .ok (.iconst 1, 1) := by decide +kernel
theorem dX0_put_35 : decode cX0_put 35 = .ok (.iadd, 1) := by decide +kernel
theorem dX0_put_36 : decode cX0_put 36 = .ok (.if_icmp .gt 9, 3) := by decide +kernel
theorem dX0_put_39 : decode cX0_put 39 = .ok (.iinc 4 1, 3) := by decide +kernel
theorem dX0_put_42 : decode cX0_put 42 = .ok (.goto (-25), 3) := by decide +kernel
theorem dX0_put_45 : decode cX0_put 45 = .ok (.iload_n 3, 1) := by decide +kernel
theorem dX0_put_46 : decode cX0_put 46 = .ok (.iload 4, 2) := by decide +kernel
theorem dX0_put_48 : decode cX0_put 48 = .ok (.if_icmp .ne 13, 3) := by decide +kernel
theorem dX0_put_51 : decode cX0_put 51 = .ok (.aload_n 0, 1) := by decide +kernel
theorem dX0_put_52 : decode cX0_put 52 = .ok (.iload_n 3, 1) := by decide +kernel
theorem dX0_put_53 : decode cX0_put 53 = .ok (.iload_n 1, 1) := by decide +kernel
theorem dX0_put_54 : decode cX0_put 54 = .ok (.iload_n 2, 1) := by decide +kernel
theorem dX0_put_55 : decode cX0_put 55 = .ok (.invokevirtual 30, 3) := by decide +kernel
theorem dX0_put_58 : decode cX0_put 58 = .ok (.goto 12, 3) := by decide +kernel
theorem dX0_put_61 : decode cX0_put 61 = .ok (.aload_n 0, 1) := by decide +kernel
theorem dX0_put_62 : decode cX0_put 62 = .ok (.iload_n 3, 1) := by decide +kernel
theorem dX0_put_63 : decode cX0_put 63 = .ok (.iload 4, 2) := by decide +kernel
theorem dX0_put_65 : decode cX0_put 65 = .ok (.iload_n 1, 1) := by decide +kernel
theorem dX0_put_66 : decode cX0_put 66 = .ok (.iload_n 2, 1) := by decide +kernel
theorem dX0_put_67 : decode cX0_put 67 = .ok (.invokevirtual 34, 3) := by decide +kernel
theorem dX0_put_70 : decode cX0_put 70 = .ok (.return_, 1) := by decide +kernel
set_option maxRecDepth 20000 in
theorem ggX0_insert_X0_shift : GoodIn wsX0_insert wsX0_shift := goodIn_r _ [8, 2, 1, 9, 10, 11, 12, 3, 13, 14, 15] (by decide +kernel) (by decide +kernel)
set_option maxRecDepth 20000 in
theorem gX0_insert_X0_shift : GoodIn wsX0_insert (wsV RX0 38 RX0 yX0_shift wsX0_shift) := goodIn_app (goodIn_of _ (by decide +kernel)) ggX0_insert_X0_shift
theorem dX0_insert_0 : decode cX0_insert 0 = .ok (.aload_n 0, 1) := by decide +kernel
theorem dX0_insert_1 : decode cX0_insert 1 = .ok (.getfield 16, 3) := by decide +kernel
theorem dX0_insert_4 : decode cX0_insert 4 = .ok (.sipush 768, 3) := by decide +kernel
theorem dX0_insert_7 : decode cX0_insert 7 = .ok (.if_icmp .lt 4, 3) := by decide +kernel
theorem dX0_insert_10 : decode cX0_insert 10 = .ok (.return_, 1) := by decide +kernel
theorem dX0_insert_11 : decode cX0_insert 11 = .ok (.aload_n 0, 1) := by decide +kernel
theorem dX0_insert_12 : decode cX0_insert 12 = .ok (.iload_n 1, 1) := by decide +kernel
theorem dX0_insert_13 : decode cX0_insert 13 = .ok (.iload_n 1, 1) := by decide +kernel
theorem dX0_insert_14 : decode cX0_insert 14 = .ok (.iconst 1, 1) := by decide +kernel
theorem dX0_insert_15 : decode cX0_insert 15 = .ok (.iadd, 1) := by decide +kernel
theorem dX0_insert_16 : decode cX0_insert 16 = .ok (.invokevirtual 38, 3) := by decide +kernel
theorem dX0_insert_19 : decode cX0_insert 19 = .ok (.aload_n 0, 1) := by decide +kernel
theorem dX0_insert_20 : decode cX0_insert 20 = .ok (.getfield 9, 3) := by decide +kernel
theorem dX0_insert_23 : decode cX0_insert 23 = .ok (.iload_n 1, 1) := by decide +kernel
theorem dX0_insert_24 : decode cX0_insert 24 = .ok (.iload_n 2, 1) := by decide +kernel
theorem dX0_insert_25 : decode cX0_insert 25 = .ok (.iastore, 1) := by decide +kernel
theorem dX0_insert_26 : decode cX0_insert 26 = .ok (.aload_n 0, 1) := by decide +kernel
theorem dX0_insert_27 : decode cX0_insert 27 = .ok (.getfield 13, 3) := by decide +kernel
theorem dX0_insert_30 : decode cX0_insert 30 = .ok (.iload_n 1, 1) := by decide +kernel
theorem dX0_insert_31 : decode cX0_insert 31 = .ok (.iload_n 3, 1) := by decide +kernel
theorem dX0_insert_32 : decode cX0_insert 32 = .ok (.iastore, 1) := by decide +kernel
theorem dX0_insert_33 : decode cX0_insert 33 = .ok (.return_, 1) := by decide +kernel
set_option maxRecDepth 20000 in
theorem ggX0_unite_X0_shift : GoodIn wsX0_unite wsX0_shift := goodIn_r _ [14, 1, 15, 16, 17, 18, 19, 6, 20, 21, 22] (by decide +kernel) (by decide +kernel)
set_option maxRecDepth 20000 in
theorem gX0_unite_X0_shift : GoodIn wsX0_unite (wsV RX0 38 RX0 yX0_shift wsX0_shift) := goodIn_app (goodIn_of _ (by decide +kernel)) ggX0_unite_X0_shift
theorem dX0_unite_0 : decode cX0_unite 0 = .ok (.aload_n 0, 1) := by decide +kernel
theorem dX0_unite_1 : decode cX0_unite 1 = .ok (.getfield 9, 3) := by decide +kernel
theorem dX0_unite_4 : decode cX0_unite 4 = .ok (.iload_n 1, 1) := by decide +kernel
theorem dX0_unite_5 : decode cX0_unite 5 = .ok (.aload_n 0, 1) := by decide +kernel
theorem dX0_unite_6 : decode cX0_unite 6 = .ok (.getfield 9, 3) := by decide +kernel
theorem dX0_unite_9 : decode cX0_unite 9 = .ok (.iload_n 1, 1) := by decide +kernel
theorem dX0_unite_10 : decode cX0_unite 10 = .ok (.iaload, 1) := by decide +kernel
theorem dX0_unite_11 : decode cX0_unite 11 = .ok (.iload_n 3, 1) := by decide +kernel
theorem dX0_unite_12 : decode cX0_unite 12 = .ok (.invokestatic 42, 3) := by decide +kernel
theorem dX0_unite_15 : decode cX0_unite 15 = .ok (.iastore, 1) := by decide +kernel
theorem dX0_unite_16 : decode cX0_unite 16 = .ok (.aload_n 0, 1) := by decide +kernel
theorem dX0_unite_17 : decode cX0_unite 17 = .ok (.getfield 13, 3) := by decide +kernel
theorem dX0_unite_20 : decode cX0_unite 20 = .ok (.iload_n 1, 1) := by decide +kernel
theorem dX0_unite_21 : decode cX0_unite 21 = .ok (.aload_n 0, 1) := by decide +kernel
theorem dX0_unite_22 : decode cX0_unite 22 = .ok (.getfield 13, 3) := by decide +kernel
theorem dX0_unite_25 : decode cX0_unite 25 = .ok (.iload_n 2, 1) := by decide +kernel
theorem dX0_unite_26 : decode cX0_unite 26 = .ok (.iconst 1, 1) := by decide +kernel
theorem dX0_unite_27 : decode cX0_unite 27 = .ok (.isub, 1) := by decide +kernel
theorem dX0_unite_28 : decode cX0_unite 28 = .ok (.iaload, 1) := by decide +kernel
theorem dX0_unite_29 : decode cX0_unite 29 = .ok (.iload 4, 2) := by decide +kernel
theorem dX0_unite_31 : decode cX0_unite 31 = .ok (.invokestatic 48, 3) := by decide +kernel
theorem dX0_unite_34 : decode cX0_unite 34 = .ok (.iastore, 1) := by decide +kernel
theorem dX0_unite_35 : decode cX0_unite 35 = .ok (.aload_n 0, 1) := by decide +kernel
theorem dX0_unite_36 : decode cX0_unite 36 = .ok (.iload_n 2, 1) := by decide +kernel
theorem dX0_unite_37 : decode cX0_unite 37 = .ok (.iload_n 1, 1) := by decide +kernel
theorem dX0_unite_38 : decode cX0_unite 38 = .ok (.iconst 1, 1) := by decide +kernel
theorem dX0_unite_39 : decode cX0_unite 39 = .ok (.iadd, 1) := by decide +kernel
theorem dX0_unite_40 : decode cX0_unite 40 = .ok (.invokevirtual 38, 3) := by decide +kernel
theorem dX0_unite_43 : decode cX0_unite 43 = .ok (.return_, 1) := by decide +kernel
theorem dX0_shift_0 : decode cX0_shift 0 = .ok (.aload_n 0, 1) := by decide +kernel
theorem dX0_shift_1 : decode cX0_shift 1 = .ok (.getfield 9, 3) := by decide +kernel
theorem dX0_shift_4 : decode cX0_shift 4 = .ok (.iload_n 1, 1) := by decide +kernel
theorem dX0_shift_5 : decode cX0_shift 5 = .ok (.aload_n 0, 1) := by decide +kernel
theorem dX0_shift_6 : decode cX0_shift 6 = .ok (.getfield 9, 3) := by decide +kernel
theorem dX0_shift_9 : decode cX0_shift 9 = .ok (.iload_n 2, 1) := by decide +kernel
theorem dX0_shift_10 : decode cX0_shift 10 = .ok (.aload_n 0, 1) := by decide +kernel
theorem dX0_shift_11 : decode cX0_shift 11 = .ok (.getfield 16, 3) := by decide +kernel
theorem dX0_shift_14 : decode cX0_shift 14 = .ok (.iload_n 1, 1) := by decide +kernel
theorem dX0_shift_15 : decode cX0_shift 15 = .ok (.isub, 1) := by decide +kernel
theorem dX0_shift_16 : decode cX0_shift 16 = .ok (.invokestatic 20, 3) := by decide +kernel
theorem dX0_shift_19 : decode cX0_shift 19 = .ok (.aload_n 0, 1) := by decide +kernel
theorem dX0_shift_20 : decode cX0_shift 20 = .ok (.getfield 13, 3) := by decide +kernel
theorem dX0_shift_23 : decode cX0_shift 23 = .ok (.iload_n 1, 1) := by decide +kernel
theorem dX0_shift_24 : decode cX0_shift 24 = .ok (.aload_n 0, 1) := by decide +kernel
theorem dX0_shift_25 : decode cX0_shift 25 = .ok (.getfield 13, 3) := by decide +kernel
theorem dX0_shift_28 : decode cX0_shift 28 = .ok (.iload_n 2, 1) := by decide +kernel
theorem dX0_shift_29 : decode cX0_shift 29 = .ok (.aload_n 0, 1) := by decide +kernel
theorem dX0_shift_30 : decode cX0_shift 30 = .ok (.getfield 16, 3) := by decide +kernel
theorem dX0_shift_33 : decode cX0_shift 33 = .ok (.iload_n 1, 1) := by decide +kernel
theorem dX0_shift_34 : decode cX0_shift 34 = .ok (.isub, 1) := by decide +kernel
theorem dX0_shift_35 : decode cX0_shift 35 = .ok (.invokestatic 20, 3) := by decide +kernel
theorem dX0_shift_38 : decode cX0_shift 38 = .ok (.aload_n 0, 1) := by decide +kernel
theorem dX0_shift_39 : decode cX0_shift 39 = .ok (.dup, 1) := by decide +kernel
theorem dX0_shift_40 : decode cX0_shift 40 = .ok (.getfield 16, 3) := by decide +kernel
theorem dX0_shift_43 : decode cX0_shift 43 = .ok (.iload_n 2, 1) := by decide +kernel
theorem dX0_shift_44 : decode cX0_shift 44 = .ok (.iload_n 1, 1) := by decide +kernel
theorem dX0_shift_45 : decode cX0_shift 45 = .ok (.isub, 1) := by decide +kernel
theorem dX0_shift_46 : decode cX0_shift 46 = .ok (.iadd, 1) := by decide +kernel
theorem dX0_shift_47 : decode cX0_shift 47 = .ok (.putfield 16, 3) := by decide +kernel
theorem dX0_shift_50 : decode cX0_shift 50 = .ok (.return_, 1) := by decide +kernel
set_option maxRecDepth 20000 in
theorem ggX1_init_X0_init : GoodIn wsX1_init wsX0_init := goodIn_r _ [11, 12, 2, 3, 13, 14, 15, 16, 17, 18, 19] (by decide +kernel) (by decide +kernel)
set_option maxRecDepth 20000 in
theorem gX1_init_X0_init_n9 : GoodIn wsX1_init (wsX0_init) := ggX1_init_X0_init
theorem dX1_init_0 : decode cX1_init 0 = .ok (.aload_n 0, 1) := by decide +kernel
theorem dX1_init_1 : decode cX1_init 1 = .ok (.invokespecial 1, 3) := by decide +kernel
theorem dX1_init_4 : decode cX1_init 4 = .ok (.aload_n 0, 1) := by decide +kernel
theorem dX1_init_5 : decode cX1_init 5 = .ok (.new 7, 3) := by decide +kernel
theorem dX1_init_8 : decode cX1_init 8 = .ok (.dup, 1) := by decide +kernel
theorem dX1_init_9 : decode cX1_init 9 = .ok (.invokespecial 9, 3) := by decide +kernel
theorem dX1_init_12 : decode cX1_init 12 = .ok (.putfield 10, 3) := by decide +kernel
theorem dX1_init_15 : decode cX1_init 15 = .ok (.aload_n 0, 1) := by decide +kernel
theorem dX1_init_16 : decode cX1_init 16 = .ok (.new 7, 3) := by decide +kernel
theorem dX1_init_19 : decode cX1_init 19 = .ok (.dup, 1) := by decide +kernel
theorem dX1_init_20 : decode cX1_init 20 = .ok (.invokespecial 9, 3) := by decide +kernel
theorem dX1_init_23 : decode cX1_init 23 = .ok (.putfield 16, 3) := by decide +kernel
theorem dX1_init_26 : decode cX1_init 26 = .ok (.aload_n 0, 1) := by decide +kernel
theorem dX1_init_27 : decode cX1_init 27 = .ok (.new 7, 3) := by decide +kernel
theorem dX1_init_30 : decode cX1_init 30 = .ok (.dup, 1) := by decide +kernel
theorem dX1_init_31 : decode cX1_init 31 = .ok (.invokespecial 9, 3) := by decide +kernel
theorem dX1_init_34 : decode cX1_init 34 = .ok (.putfield 19, 3) := by decide +kernel
theorem dX1_init_37 : decode cX1_init 37 = .ok (.return_, 1) := by decide +kernel
set_option maxRecDepth 20000 in
theorem ggX1_add_X1_putCharacters : GoodIn wsX1_add wsX1_putCharacters := goodIn_r _ [8, 9, 10, 11, 12, 13, 14, 15, 16, 17, 18, 19, 20, 21, 22, 23, 24, 25, 26, 27, 28, 29, 30, 31, 32, 33, 34, 35, 36, 37, 38, 39, 40, 41, 42, 43, 44, 45, 46, 50, 51, 52] (by decide +kernel) (by decide +kernel)
set_option maxRecDepth 20000 in
theorem gX1_add_X1_putCharacters : GoodIn wsX1_add (va_wsS RX1 30 yX1_putCharacters wsX1_putCharacters) := goodIn_app (goodIn_of _ (by decide +kernel)) ggX1_add_X1_putCharacters
theorem dX1_add_0 : decode cX1_add 0 = .ok (.iload_n 1, 1) := by decide +kernel
theorem dX1_add_1 : decode cX1_add 1 = .ok (.ifCond .lt 14, 3) := by decide +kernel
theorem dX1_add_4 : decode cX1_add 4 = .ok (.iload_n 2, 1) := by decide +kernel
theorem dX1_add_5 : decode cX1_add 5 = .ok (.iload_n 1, 1) := by decide +kernel
theorem dX1_add_6 : decode cX1_add 6 = .ok (.if_icmp .lt 9, 3) := by decide +kernel
theorem dX1_add_9 : decode cX1_add 9 = .ok (.iload_n 2, 1) := by decide +kernel
theorem dX1_add_10 : decode cX1_add 10 = .ok (.ldc 22, 2) := by decide +kernel
theorem dX1_add_12 : decode cX1_add 12 = .ok (.if_icmp .le 13, 3) := by decide +kernel
theorem dX1_add_15 : decode cX1_add 15 = .ok (.new 23, 3) := by decide +kernel
theorem dX1_add_18 : decode cX1_add 18 = .ok (.dup, 1) := by decide +kernel
theorem dX1_add_19 : decode cX1_add 19 = .ok (.ldc 25, 2) := by decide +kernel
theorem dX1_add_21 : decode cX1_add 21 = .ok (.invokespecial 27, 3) := by decide +kernel
theorem dX1_add_24 : decode cX1_add 24 = .ok (.athrow, 1) := by decide +kernel
theorem dX1_add_25 : decode cX1_add 25 = .ok (.aload_n 0, 1) := by decide +kernel
theorem dX1_add_26 : decode cX1_add 26 = .ok (.getfield 10, 3) := by decide +kernel
theorem dX1_add_29 : decode cX1_add 29 = .ok (.iload_n 1, 1) := by decide +kernel
theorem dX1_add_30 : decode cX1_add 30 = .ok (.iload_n 2, 1) := by decide +kernel
theorem dX1_add_31 : decode cX1_add 31 = .ok (.invokestatic 30, 3) := by decide +kernel
theorem dX1_add_34 : decode cX1_add 34 = .ok (.aload_n 0, 1) := by decide +kernel
theorem dX1_add_35 : decode cX1_add 35 = .ok (.getfield 10, 3) := by decide +kernel
theorem dX1_add_38 : decode cX1_add 38 = .ok (.getfield 34, 3) := by decide +kernel
theorem dX1_add_41 : decode cX1_add 41 = .ok (.ireturn, 1) := by decide +kernel
set_option maxRecDepth 20000 in
theorem ggX1_clear_X0_empty : GoodIn wsX1_clear wsX0_empty := goodIn_r _ [5, 6, 10, 11, 12] (by decide +kernel) (by decide +kernel)
set_option maxRecDepth 20000 in
theorem gX1_clear_X0_empty_n38 : GoodIn wsX1_clear (wsX0_empty) := ggX1_clear_X0_empty
theorem dX1_clear_0 : decode cX1_clear 0 = .ok (.aload_n 0, 1) := by decide +kernel
theorem dX1_clear_1 : decode cX1_clear 1 = .ok (.getfield 10, 3) := by decide +kernel
theorem dX1_clear_4 : decode cX1_clear 4 = .ok (.invokevirtual 38, 3) := by decide +kernel
theorem dX1_clear_7 : decode cX1_clear 7 = .ok (.return_, 1) := by decide +kernel
set_option maxRecDepth 20000 in
theorem ggX1_fold_X1_foldLetters : GoodIn wsX1_fold wsX1_foldLetters := goodIn_r _ [6, 7, 8, 9, 10, 5, 11, 1, 12, 13, 14, 15, 16, 17, 18, 19, 20, 21, 22, 23, 24, 25, 26, 27, 28, 29, 30, 31, 32, 33, 34, 35, 36, 37, 38, 39, 40, 41, 42, 43, 44, 45, 46, 47, 48, 54, 55, 56, 57, 58, 59] (by decide +kernel) (by decide +kernel)
set_option maxRecDepth 20000 in
theorem gX1_fold_X1_foldLetters : GoodIn wsX1_fold (wsV RX1 41 RX1 yX1_foldLetters wsX1_foldLetters) := goodIn_app (goodIn_of _ (by decide +kernel)) ggX1_fold_X1_foldLetters
set_option maxRecDepth 20000 in
theorem ggX1_fold_X1_foldPairs : GoodIn wsX1_fold wsX1_foldPairs := goodIn_r _ [52, 53, 8, 9, 10, 5, 11, 1, 12, 13, 14, 15, 16, 17, 18, 19, 20, 21, 22, 23, 24, 25, 26, 27, 28, 29, 30, 31, 32, 33, 34, 35, 36, 37, 38, 39, 40, 41, 42, 43, 44, 45, 46, 47, 48, 54, 55, 56, 57, 58, 59] (by decide +kernel) (by decide +kernel)
set_option maxRecDepth 20000 in
theorem gX1_fold_X1_foldPairs : GoodIn wsX1_fold (wsV RX1 44 RX1 yX1_foldPairs wsX1_foldPairs) := goodIn_app (goodIn_of _ (by decide +kernel)) ggX1_fold_X1_foldPairs
theorem dX1_fold_0 : decode cX1_fold 0 = .ok (.aload_n 0, 1) := by decide +kernel
theorem dX1_fold_1 : decode cX1_fold 1 = .ok (.invokevirtual 41, 3) := by decide +kernel
theorem dX1_fold_4 : decode cX1_fold 4 = .ok (.aload_n 0, 1) := by decide +kernel
theorem dX1_fold_5 : decode cX1_fold 5 = .ok (.invokevirtual 44, 3) := by decide +kernel
theorem dX1_fold_8 : decode cX1_fold 8 = .ok (.aload_n 0, 1) := by decide +kernel
theorem dX1_fold_9 : decode cX1_fold 9 = .ok (.invokevirtual 41, 3) := by decide +kernel
theorem dX1_fold_12 : decode cX1_fold 12 = .ok (.aload_n 0, 1) := by decide +kernel
theorem dX1_fold_13 : decode cX1_fold 13 = .ok (.getfield 10, 3) := by decide +kernel
theorem dX1_fold_16 : decode cX1_fold 16 = .ok (.getfield 34, 3) := by decide +kernel
theorem dX1_fold_19 : decode cX1_fold 19 = .ok (.ireturn, 1) := by decide +kernel
set_option maxRecDepth 20000 in
theorem ggX1_turn_X0_empty : GoodIn wsX1_turn wsX0_empty := goodIn_r _ [7, 8, 52, 53, 54] (by decide +kernel) (by decide +kernel)
set_option maxRecDepth 20000 in
theorem gX1_turn_X0_empty_n38 : GoodIn wsX1_turn (wsX0_empty) := ggX1_turn_X0_empty
set_option maxRecDepth 20000 in
theorem ggX1_turn_X1_putCharacters : GoodIn wsX1_turn wsX1_putCharacters := goodIn_r _ [12, 13, 14, 15, 16, 17, 18, 19, 20, 21, 22, 5, 23, 24, 8, 25, 26, 27, 28, 29, 30, 31, 32, 33, 34, 35, 36, 37, 38, 39, 40, 41, 42, 43, 44, 45, 46, 47, 48, 52, 53, 54] (by decide +kernel) (by decide +kernel)
set_option maxRecDepth 20000 in
theorem gX1_turn_X1_putCharacters : GoodIn wsX1_turn (va_wsS RX1 30 yX1_putCharacters wsX1_putCharacters) := goodIn_app (goodIn_of _ (by decide +kernel)) ggX1_turn_X1_putCharacters
theorem dX1_turn_0 : decode cX1_turn 0 = .ok (.aload_n 0, 1) := by decide +kernel
theorem dX1_turn_1 : decode cX1_turn 1 = .ok (.getfield 10, 3) := by decide +kernel
theorem dX1_turn_4 : decode cX1_turn 4 = .ok (.astore_n 1, 1) := by decide +kernel
theorem dX1_turn_5 : decode cX1_turn 5 = .ok (.aload_n 0, 1) := by decide +kernel
theorem dX1_turn_6 : decode cX1_turn 6 = .ok (.getfield 16, 3) := by decide +kernel
theorem dX1_turn_9 : decode cX1_turn 9 = .ok (.astore_n 2, 1) := by decide +kernel
theorem dX1_turn_10 : decode cX1_turn 10 = .ok (.aload_n 2, 1) := by decide +kernel
theorem dX1_turn_11 : decode cX1_turn 11 = .ok (.invokevirtual 38, 3) := by decide +kernel
theorem dX1_turn_14 : decode cX1_turn 14 = .ok (.iconst 0, 1) := by decide +kernel
theorem dX1_turn_15 : decode cX1_turn 15 = .ok (.istore_n 3, 1) := by decide +kernel
theorem dX1_turn_16 : decode cX1_turn 16 = .ok (.iconst 0, 1) := by decide +kernel
theorem dX1_turn_17 : decode cX1_turn 17 = .ok (.istore 4, 2) := by decide +kernel
theorem dX1_turn_19 : decode cX1_turn 19 = .ok (.iload 4, 2) := by decide +kernel
theorem dX1_turn_21 : decode cX1_turn 21 = .ok (.aload_n 1, 1) := by decide +kernel
theorem dX1_turn_22 : decode cX1_turn 22 = .ok (.getfield 34, 3) := by decide +kernel
theorem dX1_turn_25 : decode cX1_turn 25 = .ok (.if_icmp .ge 33, 3) := by decide +kernel
theorem dX1_turn_28 : decode cX1_turn 28 = .ok (.aload_n 2, 1) := by decide +kernel
theorem dX1_turn_29 : decode cX1_turn 29 = .ok (.iload_n 3, 1) := by decide +kernel
theorem dX1_turn_30 : decode cX1_turn 30 = .ok (.aload_n 1, 1) := by decide +kernel
theorem dX1_turn_31 : decode cX1_turn 31 = .ok (.getfield 47, 3) := by decide +kernel
theorem dX1_turn_34 : decode cX1_turn 34 = .ok (.iload 4, 2) := by decide +kernel
theorem dX1_turn_36 : decode cX1_turn 36 = .ok (.iaload, 1) := by decide +kernel
theorem dX1_turn_37 : decode cX1_turn 37 = .ok (.iconst 1, 1) := by decide +kernel
theorem dX1_turn_38 : decode cX1_turn 38 = .ok (.isub, 1) := by decide +kernel
theorem dX1_turn_39 : decode cX1_turn 39 = .ok (.invokestatic 30, 3) := by decide +kernel
theorem dX1_turn_42 : decode cX1_turn 42 = .ok (.aload_n 1, 1) := by decide +kernel
theorem dX1_turn_43 : decode cX1_turn 43 = .ok (.getfield 51, 3) := by decide +kernel
theorem dX1_turn_46 : decode cX1_turn 46 = .ok (.iload 4, 2) := by decide +kernel
theorem dX1_turn_48 : decode cX1_turn 48 = .ok (.iaload, 1) := by decide +kernel
theorem dX1_turn_49 : decode cX1_turn 49 = .ok (.iconst 1, 1) := by decide +kernel
theorem dX1_turn_50 : decode cX1_turn 50 = .ok (.iadd, 1) := by decide +kernel
theorem dX1_turn_51 : decode cX1_turn 51 = .ok (.istore_n 3, 1) := by decide +kernel
theorem dX1_turn_52 : decode cX1_turn 52 = .ok (.iinc 4 1, 3) := by decide +kernel
theorem dX1_turn_55 : decode cX1_turn 55 = .ok (.goto (-36), 3) := by decide +kernel
theorem dX1_turn_58 : decode cX1_turn 58 = .ok (.aload_n 2, 1) := by decide +kernel
theorem dX1_turn_59 : decode cX1_turn 59 = .ok (.iload_n 3, 1) := by decide +kernel
theorem dX1_turn_60 : decode cX1_turn 60 = .ok (.ldc 22, 2) := by decide +kernel
theorem dX1_turn_62 : decode cX1_turn 62 = .ok (.invokestatic 30, 3) := by decide +kernel
theorem dX1_turn_65 : decode cX1_turn 65 = .ok (.aload_n 0, 1) := by decide +kernel
theorem dX1_turn_66 : decode cX1_turn 66 = .ok (.aload_n 2, 1) := by decide +kernel
theorem dX1_turn_67 : decode cX1_turn 67 = .ok (.putfield 10, 3) := by decide +kernel
theorem dX1_turn_70 : decode cX1_turn 70 = .ok (.aload_n 0, 1) := by decide +kernel
theorem dX1_turn_71 : decode cX1_turn 71 = .ok (.aload_n 1, 1) := by decide +kernel
theorem dX1_turn_72 : decode cX1_turn 72 = .ok (.putfield 16, 3) := by decide +kernel
theorem dX1_turn_75 : decode cX1_turn 75 = .ok (.aload_n 0, 1) := by decide +kernel
theorem dX1_turn_76 : decode cX1_turn 76 = .ok (.getfield 10, 3) := by decide +kernel
theorem dX1_turn_79 : decode cX1_turn 79 = .ok (.getfield 34, 3) := by decide +kernel
theorem dX1_turn_82 : decode cX1_turn 82 = .ok (.ireturn, 1) := by decide +kernel
set_option maxRecDepth 20000 in
theorem ggX1_keep_X0_become : GoodIn wsX1_keep wsX0_become := goodIn_r _ [6, 7, 8, 9, 10, 11, 12, 13, 17, 18, 19] (by decide +kernel) (by decide +kernel)
set_option maxRecDepth 20000 in
theorem gX1_keep_X0_become_n54 : GoodIn wsX1_keep (wsX0_become) := ggX1_keep_X0_become
theorem dX1_keep_0 : decode cX1_keep 0 = .ok (.aload_n 0, 1) := by decide +kernel
theorem dX1_keep_1 : decode cX1_keep 1 = .ok (.getfield 19, 3) := by decide +kernel
theorem dX1_keep_4 : decode cX1_keep 4 = .ok (.aload_n 0, 1) := by decide +kernel
theorem dX1_keep_5 : decode cX1_keep 5 = .ok (.getfield 10, 3) := by decide +kernel
theorem dX1_keep_8 : decode cX1_keep 8 = .ok (.invokevirtual 54, 3) := by decide +kernel
theorem dX1_keep_11 : decode cX1_keep 11 = .ok (.return_, 1) := by decide +kernel
set_option maxRecDepth 20000 in
theorem ggX1_join_X0_put : GoodIn wsX1_join wsX0_put := goodIn_r _ [6, 7, 8, 9, 10, 11, 4, 12, 13, 14, 15, 16, 17, 18, 19, 20, 21, 22, 23, 24, 25, 26, 27, 28, 29, 30, 31, 32, 33, 34, 35, 36, 40, 41, 42] (by decide +kernel) (by decide +kernel)
set_option maxRecDepth 20000 in
theorem gX1_join_X0_put_n58 : GoodIn wsX1_join (wsX0_put) := ggX1_join_X0_put
theorem dX1_join_0 : decode cX1_join 0 = .ok (.iconst 0, 1) := by decide +kernel
theorem dX1_join_1 : decode cX1_join 1 = .ok (.istore_n 1, 1) := by decide +kernel
theorem dX1_join_2 : decode cX1_join 2 = .ok (.iload_n 1, 1) := by decide +kernel
theorem dX1_join_3 : decode cX1_join 3 = .ok (.aload_n 0, 1) := by decide +kernel
theorem dX1_join_4 : decode cX1_join 4 = .ok (.getfield 19, 3) := by decide +kernel
theorem dX1_join_7 : decode cX1_join 7 = .ok (.getfield 34, 3) := by decide +kernel
theorem dX1_join_10 : decode cX1_join 10 = .ok (.if_icmp .ge 34, 3) := by decide +kernel
theorem dX1_join_13 : decode cX1_join 13 = .ok (.aload_n 0, 1) := by decide +kernel
theorem dX1_join_14 : decode cX1_join 14 = .ok (.getfield 10, 3) := by decide +kernel
theorem dX1_join_17 : decode cX1_join 17 = .ok (.aload_n 0, 1) := by decide +kernel
theorem dX1_join_18 : decode cX1_join 18 = .ok (.getfield 19, 3) := by decide +kernel
theorem dX1_join_21 : decode cX1_join 21 = .ok (.getfield 47, 3) := by decide +kernel
theorem dX1_join_24 : decode cX1_join 24 = .ok (.iload_n 1, 1) := by decide +kernel
theorem dX1_join_25 : decode cX1_join 25 = .ok (.iaload, 1) := by decide +kernel
theorem dX1_join_26 : decode cX1_join 26 = .ok (.aload_n 0, 1) := by decide +kernel
theorem dX1_join_27 : decode cX1_join 27 = .ok (.getfield 19, 3) := by decide +kernel
theorem dX1_join_30 : decode cX1_join 30 = .ok (.getfield 51, 3) := by decide +kernel
theorem dX1_join_33 : decode cX1_join 33 = .ok (.iload_n 1, 1) := by decide +kernel
theorem dX1_join_34 : decode cX1_join 34 = .ok (.iaload, 1) := by decide +kernel
theorem dX1_join_35 : decode cX1_join 35 = .ok (.invokevirtual 58, 3) := by decide +kernel
theorem dX1_join_38 : decode cX1_join 38 = .ok (.iinc 1 1, 3) := by decide +kernel
theorem dX1_join_41 : decode cX1_join 41 = .ok (.goto (-39), 3) := by decide +kernel
theorem dX1_join_44 : decode cX1_join 44 = .ok (.aload_n 0, 1) := by decide +kernel
theorem dX1_join_45 : decode cX1_join 45 = .ok (.getfield 10, 3) := by decide +kernel
theorem dX1_join_48 : decode cX1_join 48 = .ok (.getfield 34, 3) := by decide +kernel
theorem dX1_join_51 : decode cX1_join 51 = .ok (.ireturn, 1) := by decide +kernel
set_option maxRecDepth 20000 in
theorem ggX1_has_X0_holds : GoodIn wsX1_has wsX0_holds := goodIn_r _ [5, 6, 7, 8, 9, 10, 3, 11, 12, 16, 17, 18] (by decide +kernel) (by decide +kernel)
set_option maxRecDepth 20000 in
theorem gX1_has_X0_holds_n62 : GoodIn wsX1_has (wsX0_holds) := ggX1_has_X0_holds
theorem dX1_has_0 : decode cX1_has 0 = .ok (.aload_n 0, 1) := by decide +kernel
theorem dX1_has_1 : decode cX1_has 1 = .ok (.getfield 10, 3) := by decide +kernel
theorem dX1_has_4 : decode cX1_has 4 = .ok (.iload_n 1, 1) := by decide +kernel
theorem dX1_has_5 : decode cX1_has 5 = .ok (.invokevirtual 62, 3) := by decide +kernel
theorem dX1_has_8 : decode cX1_has 8 = .ok (.ireturn, 1) := by decide +kernel
theorem dX1_ranges_0 : decode cX1_ranges 0 = .ok (.aload_n 0, 1) := by decide +kernel
theorem dX1_ranges_1 : decode cX1_ranges 1 = .ok (.getfield 10, 3) := by decide +kernel
theorem dX1_ranges_4 : decode cX1_ranges 4 = .ok (.getfield 34, 3) := by decide +kernel
theorem dX1_ranges_7 : decode cX1_ranges 7 = .ok (.ireturn, 1) := by decide +kernel
theorem dX1_range_0 : decode cX1_range 0 = .ok (.iload_n 1, 1) := by decide +kernel
theorem dX1_range_1 : decode cX1_range 1 = .ok (.ifCond .lt 14, 3) := by decide +kernel
theorem dX1_range_4 : decode cX1_range 4 = .ok (.iload_n 1, 1) := by decide +kernel
theorem dX1_range_5 : decode cX1_range 5 = .ok (.aload_n 0, 1) := by decide +kernel
theorem dX1_range_6 : decode cX1_range 6 = .ok (.getfield 10, 3) := by decide +kernel
theorem dX1_range_9 : decode cX1_range 9 = .ok (.getfield 34, 3) := by decide +kernel
theorem dX1_range_12 : decode cX1_range 12 = .ok (.if_icmp .lt 5, 3) := by decide +kernel
theorem dX1_range_15 : decode cX1_range 15 = .ok (.iconst (-1), 1) := by decide +kernel
theorem dX1_range_16 : decode cX1_range 16 = .ok (.ireturn, 1) := by decide +kernel
theorem dX1_range_17 : decode cX1_range 17 = .ok (.iload_n 2, 1) := by decide +kernel
theorem dX1_range_18 : decode cX1_range 18 = .ok (.ifCond .ne 13, 3) := by decide +kernel
theorem dX1_range_21 : decode cX1_range 21 = .ok (.aload_n 0, 1) := by decide +kernel
theorem dX1_range_22 : decode cX1_range 22 = .ok (.getfield 10, 3) := by decide +kernel
theorem dX1_range_25 : decode cX1_range 25 = .ok (.getfield 47, 3) := by decide +kernel
theorem dX1_range_28 : decode cX1_range 28 = .ok (.iload_n 1, 1) := by decide +kernel
theorem dX1_range_29 : decode cX1_range 29 = .ok (.iaload, 1) := by decide +kernel
theorem dX1_range_30 : decode cX1_range 30 = .ok (.ireturn, 1) := by decide +kernel
theorem dX1_range_31 : decode cX1_range 31 = .ok (.iload_n 2, 1) := by decide +kernel
theorem dX1_range_32 : decode cX1_range 32 = .ok (.iconst 1, 1) := by decide +kernel
theorem dX1_range_33 : decode cX1_range 33 = .ok (.if_icmp .ne 15, 3) := by decide +kernel
theorem dX1_range_36 : decode cX1_range 36 = .ok (.aload_n 0, 1) := by decide +kernel
theorem dX1_range_37 : decode cX1_range 37 = .ok (.getfield 10, 3) := by decide +kernel
theorem dX1_range_40 : decode cX1_range 40 = .ok (.getfield 51, 3) := by decide +kernel
theorem dX1_range_43 : decode cX1_range 43 = .ok (.iload_n 1, 1) := by decide +kernel
theorem dX1_range_44 : decode cX1_range 44 = .ok (.iaload, 1) := by decide +kernel
theorem dX1_range_45 : decode cX1_range 45 = .ok (.goto 4, 3) := by decide +kernel
theorem dX1_range_48 : decode cX1_range 48 = .ok (.iconst (-1), 1) := by decide +kernel
theorem dX1_range_49 : decode cX1_range 49 = .ok (.ireturn, 1) := by decide +kernel
set_option maxRecDepth 20000 in
theorem ggX1_rows_X1_countRows : GoodIn wsX1_rows wsX1_countRows := goodIn_r _ [5, 6, 7, 4, 8, 9, 10, 11, 12, 13, 14, 15, 16, 17, 18, 19, 20] (by decide +kernel) (by decide +kernel)
set_option maxRecDepth 20000 in
theorem gX1_rows_X1_countRows : GoodIn wsX1_rows (va_wsS RX1 66 yX1_countRows wsX1_countRows) := goodIn_app (goodIn_of _ (by decide +kernel)) ggX1_rows_X1_countRows
theorem dX1_rows_0 : decode cX1_rows 0 = .ok (.iconst 0, 1) := by decide +kernel
theorem dX1_rows_1 : decode cX1_rows 1 = .ok (.istore_n 1, 1) := by decide +kernel
theorem dX1_rows_2 : decode cX1_rows 2 = .ok (.iconst 0, 1) := by decide +kernel
theorem dX1_rows_3 : decode cX1_rows 3 = .ok (.istore_n 2, 1) := by decide +kernel
theorem dX1_rows_4 : decode cX1_rows 4 = .ok (.iload_n 2, 1) := by decide +kernel
theorem dX1_rows_5 : decode cX1_rows 5 = .ok (.aload_n 0, 1) := by decide +kernel
theorem dX1_rows_6 : decode cX1_rows 6 = .ok (.getfield 10, 3) := by decide +kernel
theorem dX1_rows_9 : decode cX1_rows 9 = .ok (.getfield 34, 3) := by decide +kernel
theorem dX1_rows_12 : decode cX1_rows 12 = .ok (.if_icmp .ge 33, 3) := by decide +kernel
theorem dX1_rows_15 : decode cX1_rows 15 = .ok (.iload_n 1, 1) := by decide +kernel
theorem dX1_rows_16 : decode cX1_rows 16 = .ok (.aload_n 0, 1) := by decide +kernel
theorem dX1_rows_17 : decode cX1_rows 17 = .ok (.getfield 10, 3) := by decide +kernel
theorem dX1_rows_20 : decode cX1_rows 20 = .ok (.getfield 47, 3) := by decide +kernel
theorem dX1_rows_23 : decode cX1_rows 23 = .ok (.iload_n 2, 1) := by decide +kernel
theorem dX1_rows_24 : decode cX1_rows 24 = .ok (.iaload, 1) := by decide +kernel
theorem dX1_rows_25 : decode cX1_rows 25 = .ok (.aload_n 0, 1) := by decide +kernel
theorem dX1_rows_26 : decode cX1_rows 26 = .ok (.getfield 10, 3) := by decide +kernel
theorem dX1_rows_29 : decode cX1_rows 29 = .ok (.getfield 51, 3) := by decide +kernel
theorem dX1_rows_32 : decode cX1_rows 32 = .ok (.iload_n 2, 1) := by decide +kernel
theorem dX1_rows_33 : decode cX1_rows 33 = .ok (.iaload, 1) := by decide +kernel
theorem dX1_rows_34 : decode cX1_rows 34 = .ok (.invokestatic 66, 3) := by decide +kernel
theorem dX1_rows_37 : decode cX1_rows 37 = .ok (.iadd, 1) := by decide +kernel
theorem dX1_rows_38 : decode cX1_rows 38 = .ok (.istore_n 1, 1) := by decide +kernel
theorem dX1_rows_39 : decode cX1_rows 39 = .ok (.iinc 2 1, 3) := by decide +kernel
theorem dX1_rows_42 : decode cX1_rows 42 = .ok (.goto (-38), 3) := by decide +kernel
theorem dX1_rows_45 : decode cX1_rows 45 = .ok (.iload_n 1, 1) := by decide +kernel
theorem dX1_rows_46 : decode cX1_rows 46 = .ok (.ireturn, 1) := by decide +kernel
set_option maxRecDepth 20000 in
theorem ggX1_row_X1_firstOfRow : GoodIn wsX1_row wsX1_firstOfRow := goodIn_r _ [6, 1, 7, 8, 5, 9, 10, 11, 12, 13, 14, 15, 16, 17, 18, 19, 20, 21, 22, 23, 24, 25, 26, 27, 46, 47, 48, 49, 50, 51] (by decide +kernel) (by decide +kernel)
set_option maxRecDepth 20000 in
theorem gX1_row_X1_firstOfRow : GoodIn wsX1_row (wsV RX1 70 RX1 yX1_firstOfRow wsX1_firstOfRow) := goodIn_app (goodIn_of _ (by decide +kernel)) ggX1_row_X1_firstOfRow
set_option maxRecDepth 20000 in
theorem ggX1_row_X1_byteCount : GoodIn wsX1_row wsX1_byteCount := goodIn_r _ [19, 20, 21, 5, 22, 23, 24] (by decide +kernel) (by decide +kernel)
set_option maxRecDepth 20000 in
theorem gX1_row_X1_byteCount : GoodIn wsX1_row (va_wsS RX1 74 yX1_byteCount wsX1_byteCount) := goodIn_app (goodIn_of _ (by decide +kernel)) ggX1_row_X1_byteCount
set_option maxRecDepth 20000 in
theorem ggX1_row_X1_byteOf : GoodIn wsX1_row wsX1_byteOf := goodIn_r _ [30, 31, 32, 5, 33, 34] (by decide +kernel) (by decide +kernel)
set_option maxRecDepth 20000 in
theorem gX1_row_X1_byteOf : GoodIn wsX1_row (va_wsS RX1 77 yX1_byteOf wsX1_byteOf) := goodIn_app (goodIn_of _ (by decide +kernel)) ggX1_row_X1_byteOf
set_option maxRecDepth 20000 in
theorem ggX1_row_X0_endAround : GoodIn wsX1_row wsX0_endAround := goodIn_r _ [38, 39, 40, 41, 42, 43, 44, 36, 45, 49, 50, 51] (by decide +kernel) (by decide +kernel)
set_option maxRecDepth 20000 in
theorem gX1_row_X0_endAround_n81 : GoodIn wsX1_row (wsX0_endAround) := ggX1_row_X0_endAround
set_option maxRecDepth 20000 in
theorem ggX1_row_X1_lastOfRow : GoodIn wsX1_row wsX1_lastOfRow := goodIn_r _ [12, 13, 14, 15, 16, 17, 18, 5, 19, 20, 21, 22, 23, 24] (by decide +kernel) (by decide +kernel)
set_option maxRecDepth 20000 in
theorem gX1_row_X1_lastOfRow : GoodIn wsX1_row (va_wsS RX1 84 yX1_lastOfRow wsX1_lastOfRow) := goodIn_app (goodIn_of _ (by decide +kernel)) ggX1_row_X1_lastOfRow
theorem dX1_row_0 : decode cX1_row 0 = .ok (.aload_n 0, 1) := by decide +kernel
theorem dX1_row_1 : decode cX1_row 1 = .ok (.iload_n 1, 1) := by decide +kernel
theorem dX1_row_2 : decode cX1_row 2 = .ok (.invokevirtual 70, 3) := by decide +kernel
theorem dX1_row_5 : decode cX1_row 5 = .ok (.istore 4, 2) := by decide +kernel
theorem dX1_row_7 : decode cX1_row 7 = .ok (.iload 4, 2) := by decide +kernel
theorem dX1_row_9 : decode cX1_row 9 = .ok (.iconst (-1), 1) := by decide +kernel
theorem dX1_row_10 : decode cX1_row 10 = .ok (.if_icmp .ne 5, 3) := by decide +kernel
theorem dX1_row_13 : decode cX1_row 13 = .ok (.iconst (-1), 1) := by decide +kernel
theorem dX1_row_14 : decode cX1_row 14 = .ok (.ireturn, 1) := by decide +kernel
theorem dX1_row_15 : decode cX1_row 15 = .ok (.iload 4, 2) := by decide +kernel
theorem dX1_row_17 : decode cX1_row 17 = .ok (.invokestatic 74, 3) := by decide +kernel
theorem dX1_row_20 : decode cX1_row 20 = .ok (.istore 5, 2) := by decide +kernel
theorem dX1_row_22 : decode cX1_row 22 = .ok (.iload_n 2, 1) := by decide +kernel
theorem dX1_row_23 : decode cX1_row 23 = .ok (.ifCond .ne 6, 3) := by decide +kernel
theorem dX1_row_26 : decode cX1_row 26 = .ok (.iload 5, 2) := by decide +kernel
theorem dX1_row_28 : decode cX1_row 28 = .ok (.ireturn, 1) := by decide +kernel
theorem dX1_row_29 : decode cX1_row 29 = .ok (.iload_n 2, 1) := by decide +kernel
theorem dX1_row_30 : decode cX1_row 30 = .ok (.ifCond .lt 9, 3) := by decide +kernel
theorem dX1_row_33 : decode cX1_row 33 = .ok (.iload_n 2, 1) := by decide +kernel
theorem dX1_row_34 : decode cX1_row 34 = .ok (.iload 5, 2) := by decide +kernel
theorem dX1_row_36 : decode cX1_row 36 = .ok (.if_icmp .le 5, 3) := by decide +kernel
theorem dX1_row_39 : decode cX1_row 39 = .ok (.iconst (-1), 1) := by decide +kernel
theorem dX1_row_40 : decode cX1_row 40 = .ok (.ireturn, 1) := by decide +kernel
theorem dX1_row_41 : decode cX1_row 41 = .ok (.iload_n 3, 1) := by decide +kernel
theorem dX1_row_42 : decode cX1_row 42 = .ok (.ifCond .ne 12, 3) := by decide +kernel
theorem dX1_row_45 : decode cX1_row 45 = .ok (.iload 4, 2) := by decide +kernel
theorem dX1_row_47 : decode cX1_row 47 = .ok (.iload 5, 2) := by decide +kernel
theorem dX1_row_49 : decode cX1_row 49 = .ok (.iload_n 2, 1) := by decide +kernel
theorem dX1_row_50 : decode cX1_row 50 = .ok (.invokestatic 77, 3) := by decide +kernel
theorem dX1_row_53 : decode cX1_row 53 = .ok (.ireturn, 1) := by decide +kernel
theorem dX1_row_54 : decode cX1_row 54 = .ok (.iload_n 3, 1) := by decide +kernel
theorem dX1_row_55 : decode cX1_row 55 = .ok (.iconst 1, 1) := by decide +kernel
theorem dX1_row_56 : decode cX1_row 56 = .ok (.if_icmp .ne 26, 3) := by decide +kernel
theorem dX1_row_59 : decode cX1_row 59 = .ok (.iload 4, 2) := by decide +kernel
theorem dX1_row_61 : decode cX1_row 61 = .ok (.aload_n 0, 1) := by decide +kernel
theorem dX1_row_62 : decode cX1_row 62 = .ok (.getfield 10, 3) := by decide +kernel
theorem dX1_row_65 : decode cX1_row 65 = .ok (.iload 4, 2) := by decide +kernel
theorem dX1_row_67 : decode cX1_row 67 = .ok (.invokevirtual 81, 3) := by decide +kernel
theorem dX1_row_70 : decode cX1_row 70 = .ok (.invokestatic 84, 3) := by decide +kernel
theorem dX1_row_73 : decode cX1_row 73 = .ok (.iload 5, 2) := by decide +kernel
theorem dX1_row_75 : decode cX1_row 75 = .ok (.iload_n 2, 1) := by decide +kernel
theorem dX1_row_76 : decode cX1_row 76 = .ok (.invokestatic 77, 3) := by decide +kernel
theorem dX1_row_79 : decode cX1_row 79 = .ok (.goto 4, 3) := by decide +kernel
theorem dX1_row_82 : decode cX1_row 82 = .ok (.iconst (-1), 1) := by decide +kernel
theorem dX1_row_83 : decode cX1_row 83 = .ok (.ireturn, 1) := by decide +kernel
set_option maxRecDepth 20000 in
theorem ggX1_takes_X1_decode : GoodIn wsX1_takes wsX1_decode := goodIn_r _ [5, 6, 7, 4, 8] (by decide +kernel) (by decide +kernel)
set_option maxRecDepth 20000 in
theorem gX1_takes_X1_decode : GoodIn wsX1_takes (va_wsS RX1 87 yX1_decode wsX1_decode) := goodIn_app (goodIn_of _ (by decide +kernel)) ggX1_takes_X1_decode
set_option maxRecDepth 20000 in
theorem ggX1_takes_X0_holds : GoodIn wsX1_takes wsX0_holds := goodIn_r _ [12, 13, 14, 15, 16, 17, 10, 18, 19, 41, 42, 43] (by decide +kernel) (by decide +kernel)
set_option maxRecDepth 20000 in
theorem gX1_takes_X0_holds_n62 : GoodIn wsX1_takes (wsX0_holds) := ggX1_takes_X0_holds
set_option maxRecDepth 20000 in
theorem ggX1_takes_X1_byteCount : GoodIn wsX1_takes wsX1_byteCount := goodIn_r _ [22, 23, 24, 4, 25, 26, 27] (by decide +kernel) (by decide +kernel)
set_option maxRecDepth 20000 in
theorem gX1_takes_X1_byteCount : GoodIn wsX1_takes (va_wsS RX1 74 yX1_byteCount wsX1_byteCount) := goodIn_app (goodIn_of _ (by decide +kernel)) ggX1_takes_X1_byteCount
set_option maxRecDepth 20000 in
theorem ggX1_takes_X1_startsWithBytesOf : GoodIn wsX1_takes wsX1_startsWithBytesOf := goodIn_r _ [30, 31, 32, 4, 33, 34, 35, 36, 37, 6, 7, 8] (by decide +kernel) (by decide +kernel)
set_option maxRecDepth 20000 in
theorem gX1_takes_X1_startsWithBytesOf : GoodIn wsX1_takes (va_wsS RX1 90 yX1_startsWithBytesOf wsX1_startsWithBytesOf) := goodIn_app (goodIn_of _ (by decide +kernel)) ggX1_takes_X1_startsWithBytesOf
theorem dX1_takes_0 : decode cX1_takes 0 = .ok (.iload_n 2, 1) := by decide +kernel
theorem dX1_takes_1 : decode cX1_takes 1 = .ok (.iconst 1, 1) := by decide +kernel
theorem dX1_takes_2 : decode cX1_takes 2 = .ok (.if_icmp .lt 8, 3) := by decide +kernel
theorem dX1_takes_5 : decode cX1_takes 5 = .ok (.iload_n 2, 1) := by decide +kernel
theorem dX1_takes_6 : decode cX1_takes 6 = .ok (.iconst 4, 1) := by decide +kernel
theorem dX1_takes_7 : decode cX1_takes 7 = .ok (.if_icmp .le 5, 3) := by decide +kernel
theorem dX1_takes_10 : decode cX1_takes 10 = .ok (.iconst 0, 1) := by decide +kernel
theorem dX1_takes_11 : decode cX1_takes 11 = .ok (.ireturn, 1) := by decide +kernel
theorem dX1_takes_12 : decode cX1_takes 12 = .ok (.iload_n 1, 1) := by decide +kernel
theorem dX1_takes_13 : decode cX1_takes 13 = .ok (.iload_n 2, 1) := by decide +kernel
theorem dX1_takes_14 : decode cX1_takes 14 = .ok (.invokestatic 87, 3) := by decide +kernel
theorem dX1_takes_17 : decode cX1_takes 17 = .ok (.istore_n 3, 1) := by decide +kernel
theorem dX1_takes_18 : decode cX1_takes 18 = .ok (.aload_n 0, 1) := by decide +kernel
theorem dX1_takes_19 : decode cX1_takes 19 = .ok (.getfield 10, 3) := by decide +kernel
theorem dX1_takes_22 : decode cX1_takes 22 = .ok (.iload_n 3, 1) := by decide +kernel
theorem dX1_takes_23 : decode cX1_takes 23 = .ok (.invokevirtual 62, 3) := by decide +kernel
theorem dX1_takes_26 : decode cX1_takes 26 = .ok (.ifCond .eq 24, 3) := by decide +kernel
theorem dX1_takes_29 : decode cX1_takes 29 = .ok (.iload_n 3, 1) := by decide +kernel
theorem dX1_takes_30 : decode cX1_takes 30 = .ok (.invokestatic 74, 3) := by decide +kernel
theorem dX1_takes_33 : decode cX1_takes 33 = .ok (.iload_n 2, 1) := by decide +kernel
theorem dX1_takes_34 : decode cX1_takes 34 = .ok (.if_icmp .ne 16, 3) := by decide +kernel
theorem dX1_takes_37 : decode cX1_takes 37 = .ok (.iload_n 3, 1) := by decide +kernel
theorem dX1_takes_38 : decode cX1_takes 38 = .ok (.iload_n 1, 1) := by decide +kernel
theorem dX1_takes_39 : decode cX1_takes 39 = .ok (.iload_n 2, 1) := by decide +kernel
theorem dX1_takes_40 : decode cX1_takes 40 = .ok (.invokestatic 90, 3) := by decide +kernel
theorem dX1_takes_43 : decode cX1_takes 43 = .ok (.ifCond .eq 7, 3) := by decide +kernel
theorem dX1_takes_46 : decode cX1_takes 46 = .ok (.iconst 1, 1) := by decide +kernel
theorem dX1_takes_47 : decode cX1_takes 47 = .ok (.goto 4, 3) := by decide +kernel
theorem dX1_takes_50 : decode cX1_takes 50 = .ok (.iconst 0, 1) := by decide +kernel
theorem dX1_takes_51 : decode cX1_takes 51 = .ok (.ireturn, 1) := by decide +kernel
set_option maxRecDepth 20000 in
theorem ggX1_putCharacters_X0_put : GoodIn wsX1_putCharacters wsX0_put := goodIn_r _ [13, 14, 15, 16, 17, 18, 11, 19, 20, 21, 22, 23, 24, 25, 26, 27, 28, 29, 30, 31, 32, 33, 34, 35, 36, 37, 3, 4, 5, 38, 8, 9, 39, 40, 41] (by decide +kernel) (by decide +kernel)
set_option maxRecDepth 20000 in
theorem gX1_putCharacters_X0_put_n58 : GoodIn wsX1_putCharacters (wsX0_put) := ggX1_putCharacters_X0_put
theorem dX1_putCharacters_0 : decode cX1_putCharacters 0 = .ok (.aload_n 0, 1) := by decide +kernel
theorem dX1_putCharacters_1 : decode cX1_putCharacters 1 = .ok (.iload_n 1, 1) := by decide +kernel
theorem dX1_putCharacters_2 : decode cX1_putCharacters 2 = .ok (.iload_n 2, 1) := by decide +kernel
theorem dX1_putCharacters_3 : decode cX1_putCharacters 3 = .ok (.ldc 94, 2) := by decide +kernel
theorem dX1_putCharacters_5 : decode cX1_putCharacters 5 = .ok (.invokestatic 95, 3) := by decide +kernel
theorem dX1_putCharacters_8 : decode cX1_putCharacters 8 = .ok (.invokevirtual 58, 3) := by decide +kernel
theorem dX1_putCharacters_11 : decode cX1_putCharacters 11 = .ok (.aload_n 0, 1) := by decide +kernel
theorem dX1_putCharacters_12 : decode cX1_putCharacters 12 = .ok (.iload_n 1, 1) := by decide +kernel
theorem dX1_putCharacters_13 : decode cX1_putCharacters 13 = .ok (.ldc 100, 2) := by decide +kernel
theorem dX1_putCharacters_15 : decode cX1_putCharacters 15 = .ok (.invokestatic 101, 3) := by decide +kernel
theorem dX1_putCharacters_18 : decode cX1_putCharacters 18 = .ok (.iload_n 2, 1) := by decide +kernel
theorem dX1_putCharacters_19 : decode cX1_putCharacters 19 = .ok (.invokevirtual 58, 3) := by decide +kernel
theorem dX1_putCharacters_22 : decode cX1_putCharacters 22 = .ok (.return_, 1) := by decide +kernel
set_option maxRecDepth 20000 in
theorem ggX1_foldLetters_X1_foldTwo : GoodIn wsX1_foldLetters wsX1_foldTwo := goodIn_r _ [6, 7, 8, 9, 10, 11, 12, 13, 14, 15, 16, 17, 18, 19, 20, 21, 22, 23, 24, 25, 26, 27, 28, 29, 30, 31, 32, 33, 34, 35, 36, 37, 38, 39, 40, 41, 42, 43, 44, 45, 46, 47, 48, 49, 50] (by decide +kernel) (by decide +kernel)
set_option maxRecDepth 20000 in
theorem gX1_foldLetters_X1_foldTwo : GoodIn wsX1_foldLetters (wsV RX1 107 RX1 yX1_foldTwo wsX1_foldTwo) := goodIn_app (goodIn_of _ (by decide +kernel)) ggX1_foldLetters_X1_foldTwo
theorem dX1_foldLetters_0 : decode cX1_foldLetters 0 = .ok (.iconst 0, 1) := by decide +kernel
theorem dX1_foldLetters_1 : decode cX1_foldLetters 1 = .ok (.istore_n 1, 1) := by decide +kernel
theorem dX1_foldLetters_2 : decode cX1_foldLetters 2 = .ok (.iload_n 1, 1) := by decide +kernel
theorem dX1_foldLetters_3 : decode cX1_foldLetters 3 = .ok (.iconst 2, 1) := by decide +kernel
theorem dX1_foldLetters_4 : decode cX1_foldLetters 4 = .ok (.iadd, 1) := by decide +kernel
theorem dX1_foldLetters_5 : decode cX1_foldLetters 5 = .ok (.getstatic 104, 3) := by decide +kernel
theorem dX1_foldLetters_8 : decode cX1_foldLetters 8 = .ok (.arraylength, 1) := by decide +kernel
theorem dX1_foldLetters_9 : decode cX1_foldLetters 9 = .ok (.if_icmp .ge 48, 3) := by decide +kernel
theorem dX1_foldLetters_12 : decode cX1_foldLetters 12 = .ok (.getstatic 104, 3) := by decide +kernel
theorem dX1_foldLetters_15 : decode cX1_foldLetters 15 = .ok (.iload_n 1, 1) := by decide +kernel
theorem dX1_foldLetters_16 : decode cX1_foldLetters 16 = .ok (.iconst 2, 1) := by decide +kernel
theorem dX1_foldLetters_17 : decode cX1_foldLetters 17 = .ok (.iadd, 1) := by decide +kernel
theorem dX1_foldLetters_18 : decode cX1_foldLetters 18 = .ok (.iaload, 1) := by decide +kernel
theorem dX1_foldLetters_19 : decode cX1_foldLetters 19 = .ok (.istore_n 2, 1) := by decide +kernel
theorem dX1_foldLetters_20 : decode cX1_foldLetters 20 = .ok (.getstatic 104, 3) := by decide +kernel
theorem dX1_foldLetters_23 : decode cX1_foldLetters 23 = .ok (.iload_n 1, 1) := by decide +kernel
theorem dX1_foldLetters_24 : decode cX1_foldLetters 24 = .ok (.iaload, 1) := by decide +kernel
theorem dX1_foldLetters_25 : decode cX1_foldLetters 25 = .ok (.istore_n 3, 1) := by decide +kernel
theorem dX1_foldLetters_26 : decode cX1_foldLetters 26 = .ok (.iload_n 3, 1) := by decide +kernel
theorem dX1_foldLetters_27 : decode cX1_foldLetters 27 = .ok (.getstatic 104, 3) := by decide +kernel
theorem dX1_foldLetters_30 : decode cX1_foldLetters 30 = .ok (.iload_n 1, 1) := by decide +kernel
theorem dX1_foldLetters_31 : decode cX1_foldLetters 31 = .ok (.iconst 1, 1) := by decide +kernel
theorem dX1_foldLetters_32 : decode cX1_foldLetters 32 = .ok (.iadd, 1) := by decide +kernel
theorem dX1_foldLetters_33 : decode cX1_foldLetters 33 = .ok (.iaload, 1) := by decide +kernel
theorem dX1_foldLetters_34 : decode cX1_foldLetters 34 = .ok (.if_icmp .gt 17, 3) := by decide +kernel
theorem dX1_foldLetters_37 : decode cX1_foldLetters 37 = .ok (.aload_n 0, 1) := by decide +kernel
theorem dX1_foldLetters_38 : decode cX1_foldLetters 38 = .ok (.iload_n 3, 1) := by decide +kernel
theorem dX1_foldLetters_39 : decode cX1_foldLetters 39 = .ok (.iload_n 3, 1) := by decide +kernel
theorem dX1_foldLetters_40 : decode cX1_foldLetters 40 = .ok (.iload_n 2, 1) := by decide +kernel
theorem dX1_foldLetters_41 : decode cX1_foldLetters 41 = .ok (.isub, 1) := by decide +kernel
theorem dX1_foldLetters_42 : decode cX1_foldLetters 42 = .ok (.invokevirtual 107, 3) := by decide +kernel
theorem dX1_foldLetters_45 : decode cX1_foldLetters 45 = .ok (.iinc 3 1, 3) := by decide +kernel
theorem dX1_foldLetters_48 : decode cX1_foldLetters 48 = .ok (.goto (-22), 3) := by decide +kernel
theorem dX1_foldLetters_51 : decode cX1_foldLetters 51 = .ok (.iinc 1 3, 3) := by decide +kernel
theorem dX1_foldLetters_54 : decode cX1_foldLetters 54 = .ok (.goto (-52), 3) := by decide +kernel
theorem dX1_foldLetters_57 : decode cX1_foldLetters 57 = .ok (.return_, 1) := by decide +kernel
set_option maxRecDepth 20000 in
theorem ggX1_foldPairs_X1_foldTwo : GoodIn wsX1_foldPairs wsX1_foldTwo := goodIn_r _ [6, 7, 8, 9, 10, 11, 12, 13, 14, 15, 16, 17, 18, 19, 20, 21, 22, 23, 24, 25, 26, 27, 28, 29, 30, 31, 32, 33, 34, 35, 36, 37, 38, 39, 40, 41, 42, 43, 44, 45, 46, 47, 48, 49, 50] (by decide +kernel) (by decide +kernel)
set_option maxRecDepth 20000 in
theorem gX1_foldPairs_X1_foldTwo : GoodIn wsX1_foldPairs (wsV RX1 107 RX1 yX1_foldTwo wsX1_foldTwo) := goodIn_app (goodIn_of _ (by decide +kernel)) ggX1_foldPairs_X1_foldTwo
theorem dX1_foldPairs_0 : decode cX1_foldPairs 0 = .ok (.iconst 0, 1) := by decide +kernel
theorem dX1_foldPairs_1 : decode cX1_foldPairs 1 = .ok (.istore_n 1, 1) := by decide +kernel
theorem dX1_foldPairs_2 : decode cX1_foldPairs 2 = .ok (.iload_n 1, 1) := by decide +kernel
theorem dX1_foldPairs_3 : decode cX1_foldPairs 3 = .ok (.iconst 1, 1) := by decide +kernel
theorem dX1_foldPairs_4 : decode cX1_foldPairs 4 = .ok (.iadd, 1) := by decide +kernel
theorem dX1_foldPairs_5 : decode cX1_foldPairs 5 = .ok (.getstatic 110, 3) := by decide +kernel
theorem dX1_foldPairs_8 : decode cX1_foldPairs 8 = .ok (.arraylength, 1) := by decide +kernel
theorem dX1_foldPairs_9 : decode cX1_foldPairs 9 = .ok (.if_icmp .ge 25, 3) := by decide +kernel
theorem dX1_foldPairs_12 : decode cX1_foldPairs 12 = .ok (.aload_n 0, 1) := by decide +kernel
theorem dX1_foldPairs_13 : decode cX1_foldPairs 13 = .ok (.getstatic 110, 3) := by decide +kernel
theorem dX1_foldPairs_16 : decode cX1_foldPairs 16 = .ok (.iload_n 1, 1) := by decide +kernel
theorem dX1_foldPairs_17 : decode cX1_foldPairs 17 = .ok (.iaload, 1) := by decide +kernel
theorem dX1_foldPairs_18 : decode cX1_foldPairs 18 = .ok (.getstatic 110, 3) := by decide +kernel
theorem dX1_foldPairs_21 : decode cX1_foldPairs 21 = .ok (.iload_n 1, 1) := by decide +kernel
theorem dX1_foldPairs_22 : decode cX1_foldPairs 22 = .ok (.iconst 1, 1) := by decide +kernel
theorem dX1_foldPairs_23 : decode cX1_foldPairs 23 = .ok (.iadd, 1) := by decide +kernel
theorem dX1_foldPairs_24 : decode cX1_foldPairs 24 = .ok (.iaload, 1) := by decide +kernel
theorem dX1_foldPairs_25 : decode cX1_foldPairs 25 = .ok (.invokevirtual 107, 3) := by decide +kernel
theorem dX1_foldPairs_28 : decode cX1_foldPairs 28 = .ok (.iinc 1 2, 3) := by decide +kernel
theorem dX1_foldPairs_31 : decode cX1_foldPairs 31 = .ok (.goto (-29), 3) := by decide +kernel
theorem dX1_foldPairs_34 : decode cX1_foldPairs 34 = .ok (.return_, 1) := by decide +kernel
set_option maxRecDepth 20000 in
theorem ggX1_foldTwo_X0_holds : GoodIn wsX1_foldTwo wsX0_holds := goodIn_r _ [5, 6, 7, 8, 9, 10, 3, 11, 12, 42, 43, 44] (by decide +kernel) (by decide +kernel)
set_option maxRecDepth 20000 in
theorem gX1_foldTwo_X0_holds_n62 : GoodIn wsX1_foldTwo (wsX0_holds) := ggX1_foldTwo_X0_holds
set_option maxRecDepth 20000 in
theorem ggX1_foldTwo_X0_put : GoodIn wsX1_foldTwo wsX0_put := goodIn_r _ [15, 6, 7, 8, 9, 10, 3, 11, 12, 16, 17, 18, 19, 20, 21, 22, 23, 24, 25, 26, 27, 28, 29, 30, 31, 32, 33, 34, 35, 36, 37, 38, 42, 43, 44] (by decide +kernel) (by decide +kernel)
set_option maxRecDepth 20000 in
theorem gX1_foldTwo_X0_put_n58 : GoodIn wsX1_foldTwo (wsX0_put) := ggX1_foldTwo_X0_put
theorem dX1_foldTwo_0 : decode cX1_foldTwo 0 = .ok (.aload_n 0, 1) := by decide +kernel
theorem dX1_foldTwo_1 : decode cX1_foldTwo 1 = .ok (.getfield 10, 3) := by decide +kernel
theorem dX1_foldTwo_4 : decode cX1_foldTwo 4 = .ok (.iload_n 1, 1) := by decide +kernel
theorem dX1_foldTwo_5 : decode cX1_foldTwo 5 = .ok (.invokevirtual 62, 3) := by decide +kernel
theorem dX1_foldTwo_8 : decode cX1_foldTwo 8 = .ok (.istore_n 3, 1) := by decide +kernel
theorem dX1_foldTwo_9 : decode cX1_foldTwo 9 = .ok (.iload_n 3, 1) := by decide +kernel
theorem dX1_foldTwo_10 : decode cX1_foldTwo 10 = .ok (.aload_n 0, 1) := by decide +kernel
theorem dX1_foldTwo_11 : decode cX1_foldTwo 11 = .ok (.getfield 10, 3) := by decide +kernel
theorem dX1_foldTwo_14 : decode cX1_foldTwo 14 = .ok (.iload_n 2, 1) := by decide +kernel
theorem dX1_foldTwo_15 : decode cX1_foldTwo 15 = .ok (.invokevirtual 62, 3) := by decide +kernel
theorem dX1_foldTwo_18 : decode cX1_foldTwo 18 = .ok (.if_icmp .eq 25, 3) := by decide +kernel
theorem dX1_foldTwo_21 : decode cX1_foldTwo 21 = .ok (.iload_n 3, 1) := by decide +kernel
theorem dX1_foldTwo_22 : decode cX1_foldTwo 22 = .ok (.ifCond .eq 7, 3) := by decide +kernel
theorem dX1_foldTwo_25 : decode cX1_foldTwo 25 = .ok (.iload_n 2, 1) := by decide +kernel
theorem dX1_foldTwo_26 : decode cX1_foldTwo 26 = .ok (.goto 4, 3) := by decide +kernel
theorem dX1_foldTwo_29 : decode cX1_foldTwo 29 = .ok (.iload_n 1, 1) := by decide +kernel
theorem dX1_foldTwo_30 : decode cX1_foldTwo 30 = .ok (.istore 4, 2) := by decide +kernel
theorem dX1_foldTwo_32 : decode cX1_foldTwo 32 = .ok (.aload_n 0, 1) := by decide +kernel
theorem dX1_foldTwo_33 : decode cX1_foldTwo 33 = .ok (.getfield 10, 3) := by decide +kernel
theorem dX1_foldTwo_36 : decode cX1_foldTwo 36 = .ok (.iload 4, 2) := by decide +kernel
theorem dX1_foldTwo_38 : decode cX1_foldTwo 38 = .ok (.iload 4, 2) := by decide +kernel
theorem dX1_foldTwo_40 : decode cX1_foldTwo 40 = .ok (.invokevirtual 58, 3) := by decide +kernel
theorem dX1_foldTwo_43 : decode cX1_foldTwo 43 = .ok (.return_, 1) := by decide +kernel
set_option maxRecDepth 20000 in
theorem ggX1_countRows_X1_lastOfRow : GoodIn wsX1_countRows wsX1_lastOfRow := goodIn_r _ [4, 5, 6, 7, 8, 9, 10, 3, 11, 12, 13, 14, 15, 16] (by decide +kernel) (by decide +kernel)
set_option maxRecDepth 20000 in
theorem gX1_countRows_X1_lastOfRow : GoodIn wsX1_countRows (va_wsS RX1 84 yX1_lastOfRow wsX1_lastOfRow) := goodIn_app (goodIn_of _ (by decide +kernel)) ggX1_countRows_X1_lastOfRow
theorem dX1_countRows_0 : decode cX1_countRows 0 = .ok (.iload_n 0, 1) := by decide +kernel
theorem dX1_countRows_1 : decode cX1_countRows 1 = .ok (.istore_n 2, 1) := by decide +kernel
theorem dX1_countRows_2 : decode cX1_countRows 2 = .ok (.iconst 0, 1) := by decide +kernel
theorem dX1_countRows_3 : decode cX1_countRows 3 = .ok (.istore_n 3, 1) := by decide +kernel
theorem dX1_countRows_4 : decode cX1_countRows 4 = .ok (.iload_n 3, 1) := by decide +kernel
theorem dX1_countRows_5 : decode cX1_countRows 5 = .ok (.bipush 16, 2) := by decide +kernel
theorem dX1_countRows_7 : decode cX1_countRows 7 = .ok (.if_icmp .ge 22, 3) := by decide +kernel
theorem dX1_countRows_10 : decode cX1_countRows 10 = .ok (.iload_n 2, 1) := by decide +kernel
theorem dX1_countRows_11 : decode cX1_countRows 11 = .ok (.iload_n 1, 1) := by decide +kernel
theorem dX1_countRows_12 : decode cX1_countRows 12 = .ok (.if_icmp .gt 17, 3) := by decide +kernel
theorem dX1_countRows_15 : decode cX1_countRows 15 = .ok (.iload_n 2, 1) := by decide +kernel
theorem dX1_countRows_16 : decode cX1_countRows 16 = .ok (.iload_n 1, 1) := by decide +kernel
theorem dX1_countRows_17 : decode cX1_countRows 17 = .ok (.invokestatic 84, 3) := by decide +kernel
theorem dX1_countRows_20 : decode cX1_countRows 20 = .ok (.iconst 1, 1) := by decide +kernel
theorem dX1_countRows_21 : decode cX1_countRows 21 = .ok (.iadd, 1) := by decide +kernel
theorem dX1_countRows_22 : decode cX1_countRows 22 = .ok (.istore_n 2, 1) := by decide +kernel
theorem dX1_countRows_23 : decode cX1_countRows 23 = .ok (.iinc 3 1, 3) := by decide +kernel
theorem dX1_countRows_26 : decode cX1_countRows 26 = .ok (.goto (-22), 3) := by decide +kernel
theorem dX1_countRows_29 : decode cX1_countRows 29 = .ok (.iload_n 3, 1) := by decide +kernel
theorem dX1_countRows_30 : decode cX1_countRows 30 = .ok (.ireturn, 1) := by decide +kernel
set_option maxRecDepth 20000 in
theorem ggX1_firstOfRow_X1_countRows : GoodIn wsX1_firstOfRow wsX1_countRows := goodIn_r _ [5, 6, 7, 4, 8, 9, 10, 11, 12, 13, 14, 15, 16, 17, 18, 19, 20] (by decide +kernel) (by decide +kernel)
set_option maxRecDepth 20000 in
theorem gX1_firstOfRow_X1_countRows : GoodIn wsX1_firstOfRow (va_wsS RX1 66 yX1_countRows wsX1_countRows) := goodIn_app (goodIn_of _ (by decide +kernel)) ggX1_firstOfRow_X1_countRows
set_option maxRecDepth 20000 in
theorem ggX1_firstOfRow_X1_skipRows : GoodIn wsX1_firstOfRow wsX1_skipRows := goodIn_r _ [23, 6, 7, 4, 8, 9, 10, 11, 12, 13, 14, 15, 16, 17, 18, 19, 20] (by decide +kernel) (by decide +kernel)
set_option maxRecDepth 20000 in
theorem gX1_firstOfRow_X1_skipRows : GoodIn wsX1_firstOfRow (va_wsS RX1 113 yX1_skipRows wsX1_skipRows) := goodIn_app (goodIn_of _ (by decide +kernel)) ggX1_firstOfRow_X1_skipRows
theorem dX1_firstOfRow_0 : decode cX1_firstOfRow 0 = .ok (.iload_n 1, 1) := by decide +kernel
theorem dX1_firstOfRow_1 : decode cX1_firstOfRow 1 = .ok (.ifCond .ge 5, 3) := by decide +kernel
theorem dX1_firstOfRow_4 : decode cX1_firstOfRow 4 = .ok (.iconst (-1), 1) := by decide +kernel
theorem dX1_firstOfRow_5 : decode cX1_firstOfRow 5 = .ok (.ireturn, 1) := by decide +kernel
theorem dX1_firstOfRow_6 : decode cX1_firstOfRow 6 = .ok (.iload_n 1, 1) := by decide +kernel
theorem dX1_firstOfRow_7 : decode cX1_firstOfRow 7 = .ok (.istore_n 2, 1) := by decide +kernel
theorem dX1_firstOfRow_8 : decode cX1_firstOfRow 8 = .ok (.iconst 0, 1) := by decide +kernel
theorem dX1_firstOfRow_9 : decode cX1_firstOfRow 9 = .ok (.istore_n 3, 1) := by decide +kernel
theorem dX1_firstOfRow_10 : decode cX1_firstOfRow 10 = .ok (.iload_n 3, 1) := by decide +kernel
theorem dX1_firstOfRow_11 : decode cX1_firstOfRow 11 = .ok (.aload_n 0, 1) := by decide +kernel
theorem dX1_firstOfRow_12 : decode cX1_firstOfRow 12 = .ok (.getfield 10, 3) := by decide +kernel
theorem dX1_firstOfRow_15 : decode cX1_firstOfRow 15 = .ok (.getfield 34, 3) := by decide +kernel
theorem dX1_firstOfRow_18 : decode cX1_firstOfRow 18 = .ok (.if_icmp .ge 66, 3) := by decide +kernel
theorem dX1_firstOfRow_21 : decode cX1_firstOfRow 21 = .ok (.aload_n 0, 1) := by decide +kernel
theorem dX1_firstOfRow_22 : decode cX1_firstOfRow 22 = .ok (.getfield 10, 3) := by decide +kernel
theorem dX1_firstOfRow_25 : decode cX1_firstOfRow 25 = .ok (.getfield 47, 3) := by decide +kernel
theorem dX1_firstOfRow_28 : decode cX1_firstOfRow 28 = .ok (.iload_n 3, 1) := by decide +kernel
theorem dX1_firstOfRow_29 : decode cX1_firstOfRow 29 = .ok (.iaload, 1) := by decide +kernel
theorem dX1_firstOfRow_30 : decode cX1_firstOfRow 30 = .ok (.aload_n 0, 1) := by decide +kernel
theorem dX1_firstOfRow_31 : decode cX1_firstOfRow 31 = .ok (.getfield 10, 3) := by decide +kernel
theorem dX1_firstOfRow_34 : decode cX1_firstOfRow 34 = .ok (.getfield 51, 3) := by decide +kernel
theorem dX1_firstOfRow_37 : decode cX1_firstOfRow 37 = .ok (.iload_n 3, 1) := by decide +kernel
theorem dX1_firstOfRow_38 : decode cX1_firstOfRow 38 = .ok (.iaload, 1) := by decide +kernel
theorem dX1_firstOfRow_39 : decode cX1_firstOfRow 39 = .ok (.invokestatic 66, 3) := by decide +kernel
theorem dX1_firstOfRow_42 : decode cX1_firstOfRow 42 = .ok (.istore 4, 2) := by decide +kernel
theorem dX1_firstOfRow_44 : decode cX1_firstOfRow 44 = .ok (.iload_n 2, 1) := by decide +kernel
theorem dX1_firstOfRow_45 : decode cX1_firstOfRow 45 = .ok (.iload 4, 2) := by decide +kernel
theorem dX1_firstOfRow_47 : decode cX1_firstOfRow 47 = .ok (.if_icmp .ge 26, 3) := by decide +kernel
theorem dX1_firstOfRow_50 : decode cX1_firstOfRow 50 = .ok (.aload_n 0, 1) := by decide +kernel
theorem dX1_firstOfRow_51 : decode cX1_firstOfRow 51 = .ok (.getfield 10, 3) := by decide +kernel
theorem dX1_firstOfRow_54 : decode cX1_firstOfRow 54 = .ok (.getfield 47, 3) := by decide +kernel
theorem dX1_firstOfRow_57 : decode cX1_firstOfRow 57 = .ok (.iload_n 3, 1) := by decide +kernel
theorem dX1_firstOfRow_58 : decode cX1_firstOfRow 58 = .ok (.iaload, 1) := by decide +kernel
theorem dX1_firstOfRow_59 : decode cX1_firstOfRow 59 = .ok (.aload_n 0, 1) := by decide +kernel
theorem dX1_firstOfRow_60 : decode cX1_firstOfRow 60 = .ok (.getfield 10, 3) := by decide +kernel
theorem dX1_firstOfRow_63 : decode cX1_firstOfRow 63 = .ok (.getfield 51, 3) := by decide +kernel
theorem dX1_firstOfRow_66 : decode cX1_firstOfRow 66 = .ok (.iload_n 3, 1) := by decide +kernel
theorem dX1_firstOfRow_67 : decode cX1_firstOfRow 67 = .ok (.iaload, 1) := by decide +kernel
theorem dX1_firstOfRow_68 : decode cX1_firstOfRow 68 = .ok (.iload_n 2, 1) := by decide +kernel
theorem dX1_firstOfRow_69 : decode cX1_firstOfRow 69 = .ok (.invokestatic 113, 3) := by decide +kernel
theorem dX1_firstOfRow_72 : decode cX1_firstOfRow 72 = .ok (.ireturn, 1) := by decide +kernel
theorem dX1_firstOfRow_73 : decode cX1_firstOfRow 73 = .ok (.iload_n 2, 1) := by decide +kernel
theorem dX1_firstOfRow_74 : decode cX1_firstOfRow 74 = .ok (.iload 4, 2) := by decide +kernel
theorem dX1_firstOfRow_76 : decode cX1_firstOfRow 76 = .ok (.isub, 1) := by decide +kernel
theorem dX1_firstOfRow_77 : decode cX1_firstOfRow 77 = .ok (.istore_n 2, 1) := by decide +kernel
theorem dX1_firstOfRow_78 : decode cX1_firstOfRow 78 = .ok (.iinc 3 1, 3) := by decide +kernel
theorem dX1_firstOfRow_81 : decode cX1_firstOfRow 81 = .ok (.goto (-71), 3) := by decide +kernel
theorem dX1_firstOfRow_84 : decode cX1_firstOfRow 84 = .ok (.iconst (-1), 1) := by decide +kernel
theorem dX1_firstOfRow_85 : decode cX1_firstOfRow 85 = .ok (.ireturn, 1) := by decide +kernel
set_option maxRecDepth 20000 in
theorem ggX1_skipRows_X1_lastOfRow : GoodIn wsX1_skipRows wsX1_lastOfRow := goodIn_r _ [4, 5, 6, 7, 8, 9, 10, 3, 11, 12, 13, 14, 15, 16] (by decide +kernel) (by decide +kernel)
set_option maxRecDepth 20000 in
theorem gX1_skipRows_X1_lastOfRow : GoodIn wsX1_skipRows (va_wsS RX1 84 yX1_lastOfRow wsX1_lastOfRow) := goodIn_app (goodIn_of _ (by decide +kernel)) ggX1_skipRows_X1_lastOfRow
theorem dX1_skipRows_0 : decode cX1_skipRows 0 = .ok (.iload_n 0, 1) := by decide +kernel
theorem dX1_skipRows_1 : decode cX1_skipRows 1 = .ok (.istore_n 3, 1) := by decide +kernel
theorem dX1_skipRows_2 : decode cX1_skipRows 2 = .ok (.iconst 0, 1) := by decide +kernel
theorem dX1_skipRows_3 : decode cX1_skipRows 3 = .ok (.istore 4, 2) := by decide +kernel
theorem dX1_skipRows_5 : decode cX1_skipRows 5 = .ok (.iload 4, 2) := by decide +kernel
theorem dX1_skipRows_7 : decode cX1_skipRows 7 = .ok (.iload_n 2, 1) := by decide +kernel
theorem dX1_skipRows_8 : decode cX1_skipRows 8 = .ok (.if_icmp .ge 17, 3) := by decide +kernel
theorem dX1_skipRows_11 : decode cX1_skipRows 11 = .ok (.iload_n 3, 1) := by decide +kernel
theorem dX1_skipRows_12 : decode cX1_skipRows 12 = .ok (.iload_n 1, 1) := by decide +kernel
theorem dX1_skipRows_13 : decode cX1_skipRows 13 = .ok (.invokestatic 84, 3) := by decide +kernel
theorem dX1_skipRows_16 : decode cX1_skipRows 16 = .ok (.iconst 1, 1) := by decide +kernel
theorem dX1_skipRows_17 : decode cX1_skipRows 17 = .ok (.iadd, 1) := by decide +kernel
theorem dX1_skipRows_18 : decode cX1_skipRows 18 = .ok (.istore_n 3, 1) := by decide +kernel
theorem dX1_skipRows_19 : decode cX1_skipRows 19 = .ok (.iinc 4 1, 3) := by decide +kernel
theorem dX1_skipRows_22 : decode cX1_skipRows 22 = .ok (.goto (-17), 3) := by decide +kernel
theorem dX1_skipRows_25 : decode cX1_skipRows 25 = .ok (.iload_n 3, 1) := by decide +kernel
theorem dX1_skipRows_26 : decode cX1_skipRows 26 = .ok (.ireturn, 1) := by decide +kernel
set_option maxRecDepth 20000 in
theorem ggX1_lastOfRow_X1_byteCount : GoodIn wsX1_lastOfRow wsX1_byteCount := goodIn_r _ [8, 9, 10, 7, 11, 12, 13] (by decide +kernel) (by decide +kernel)
set_option maxRecDepth 20000 in
theorem gX1_lastOfRow_X1_byteCount : GoodIn wsX1_lastOfRow (va_wsS RX1 74 yX1_byteCount wsX1_byteCount) := goodIn_app (goodIn_of _ (by decide +kernel)) ggX1_lastOfRow_X1_byteCount
set_option maxRecDepth 20000 in
theorem ggX1_lastOfRow_X1_lastOfLength : GoodIn wsX1_lastOfRow wsX1_lastOfLength := goodIn_r _ [11, 12, 13] (by decide +kernel) (by decide +kernel)
set_option maxRecDepth 20000 in
theorem gX1_lastOfRow_X1_lastOfLength : GoodIn wsX1_lastOfRow (va_wsS RX1 116 yX1_lastOfLength wsX1_lastOfLength) := goodIn_app (goodIn_of _ (by decide +kernel)) ggX1_lastOfRow_X1_lastOfLength
theorem dX1_lastOfRow_0 : decode cX1_lastOfRow 0 = .ok (.iload_n 0, 1) := by decide +kernel
theorem dX1_lastOfRow_1 : decode cX1_lastOfRow 1 = .ok (.invokestatic 74, 3) := by decide +kernel
theorem dX1_lastOfRow_4 : decode cX1_lastOfRow 4 = .ok (.istore_n 2, 1) := by decide +kernel
theorem dX1_lastOfRow_5 : decode cX1_lastOfRow 5 = .ok (.iload_n 1, 1) := by decide +kernel
theorem dX1_lastOfRow_6 : decode cX1_lastOfRow 6 = .ok (.iload_n 2, 1) := by decide +kernel
theorem dX1_lastOfRow_7 : decode cX1_lastOfRow 7 = .ok (.invokestatic 116, 3) := by decide +kernel
theorem dX1_lastOfRow_10 : decode cX1_lastOfRow 10 = .ok (.invokestatic 95, 3) := by decide +kernel
theorem dX1_lastOfRow_13 : decode cX1_lastOfRow 13 = .ok (.istore_n 3, 1) := by decide +kernel
theorem dX1_lastOfRow_14 : decode cX1_lastOfRow 14 = .ok (.iload_n 2, 1) := by decide +kernel
theorem dX1_lastOfRow_15 : decode cX1_lastOfRow 15 = .ok (.iconst 1, 1) := by decide +kernel
theorem dX1_lastOfRow_16 : decode cX1_lastOfRow 16 = .ok (.if_icmp .ne 5, 3) := by decide +kernel
theorem dX1_lastOfRow_19 : decode cX1_lastOfRow 19 = .ok (.iload_n 3, 1) := by decide +kernel
theorem dX1_lastOfRow_20 : decode cX1_lastOfRow 20 = .ok (.ireturn, 1) := by decide +kernel
theorem dX1_lastOfRow_21 : decode cX1_lastOfRow 21 = .ok (.iconst 1, 1) := by decide +kernel
theorem dX1_lastOfRow_22 : decode cX1_lastOfRow 22 = .ok (.istore 4, 2) := by decide +kernel
theorem dX1_lastOfRow_24 : decode cX1_lastOfRow 24 = .ok (.iload 4, 2) := by decide +kernel
theorem dX1_lastOfRow_26 : decode cX1_lastOfRow 26 = .ok (.iload_n 2, 1) := by decide +kernel
theorem dX1_lastOfRow_27 : decode cX1_lastOfRow 27 = .ok (.if_icmp .ge 65, 3) := by decide +kernel
theorem dX1_lastOfRow_30 : decode cX1_lastOfRow 30 = .ok (.iconst 1, 1) := by decide +kernel
theorem dX1_lastOfRow_31 : decode cX1_lastOfRow 31 = .ok (.bipush 6, 2) := by decide +kernel
theorem dX1_lastOfRow_33 : decode cX1_lastOfRow 33 = .ok (.iload_n 2, 1) := by decide +kernel
theorem dX1_lastOfRow_34 : decode cX1_lastOfRow 34 = .ok (.iload 4, 2) := by decide +kernel
theorem dX1_lastOfRow_36 : decode cX1_lastOfRow 36 = .ok (.isub, 1) := by decide +kernel
theorem dX1_lastOfRow_37 : decode cX1_lastOfRow 37 = .ok (.imul, 1) := by decide +kernel
theorem dX1_lastOfRow_38 : decode cX1_lastOfRow 38 = .ok (.ishl, 1) := by decide +kernel
theorem dX1_lastOfRow_39 : decode cX1_lastOfRow 39 = .ok (.istore 5, 2) := by decide +kernel
theorem dX1_lastOfRow_41 : decode cX1_lastOfRow 41 = .ok (.iload_n 3, 1) := by decide +kernel
theorem dX1_lastOfRow_42 : decode cX1_lastOfRow 42 = .ok (.iload_n 0, 1) := by decide +kernel
theorem dX1_lastOfRow_43 : decode cX1_lastOfRow 43 = .ok (.bipush 64, 2) := by decide +kernel
theorem dX1_lastOfRow_45 : decode cX1_lastOfRow 45 = .ok (.iload 5, 2) := by decide +kernel
theorem dX1_lastOfRow_47 : decode cX1_lastOfRow 47 = .ok (.imul, 1) := by decide +kernel
theorem dX1_lastOfRow_48 : decode cX1_lastOfRow 48 = .ok (.iconst 1, 1) := by decide +kernel
theorem dX1_lastOfRow_49 : decode cX1_lastOfRow 49 = .ok (.isub, 1) := by decide +kernel
theorem dX1_lastOfRow_50 : decode cX1_lastOfRow 50 = .ok (.ior, 1) := by decide +kernel
theorem dX1_lastOfRow_51 : decode cX1_lastOfRow 51 = .ok (.invokestatic 95, 3) := by decide +kernel
theorem dX1_lastOfRow_54 : decode cX1_lastOfRow 54 = .ok (.istore 6, 2) := by decide +kernel
theorem dX1_lastOfRow_56 : decode cX1_lastOfRow 56 = .ok (.iload 6, 2) := by decide +kernel
theorem dX1_lastOfRow_58 : decode cX1_lastOfRow 58 = .ok (.iconst 1, 1) := by decide +kernel
theorem dX1_lastOfRow_59 : decode cX1_lastOfRow 59 = .ok (.iadd, 1) := by decide +kernel
theorem dX1_lastOfRow_60 : decode cX1_lastOfRow 60 = .ok (.iload 5, 2) := by decide +kernel
theorem dX1_lastOfRow_62 : decode cX1_lastOfRow 62 = .ok (.ineg, 1) := by decide +kernel
theorem dX1_lastOfRow_63 : decode cX1_lastOfRow 63 = .ok (.iand, 1) := by decide +kernel
theorem dX1_lastOfRow_64 : decode cX1_lastOfRow 64 = .ok (.iconst 1, 1) := by decide +kernel
theorem dX1_lastOfRow_65 : decode cX1_lastOfRow 65 = .ok (.isub, 1) := by decide +kernel
theorem dX1_lastOfRow_66 : decode cX1_lastOfRow 66 = .ok (.istore 7, 2) := by decide +kernel
theorem dX1_lastOfRow_68 : decode cX1_lastOfRow 68 = .ok (.iload_n 0, 1) := by decide +kernel
theorem dX1_lastOfRow_69 : decode cX1_lastOfRow 69 = .ok (.iload 5, 2) := by decide +kernel
theorem dX1_lastOfRow_71 : decode cX1_lastOfRow 71 = .ok (.iconst 1, 1) := by decide +kernel
theorem dX1_lastOfRow_72 : decode cX1_lastOfRow 72 = .ok (.isub, 1) := by decide +kernel
theorem dX1_lastOfRow_73 : decode cX1_lastOfRow 73 = .ok (.iand, 1) := by decide +kernel
theorem dX1_lastOfRow_74 : decode cX1_lastOfRow 74 = .ok (.ifCond .ne 12, 3) := by decide +kernel
theorem dX1_lastOfRow_77 : decode cX1_lastOfRow 77 = .ok (.iload 7, 2) := by decide +kernel
theorem dX1_lastOfRow_79 : decode cX1_lastOfRow 79 = .ok (.iload_n 0, 1) := by decide +kernel
theorem dX1_lastOfRow_80 : decode cX1_lastOfRow 80 = .ok (.if_icmp .lt 6, 3) := by decide +kernel
theorem dX1_lastOfRow_83 : decode cX1_lastOfRow 83 = .ok (.iload 7, 2) := by decide +kernel
theorem dX1_lastOfRow_85 : decode cX1_lastOfRow 85 = .ok (.ireturn, 1) := by decide +kernel
theorem dX1_lastOfRow_86 : decode cX1_lastOfRow 86 = .ok (.iinc 4 1, 3) := by decide +kernel
theorem dX1_lastOfRow_89 : decode cX1_lastOfRow 89 = .ok (.goto (-65), 3) := by decide +kernel
theorem dX1_lastOfRow_92 : decode cX1_lastOfRow 92 = .ok (.iload_n 3, 1) := by decide +kernel
theorem dX1_lastOfRow_93 : decode cX1_lastOfRow 93 = .ok (.iload_n 0, 1) := by decide +kernel
theorem dX1_lastOfRow_94 : decode cX1_lastOfRow 94 = .ok (.bipush 63, 2) := by decide +kernel
theorem dX1_lastOfRow_96 : decode cX1_lastOfRow 96 = .ok (.ior, 1) := by decide +kernel
theorem dX1_lastOfRow_97 : decode cX1_lastOfRow 97 = .ok (.invokestatic 95, 3) := by decide +kernel
theorem dX1_lastOfRow_100 : decode cX1_lastOfRow 100 = .ok (.ireturn, 1) := by decide +kernel
set_option maxRecDepth 20000 in
theorem ggX1_byteCount_X1_lastOfLength : GoodIn wsX1_byteCount wsX1_lastOfLength := goodIn_r _ [4, 5, 6] (by decide +kernel) (by decide +kernel)
set_option maxRecDepth 20000 in
theorem gX1_byteCount_X1_lastOfLength : GoodIn wsX1_byteCount (va_wsS RX1 116 yX1_lastOfLength wsX1_lastOfLength) := goodIn_app (goodIn_of _ (by decide +kernel)) ggX1_byteCount_X1_lastOfLength
theorem dX1_byteCount_0 : decode cX1_byteCount 0 = .ok (.iload_n 0, 1) := by decide +kernel
theorem dX1_byteCount_1 : decode cX1_byteCount 1 = .ok (.iconst 1, 1) := by decide +kernel
theorem dX1_byteCount_2 : decode cX1_byteCount 2 = .ok (.invokestatic 116, 3) := by decide +kernel
theorem dX1_byteCount_5 : decode cX1_byteCount 5 = .ok (.if_icmp .gt 5, 3) := by decide +kernel
theorem dX1_byteCount_8 : decode cX1_byteCount 8 = .ok (.iconst 1, 1) := by decide +kernel
theorem dX1_byteCount_9 : decode cX1_byteCount 9 = .ok (.ireturn, 1) := by decide +kernel
theorem dX1_byteCount_10 : decode cX1_byteCount 10 = .ok (.iload_n 0, 1) := by decide +kernel
theorem dX1_byteCount_11 : decode cX1_byteCount 11 = .ok (.iconst 2, 1) := by decide +kernel
theorem dX1_byteCount_12 : decode cX1_byteCount 12 = .ok (.invokestatic 116, 3) := by decide +kernel
theorem dX1_byteCount_15 : decode cX1_byteCount 15 = .ok (.if_icmp .gt 5, 3) := by decide +kernel
theorem dX1_byteCount_18 : decode cX1_byteCount 18 = .ok (.iconst 2, 1) := by decide +kernel
theorem dX1_byteCount_19 : decode cX1_byteCount 19 = .ok (.ireturn, 1) := by decide +kernel
theorem dX1_byteCount_20 : decode cX1_byteCount 20 = .ok (.iload_n 0, 1) := by decide +kernel
theorem dX1_byteCount_21 : decode cX1_byteCount 21 = .ok (.iconst 3, 1) := by decide +kernel
theorem dX1_byteCount_22 : decode cX1_byteCount 22 = .ok (.invokestatic 116, 3) := by decide +kernel
theorem dX1_byteCount_25 : decode cX1_byteCount 25 = .ok (.if_icmp .gt 7, 3) := by decide +kernel
theorem dX1_byteCount_28 : decode cX1_byteCount 28 = .ok (.iconst 3, 1) := by decide +kernel
theorem dX1_byteCount_29 : decode cX1_byteCount 29 = .ok (.goto 4, 3) := by decide +kernel
theorem dX1_byteCount_32 : decode cX1_byteCount 32 = .ok (.iconst 4, 1) := by decide +kernel
theorem dX1_byteCount_33 : decode cX1_byteCount 33 = .ok (.ireturn, 1) := by decide +kernel
theorem dX1_lastOfLength_0 : decode cX1_lastOfLength 0 = .ok (.iload_n 0, 1) := by decide +kernel
theorem dX1_lastOfLength_1 : decode cX1_lastOfLength 1 = .ok (.tableswitch 37 1 3 #[27, 30, 34], 27) := by decide +kernel
theorem dX1_lastOfLength_28 : decode cX1_lastOfLength 28 = .ok (.bipush 127, 2) := by decide +kernel
theorem dX1_lastOfLength_30 : decode cX1_lastOfLength 30 = .ok (.ireturn, 1) := by decide +kernel
theorem dX1_lastOfLength_31 : decode cX1_lastOfLength 31 = .ok (.sipush 2047, 3) := by decide +kernel
theorem dX1_lastOfLength_34 : decode cX1_lastOfLength 34 = .ok (.ireturn, 1) := by decide +kernel
theorem dX1_lastOfLength_35 : decode cX1_lastOfLength 35 = .ok (.ldc 119, 2) := by decide +kernel
theorem dX1_lastOfLength_37 : decode cX1_lastOfLength 37 = .ok (.ireturn, 1) := by decide +kernel
theorem dX1_lastOfLength_38 : decode cX1_lastOfLength 38 = .ok (.ldc 22, 2) := by decide +kernel
theorem dX1_lastOfLength_40 : decode cX1_lastOfLength 40 = .ok (.ireturn, 1) := by decide +kernel
set_option maxRecDepth 20000 in
theorem ggX1_byteOf_X1_leadMark : GoodIn wsX1_byteOf wsX1_leadMark := goodIn_r _ [4, 5] (by decide +kernel) (by decide +kernel)
set_option maxRecDepth 20000 in
theorem gX1_byteOf_X1_leadMark : GoodIn wsX1_byteOf (va_wsS RX1 120 yX1_leadMark wsX1_leadMark) := goodIn_app (goodIn_of _ (by decide +kernel)) ggX1_byteOf_X1_leadMark
theorem dX1_byteOf_0 : decode cX1_byteOf 0 = .ok (.iload_n 0, 1) := by decide +kernel
theorem dX1_byteOf_1 : decode cX1_byteOf 1 = .ok (.bipush 6, 2) := by decide +kernel
theorem dX1_byteOf_3 : decode cX1_byteOf 3 = .ok (.iload_n 1, 1) := by decide +kernel
theorem dX1_byteOf_4 : decode cX1_byteOf 4 = .ok (.iload_n 2, 1) := by decide +kernel
theorem dX1_byteOf_5 : decode cX1_byteOf 5 = .ok (.isub, 1) := by decide +kernel
theorem dX1_byteOf_6 : decode cX1_byteOf 6 = .ok (.imul, 1) := by decide +kernel
theorem dX1_byteOf_7 : decode cX1_byteOf 7 = .ok (.ishr, 1) := by decide +kernel
theorem dX1_byteOf_8 : decode cX1_byteOf 8 = .ok (.istore_n 3, 1) := by decide +kernel
theorem dX1_byteOf_9 : decode cX1_byteOf 9 = .ok (.iload_n 2, 1) := by decide +kernel
theorem dX1_byteOf_10 : decode cX1_byteOf 10 = .ok (.iconst 1, 1) := by decide +kernel
theorem dX1_byteOf_11 : decode cX1_byteOf 11 = .ok (.if_icmp .le 12, 3) := by decide +kernel
theorem dX1_byteOf_14 : decode cX1_byteOf 14 = .ok (.sipush 128, 3) := by decide +kernel
theorem dX1_byteOf_17 : decode cX1_byteOf 17 = .ok (.iload_n 3, 1) := by decide +kernel
theorem dX1_byteOf_18 : decode cX1_byteOf 18 = .ok (.bipush 63, 2) := by decide +kernel
theorem dX1_byteOf_20 : decode cX1_byteOf 20 = .ok (.iand, 1) := by decide +kernel
theorem dX1_byteOf_21 : decode cX1_byteOf 21 = .ok (.ior, 1) := by decide +kernel
theorem dX1_byteOf_22 : decode cX1_byteOf 22 = .ok (.ireturn, 1) := by decide +kernel
theorem dX1_byteOf_23 : decode cX1_byteOf 23 = .ok (.iload_n 1, 1) := by decide +kernel
theorem dX1_byteOf_24 : decode cX1_byteOf 24 = .ok (.iconst 1, 1) := by decide +kernel
theorem dX1_byteOf_25 : decode cX1_byteOf 25 = .ok (.if_icmp .ne 7, 3) := by decide +kernel
theorem dX1_byteOf_28 : decode cX1_byteOf 28 = .ok (.iload_n 3, 1) := by decide +kernel
theorem dX1_byteOf_29 : decode cX1_byteOf 29 = .ok (.goto 9, 3) := by decide +kernel
theorem dX1_byteOf_32 : decode cX1_byteOf 32 = .ok (.iload_n 1, 1) := by decide +kernel
theorem dX1_byteOf_33 : decode cX1_byteOf 33 = .ok (.invokestatic 120, 3) := by decide +kernel
theorem dX1_byteOf_36 : decode cX1_byteOf 36 = .ok (.iload_n 3, 1) := by decide +kernel
theorem dX1_byteOf_37 : decode cX1_byteOf 37 = .ok (.ior, 1) := by decide +kernel
theorem dX1_byteOf_38 : decode cX1_byteOf 38 = .ok (.ireturn, 1) := by decide +kernel
theorem dX1_leadMark_0 : decode cX1_leadMark 0 = .ok (.ldc 123, 2) := by decide +kernel
theorem dX1_leadMark_2 : decode cX1_leadMark 2 = .ok (.iload_n 0, 1) := by decide +kernel
theorem dX1_leadMark_3 : decode cX1_leadMark 3 = .ok (.ishr, 1) := by decide +kernel
theorem dX1_leadMark_4 : decode cX1_leadMark 4 = .ok (.sipush 255, 3) := by decide +kernel
theorem dX1_leadMark_7 : decode cX1_leadMark 7 = .ok (.iand, 1) := by decide +kernel
theorem dX1_leadMark_8 : decode cX1_leadMark 8 = .ok (.ireturn, 1) := by decide +kernel
theorem dX1_byteAt_0 : decode cX1_byteAt 0 = .ok (.iload_n 0, 1) := by decide +kernel
theorem dX1_byteAt_1 : decode cX1_byteAt 1 = .ok (.bipush 32, 2) := by decide +kernel
theorem dX1_byteAt_3 : decode cX1_byteAt 3 = .ok (.bipush 8, 2) := by decide +kernel
theorem dX1_byteAt_5 : decode cX1_byteAt 5 = .ok (.iload_n 1, 1) := by decide +kernel
theorem dX1_byteAt_6 : decode cX1_byteAt 6 = .ok (.imul, 1) := by decide +kernel
theorem dX1_byteAt_7 : decode cX1_byteAt 7 = .ok (.isub, 1) := by decide +kernel
theorem dX1_byteAt_8 : decode cX1_byteAt 8 = .ok (.iushr, 1) := by decide +kernel
theorem dX1_byteAt_9 : decode cX1_byteAt 9 = .ok (.sipush 255, 3) := by decide +kernel
theorem dX1_byteAt_12 : decode cX1_byteAt 12 = .ok (.iand, 1) := by decide +kernel
theorem dX1_byteAt_13 : decode cX1_byteAt 13 = .ok (.ireturn, 1) := by decide +kernel
set_option maxRecDepth 20000 in
theorem ggX1_decode_X1_byteAt : GoodIn wsX1_decode wsX1_byteAt := goodIn_r _ [4] (by decide +kernel) (by decide +kernel)
set_option maxRecDepth 20000 in
theorem gX1_decode_X1_byteAt : GoodIn wsX1_decode (va_wsS RX1 124 yX1_byteAt wsX1_byteAt) := goodIn_app (goodIn_of _ (by decide +kernel)) ggX1_decode_X1_byteAt
theorem dX1_decode_0 : decode cX1_decode 0 = .ok (.iload_n 0, 1) := by decide +kernel
theorem dX1_decode_1 : decode cX1_decode 1 = .ok (.iconst 1, 1) := by decide +kernel
theorem dX1_decode_2 : decode cX1_decode 2 = .ok (.invokestatic 124, 3) := by decide +kernel
theorem dX1_decode_5 : decode cX1_decode 5 = .ok (.istore_n 2, 1) := by decide +kernel
theorem dX1_decode_6 : decode cX1_decode 6 = .ok (.iload_n 1, 1) := by decide +kernel
theorem dX1_decode_7 : decode cX1_decode 7 = .ok (.iconst 1, 1) := by decide +kernel
theorem dX1_decode_8 : decode cX1_decode 8 = .ok (.if_icmp .le 13, 3) := by decide +kernel
theorem dX1_decode_11 : decode cX1_decode 11 = .ok (.iload_n 2, 1) := by decide +kernel
theorem dX1_decode_12 : decode cX1_decode 12 = .ok (.sipush 255, 3) := by decide +kernel
theorem dX1_decode_15 : decode cX1_decode 15 = .ok (.iload_n 1, 1) := by decide +kernel
theorem dX1_decode_16 : decode cX1_decode 16 = .ok (.iconst 1, 1) := by decide +kernel
theorem dX1_decode_17 : decode cX1_decode 17 = .ok (.iadd, 1) := by decide +kernel
theorem dX1_decode_18 : decode cX1_decode 18 = .ok (.ishr, 1) := by decide +kernel
theorem dX1_decode_19 : decode cX1_decode 19 = .ok (.iand, 1) := by decide +kernel
theorem dX1_decode_20 : decode cX1_decode 20 = .ok (.istore_n 2, 1) := by decide +kernel
theorem dX1_decode_21 : decode cX1_decode 21 = .ok (.iconst 2, 1) := by decide +kernel
theorem dX1_decode_22 : decode cX1_decode 22 = .ok (.istore_n 3, 1) := by decide +kernel
theorem dX1_decode_23 : decode cX1_decode 23 = .ok (.iload_n 3, 1) := by decide +kernel
theorem dX1_decode_24 : decode cX1_decode 24 = .ok (.iload_n 1, 1) := by decide +kernel
theorem dX1_decode_25 : decode cX1_decode 25 = .ok (.if_icmp .gt 23, 3) := by decide +kernel
theorem dX1_decode_28 : decode cX1_decode 28 = .ok (.iload_n 2, 1) := by decide +kernel
theorem dX1_decode_29 : decode cX1_decode 29 = .ok (.bipush 6, 2) := by decide +kernel
theorem dX1_decode_31 : decode cX1_decode 31 = .ok (.ishl, 1) := by decide +kernel
theorem dX1_decode_32 : decode cX1_decode 32 = .ok (.iload_n 0, 1) := by decide +kernel
theorem dX1_decode_33 : decode cX1_decode 33 = .ok (.iload_n 3, 1) := by decide +kernel
theorem dX1_decode_34 : decode cX1_decode 34 = .ok (.invokestatic 124, 3) := by decide +kernel
theorem dX1_decode_37 : decode cX1_decode 37 = .ok (.bipush 63, 2) := by decide +kernel
theorem dX1_decode_39 : decode cX1_decode 39 = .ok (.iand, 1) := by decide +kernel
theorem dX1_decode_40 : decode cX1_decode 40 = .ok (.ior, 1) := by decide +kernel
theorem dX1_decode_41 : decode cX1_decode 41 = .ok (.istore_n 2, 1) := by decide +kernel
theorem dX1_decode_42 : decode cX1_decode 42 = .ok (.iinc 3 1, 3) := by decide +kernel
theorem dX1_decode_45 : decode cX1_decode 45 = .ok (.goto (-22), 3) := by decide +kernel
theorem dX1_decode_48 : decode cX1_decode 48 = .ok (.iload_n 2, 1) := by decide +kernel
theorem dX1_decode_49 : decode cX1_decode 49 = .ok (.ireturn, 1) := by decide +kernel
set_option maxRecDepth 20000 in
theorem ggX1_startsWithBytesOf_X1_byteOf : GoodIn wsX1_startsWithBytesOf wsX1_byteOf := goodIn_r _ [4, 5, 6, 3, 7, 8] (by decide +kernel) (by decide +kernel)
set_option maxRecDepth 20000 in
theorem gX1_startsWithBytesOf_X1_byteOf : GoodIn wsX1_startsWithBytesOf (va_wsS RX1 77 yX1_byteOf wsX1_byteOf) := goodIn_app (goodIn_of _ (by decide +kernel)) ggX1_startsWithBytesOf_X1_byteOf
set_option maxRecDepth 20000 in
theorem ggX1_startsWithBytesOf_X1_byteAt : GoodIn wsX1_startsWithBytesOf wsX1_byteAt := goodIn_r _ [11] (by decide +kernel) (by decide +kernel)
set_option maxRecDepth 20000 in
theorem gX1_startsWithBytesOf_X1_byteAt : GoodIn wsX1_startsWithBytesOf (va_wsS RX1 124 yX1_byteAt wsX1_byteAt) := goodIn_app (goodIn_of _ (by decide +kernel)) ggX1_startsWithBytesOf_X1_byteAt
theorem dX1_startsWithBytesOf_0 : decode cX1_startsWithBytesOf 0 = .ok (.iconst 1, 1) := by decide +kernel
theorem dX1_startsWithBytesOf_1 : decode cX1_startsWithBytesOf 1 = .ok (.istore_n 3, 1) := by decide +kernel
theorem dX1_startsWithBytesOf_2 : decode cX1_startsWithBytesOf 2 = .ok (.iload_n 3, 1) := by decide +kernel
theorem dX1_startsWithBytesOf_3 : decode cX1_startsWithBytesOf 3 = .ok (.iload_n 2, 1) := by decide +kernel
theorem dX1_startsWithBytesOf_4 : decode cX1_startsWithBytesOf 4 = .ok (.if_icmp .gt 25, 3) := by decide +kernel
theorem dX1_startsWithBytesOf_7 : decode cX1_startsWithBytesOf 7 = .ok (.iload_n 0, 1) := by decide +kernel
theorem dX1_startsWithBytesOf_8 : decode cX1_startsWithBytesOf 8 = .ok (.iload_n 2, 1) := by decide +kernel
theorem dX1_startsWithBytesOf_9 : decode cX1_startsWithBytesOf 9 = .ok (.iload_n 3, 1) := by decide +kernel
theorem dX1_startsWithBytesOf_10 : decode cX1_startsWithBytesOf 10 = .ok (.invokestatic 77, 3) := by decide +kernel
theorem dX1_startsWithBytesOf_13 : decode cX1_startsWithBytesOf 13 = .ok (.iload_n 1, 1) := by decide +kernel
theorem dX1_startsWithBytesOf_14 : decode cX1_startsWithBytesOf 14 = .ok (.iload_n 3, 1) := by decide +kernel
theorem dX1_startsWithBytesOf_15 : decode cX1_startsWithBytesOf 15 = .ok (.invokestatic 124, 3) := by decide +kernel
theorem dX1_startsWithBytesOf_18 : decode cX1_startsWithBytesOf 18 = .ok (.if_icmp .eq 5, 3) := by decide +kernel
theorem dX1_startsWithBytesOf_21 : decode cX1_startsWithBytesOf 21 = .ok (.iconst 0, 1) := by decide +kernel
theorem dX1_startsWithBytesOf_22 : decode cX1_startsWithBytesOf 22 = .ok (.ireturn, 1) := by decide +kernel
theorem dX1_startsWithBytesOf_23 : decode cX1_startsWithBytesOf 23 = .ok (.iinc 3 1, 3) := by decide +kernel
theorem dX1_startsWithBytesOf_26 : decode cX1_startsWithBytesOf 26 = .ok (.goto (-24), 3) := by decide +kernel
theorem dX1_startsWithBytesOf_29 : decode cX1_startsWithBytesOf 29 = .ok (.iconst 1, 1) := by decide +kernel
theorem dX1_startsWithBytesOf_30 : decode cX1_startsWithBytesOf 30 = .ok (.ireturn, 1) := by decide +kernel
theorem dJ9_max_7cf53_0 : decode cJ9_max_7cf53 0 = .ok (.iload_n 0, 1) := by decide +kernel
theorem dJ9_max_7cf53_1 : decode cJ9_max_7cf53 1 = .ok (.iload_n 1, 1) := by decide +kernel
theorem dJ9_max_7cf53_2 : decode cJ9_max_7cf53 2 = .ok (.if_icmp .lt 7, 3) := by decide +kernel
theorem dJ9_max_7cf53_5 : decode cJ9_max_7cf53 5 = .ok (.iload_n 0, 1) := by decide +kernel
theorem dJ9_max_7cf53_6 : decode cJ9_max_7cf53 6 = .ok (.goto 4, 3) := by decide +kernel
theorem dJ9_max_7cf53_9 : decode cJ9_max_7cf53 9 = .ok (.iload_n 1, 1) := by decide +kernel
theorem dJ9_max_7cf53_10 : decode cJ9_max_7cf53 10 = .ok (.ireturn, 1) := by decide +kernel
theorem dJ9_min_7cf53_0 : decode cJ9_min_7cf53 0 = .ok (.iload_n 0, 1) := by decide +kernel
theorem dJ9_min_7cf53_1 : decode cJ9_min_7cf53 1 = .ok (.iload_n 1, 1) := by decide +kernel
theorem dJ9_min_7cf53_2 : decode cJ9_min_7cf53 2 = .ok (.if_icmp .gt 7, 3) := by decide +kernel
theorem dJ9_min_7cf53_5 : decode cJ9_min_7cf53 5 = .ok (.iload_n 0, 1) := by decide +kernel
theorem dJ9_min_7cf53_6 : decode cJ9_min_7cf53 6 = .ok (.goto 4, 3) := by decide +kernel
theorem dJ9_min_7cf53_9 : decode cJ9_min_7cf53 9 = .ok (.iload_n 1, 1) := by decide +kernel
theorem dJ9_min_7cf53_10 : decode cJ9_min_7cf53 10 = .ok (.ireturn, 1) := by decide +kernel
set_option maxRecDepth 20000 in
theorem ggL_add_X1_add : GoodIn wsL_add wsX1_add := goodIn_ca (goodIn_r _ [6, 7, 8, 9, 10, 11, 12, 5, 13, 14, 15, 16, 17, 18, 19, 20, 21, 22, 23, 24, 25, 26, 27, 28, 29, 30, 31, 32, 33, 34, 35, 36, 37, 38, 39, 40, 41, 42, 43, 44, 45, 46, 47, 48, 49, 50, 51, 52, 53, 54, 55, 56, 57] (by decide +kernel) (by decide +kernel)) (goodIn_sub (fun _ h => List.mem_cons_of_mem _ (List.mem_append_right _ h)) (by decide +kernel))
set_option maxRecDepth 20000 in
theorem gL_add_X1_add : GoodIn wsL_add (wsV RL 7 RX1 yX1_add wsX1_add) := goodIn_app (goodIn_of _ (by decide +kernel)) ggL_add_X1_add
theorem dL_add_0 : decode cL_add 0 = .ok (.aload_n 3, 1) := by decide +kernel
theorem dL_add_1 : decode cL_add 1 = .ok (.iconst 0, 1) := by decide +kernel
theorem dL_add_2 : decode cL_add 2 = .ok (.aload_n 0, 1) := by decide +kernel
theorem dL_add_3 : decode cL_add 3 = .ok (.iload_n 1, 1) := by decide +kernel
theorem dL_add_4 : decode cL_add 4 = .ok (.iload_n 2, 1) := by decide +kernel
theorem dL_add_5 : decode cL_add 5 = .ok (.invokevirtual 7, 3) := by decide +kernel
theorem dL_add_8 : decode cL_add 8 = .ok (.i2l, 1) := by decide +kernel
theorem dL_add_9 : decode cL_add 9 = .ok (.lastore, 1) := by decide +kernel
theorem dL_add_10 : decode cL_add 10 = .ok (.goto 7, 3) := by decide +kernel
theorem dL_add_13 : decode cL_add 13 = .ok (.astore 4, 2) := by decide +kernel
theorem dL_add_15 : decode cL_add 15 = .ok (.iconst 1, 1) := by decide +kernel
theorem dL_add_16 : decode cL_add 16 = .ok (.ireturn, 1) := by decide +kernel
theorem dL_add_17 : decode cL_add 17 = .ok (.iconst 0, 1) := by decide +kernel
theorem dL_add_18 : decode cL_add 18 = .ok (.ireturn, 1) := by decide +kernel
set_option maxRecDepth 20000 in
theorem ggL_law_X1_init : GoodIn wsL_law wsX1_init := goodIn_r _ [5, 6, 7, 8, 9, 10, 11, 12, 13, 14, 15, 16, 17, 18, 19, 20, 21, 180, 181, 182, 177, 178, 179] (by decide +kernel) (by decide +kernel)
set_option maxRecDepth 20000 in
theorem gL_law_X1_init : GoodIn wsL_law (wsX1_init) := ggL_law_X1_init
set_option maxRecDepth 20000 in
theorem ggL_law_L_add : GoodIn wsL_law wsL_add := goodIn_ca (goodIn_r _ [25, 26, 27, 28, 29, 2, 30, 31, 32, 33, 12, 34, 35, 36, 37, 38, 39, 40, 41, 42, 43, 44, 45, 46, 11, 47, 48, 21, 19, 49, 50, 51, 52, 20, 53, 54, 55, 56, 57, 58, 59, 60, 61, 62, 63, 64, 65, 66, 67, 68, 69, 70, 177, 178, 179, 180, 181, 182] (by decide +kernel) (by decide +kernel)) (goodIn_sub (fun _ h => List.mem_append_right _ h) (by decide +kernel))
set_option maxRecDepth 20000 in
theorem gL_law_L_add : GoodIn wsL_law (va_wsS RL 19 yL_add wsL_add) := goodIn_app (goodIn_of _ (by decide +kernel)) ggL_law_L_add
set_option maxRecDepth 20000 in
theorem ggL_law_X1_clear : GoodIn wsL_law wsX1_clear := goodIn_r _ [74, 12, 75, 11, 76, 77, 21, 177, 178, 179, 180, 181, 182] (by decide +kernel) (by decide +kernel)
set_option maxRecDepth 20000 in
theorem gL_law_X1_clear : GoodIn wsL_law (wsV RL 29 RX1 yX1_clear wsX1_clear) := goodIn_app (goodIn_of _ (by decide +kernel)) ggL_law_X1_clear
set_option maxRecDepth 20000 in
theorem ggL_law_X1_fold : GoodIn wsL_law wsX1_fold := goodIn_r _ [81, 12, 82, 83, 84, 2, 85, 86, 87, 88, 89, 90, 91, 11, 92, 93, 21, 19, 49, 50, 51, 52, 20, 46, 47, 48, 53, 54, 55, 56, 57, 58, 59, 60, 61, 62, 63, 64, 65, 66, 67, 68, 69, 39, 40, 41, 70, 44, 45, 94, 95, 96, 97, 98, 177, 178, 179, 180, 181, 182] (by decide +kernel) (by decide +kernel)
set_option maxRecDepth 20000 in
theorem gL_law_X1_fold : GoodIn wsL_law (wsV RL 33 RX1 yX1_fold wsX1_fold) := goodIn_app (goodIn_of _ (by decide +kernel)) ggL_law_X1_fold
set_option maxRecDepth 20000 in
theorem ggL_law_X1_turn : GoodIn wsL_law wsX1_turn := goodIn_r _ [102, 12, 13, 33, 75, 11, 76, 77, 21, 34, 35, 2, 36, 37, 38, 39, 40, 41, 42, 43, 44, 45, 46, 47, 48, 19, 49, 50, 51, 52, 20, 53, 54, 55, 56, 57, 58, 59, 60, 61, 62, 63, 64, 65, 66, 67, 68, 69, 70, 177, 178, 179, 180, 181, 182] (by decide +kernel) (by decide +kernel)
set_option maxRecDepth 20000 in
theorem gL_law_X1_turn : GoodIn wsL_law (wsV RL 37 RX1 yX1_turn wsX1_turn) := goodIn_app (goodIn_of _ (by decide +kernel)) ggL_law_X1_turn
set_option maxRecDepth 20000 in
theorem ggL_law_X1_keep : GoodIn wsL_law wsX1_keep := goodIn_r _ [106, 14, 12, 107, 11, 108, 109, 19, 21, 61, 62, 63, 64, 20, 177, 178, 179, 180, 181, 182] (by decide +kernel) (by decide +kernel)
set_option maxRecDepth 20000 in
theorem gL_law_X1_keep : GoodIn wsL_law (wsV RL 41 RX1 yX1_keep wsX1_keep) := goodIn_app (goodIn_of _ (by decide +kernel)) ggL_law_X1_keep
set_option maxRecDepth 20000 in
theorem ggL_law_X1_join : GoodIn wsL_law wsX1_join := goodIn_r _ [113, 14, 12, 46, 11, 47, 48, 21, 19, 49, 50, 51, 52, 20, 53, 54, 55, 56, 57, 58, 59, 60, 61, 62, 63, 64, 65, 66, 67, 68, 69, 39, 40, 41, 70, 44, 45, 177, 178, 179, 180, 181, 182] (by decide +kernel) (by decide +kernel)
set_option maxRecDepth 20000 in
theorem gL_law_X1_join : GoodIn wsL_law (wsV RL 45 RX1 yX1_join wsX1_join) := goodIn_app (goodIn_of _ (by decide +kernel)) ggL_law_X1_join
set_option maxRecDepth 20000 in
theorem ggL_law_X1_has : GoodIn wsL_law wsX1_has := goodIn_r _ [117, 12, 91, 11, 92, 93, 21, 19, 49, 50, 51, 52, 20, 177, 178, 179, 180, 181, 182] (by decide +kernel) (by decide +kernel)
set_option maxRecDepth 20000 in
theorem gL_law_X1_has : GoodIn wsL_law (wsV RL 49 RX1 yX1_has wsX1_has) := goodIn_app (goodIn_of _ (by decide +kernel)) ggL_law_X1_has
set_option maxRecDepth 20000 in
theorem ggL_law_X1_ranges : GoodIn wsL_law wsX1_ranges := goodIn_r _ [121, 12, 177, 178, 179, 180, 181, 182] (by decide +kernel) (by decide +kernel)
set_option maxRecDepth 20000 in
theorem gL_law_X1_ranges : GoodIn wsL_law (wsV RL 54 RX1 yX1_ranges wsX1_ranges) := goodIn_app (goodIn_of _ (by decide +kernel)) ggL_law_X1_ranges
set_option maxRecDepth 20000 in
theorem ggL_law_X1_range : GoodIn wsL_law wsX1_range := goodIn_r _ [125, 12, 177, 178, 179, 180, 181, 182] (by decide +kernel) (by decide +kernel)
set_option maxRecDepth 20000 in
theorem gL_law_X1_range : GoodIn wsL_law (wsV RL 58 RX1 yX1_range wsX1_range) := goodIn_app (goodIn_of _ (by decide +kernel)) ggL_law_X1_range
set_option maxRecDepth 20000 in
theorem ggL_law_X1_rows : GoodIn wsL_law wsX1_rows := goodIn_r _ [129, 12, 130, 131, 2, 132, 133, 134, 135, 38, 39, 40, 41, 136, 137, 138, 139, 140, 141, 142, 33, 177, 178, 179, 180, 181, 182] (by decide +kernel) (by decide +kernel)
set_option maxRecDepth 20000 in
theorem gL_law_X1_rows : GoodIn wsL_law (wsV RL 62 RX1 yX1_rows wsX1_rows) := goodIn_app (goodIn_of _ (by decide +kernel)) ggL_law_X1_rows
set_option maxRecDepth 20000 in
theorem ggL_law_X1_row : GoodIn wsL_law wsX1_row := goodIn_r _ [146, 12, 147, 148, 149, 2, 150, 130, 131, 132, 133, 134, 135, 38, 39, 40, 41, 136, 137, 138, 139, 140, 141, 142, 33, 151, 152, 153, 154, 155, 156, 157, 158, 159, 160, 161, 11, 162, 163, 21, 19, 20, 49, 50, 51, 52, 177, 178, 179, 180, 181, 182] (by decide +kernel) (by decide +kernel)
set_option maxRecDepth 20000 in
theorem gL_law_X1_row : GoodIn wsL_law (wsV RL 66 RX1 yX1_row wsX1_row) := goodIn_app (goodIn_of _ (by decide +kernel)) ggL_law_X1_row
set_option maxRecDepth 20000 in
theorem ggL_law_X1_takes : GoodIn wsL_law wsX1_takes := goodIn_r _ [167, 12, 168, 169, 2, 170, 171, 172, 173, 91, 11, 92, 93, 21, 19, 49, 50, 51, 52, 20, 136, 137, 138, 139, 140, 141, 142, 33, 174, 175, 176, 154, 155, 156, 157, 158, 159, 160, 177, 178, 179, 180, 181, 182] (by decide +kernel) (by decide +kernel)
set_option maxRecDepth 20000 in
theorem gL_law_X1_takes : GoodIn wsL_law (wsV RL 71 RX1 yX1_takes wsX1_takes) := goodIn_app (goodIn_of _ (by decide +kernel)) ggL_law_X1_takes
theorem dL_law_0 : decode cL_law 0 = .ok (.new 8, 3) := by decide +kernel
theorem dL_law_3 : decode cL_law 3 = .ok (.dup, 1) := by decide +kernel
theorem dL_law_4 : decode cL_law 4 = .ok (.invokespecial 15, 3) := by decide +kernel
theorem dL_law_7 : decode cL_law 7 = .ok (.astore_n 1, 1) := by decide +kernel
theorem dL_law_8 : decode cL_law 8 = .ok (.new 16, 3) := by decide +kernel
theorem dL_law_11 : decode cL_law 11 = .ok (.dup, 1) := by decide +kernel
theorem dL_law_12 : decode cL_law 12 = .ok (.invokespecial 18, 3) := by decide +kernel
theorem dL_law_15 : decode cL_law 15 = .ok (.astore_n 2, 1) := by decide +kernel
theorem dL_law_16 : decode cL_law 16 = .ok (.iconst 1, 1) := by decide +kernel
theorem dL_law_17 : decode cL_law 17 = .ok (.newarray .long, 2) := by decide +kernel
theorem dL_law_19 : decode cL_law 19 = .ok (.astore_n 3, 1) := by decide +kernel
theorem dL_law_20 : decode cL_law 20 = .ok (.iconst 0, 1) := by decide +kernel
theorem dL_law_21 : decode cL_law 21 = .ok (.istore 4, 2) := by decide +kernel
theorem dL_law_23 : decode cL_law 23 = .ok (.iload 4, 2) := by decide +kernel
theorem dL_law_25 : decode cL_law 25 = .ok (.aload_n 0, 1) := by decide +kernel
theorem dL_law_26 : decode cL_law 26 = .ok (.arraylength, 1) := by decide +kernel
theorem dL_law_27 : decode cL_law 27 = .ok (.iconst 4, 1) := by decide +kernel
theorem dL_law_28 : decode cL_law 28 = .ok (.isub, 1) := by decide +kernel
theorem dL_law_29 : decode cL_law 29 = .ok (.if_icmp .gt 380, 3) := by decide +kernel
theorem dL_law_32 : decode cL_law 32 = .ok (.aload_n 0, 1) := by decide +kernel
theorem dL_law_33 : decode cL_law 33 = .ok (.iload 4, 2) := by decide +kernel
theorem dL_law_35 : decode cL_law 35 = .ok (.iaload, 1) := by decide +kernel
theorem dL_law_36 : decode cL_law 36 = .ok (.bipush 15, 2) := by decide +kernel
theorem dL_law_38 : decode cL_law 38 = .ok (.iand, 1) := by decide +kernel
theorem dL_law_39 : decode cL_law 39 = .ok (.tableswitch 364 0 11 #[61, 129, 140, 153, 166, 177, 190, 215, 228, 265, 278, 327], 61) := by decide +kernel
theorem dL_law_100 : decode cL_law 100 = .ok (.aload_n 1, 1) := by decide +kernel
theorem dL_law_101 : decode cL_law 101 = .ok (.aload_n 0, 1) := by decide +kernel
theorem dL_law_102 : decode cL_law 102 = .ok (.iload 4, 2) := by decide +kernel
theorem dL_law_104 : decode cL_law 104 = .ok (.iconst 1, 1) := by decide +kernel
theorem dL_law_105 : decode cL_law 105 = .ok (.iadd, 1) := by decide +kernel
theorem dL_law_106 : decode cL_law 106 = .ok (.iaload, 1) := by decide +kernel
theorem dL_law_107 : decode cL_law 107 = .ok (.aload_n 0, 1) := by decide +kernel
theorem dL_law_108 : decode cL_law 108 = .ok (.iload 4, 2) := by decide +kernel
theorem dL_law_110 : decode cL_law 110 = .ok (.iconst 2, 1) := by decide +kernel
theorem dL_law_111 : decode cL_law 111 = .ok (.iadd, 1) := by decide +kernel
theorem dL_law_112 : decode cL_law 112 = .ok (.iaload, 1) := by decide +kernel
theorem dL_law_113 : decode cL_law 113 = .ok (.aload_n 3, 1) := by decide +kernel
theorem dL_law_114 : decode cL_law 114 = .ok (.invokestatic 19, 3) := by decide +kernel
theorem dL_law_117 : decode cL_law 117 = .ok (.istore 5, 2) := by decide +kernel
theorem dL_law_119 : decode cL_law 119 = .ok (.aload_n 2, 1) := by decide +kernel
theorem dL_law_120 : decode cL_law 120 = .ok (.aload_n 0, 1) := by decide +kernel
theorem dL_law_121 : decode cL_law 121 = .ok (.iload 4, 2) := by decide +kernel
theorem dL_law_123 : decode cL_law 123 = .ok (.iconst 1, 1) := by decide +kernel
theorem dL_law_124 : decode cL_law 124 = .ok (.iadd, 1) := by decide +kernel
theorem dL_law_125 : decode cL_law 125 = .ok (.iaload, 1) := by decide +kernel
theorem dL_law_126 : decode cL_law 126 = .ok (.aload_n 0, 1) := by decide +kernel
theorem dL_law_127 : decode cL_law 127 = .ok (.iload 4, 2) := by decide +kernel
theorem dL_law_129 : decode cL_law 129 = .ok (.iconst 2, 1) := by decide +kernel
theorem dL_law_130 : decode cL_law 130 = .ok (.iadd, 1) := by decide +kernel
theorem dL_law_131 : decode cL_law 131 = .ok (.iaload, 1) := by decide +kernel
theorem dL_law_132 : decode cL_law 132 = .ok (.invokevirtual 24, 3) := by decide +kernel
theorem dL_law_135 : decode cL_law 135 = .ok (.istore 6, 2) := by decide +kernel
theorem dL_law_137 : decode cL_law 137 = .ok (.aload_n 2, 1) := by decide +kernel
theorem dL_law_138 : decode cL_law 138 = .ok (.invokevirtual 25, 3) := by decide +kernel
theorem dL_law_141 : decode cL_law 141 = .ok (.iload 5, 2) := by decide +kernel
theorem dL_law_143 : decode cL_law 143 = .ok (.if_icmp .eq 5, 3) := by decide +kernel
theorem dL_law_146 : decode cL_law 146 = .ok (.iconst 0, 1) := by decide +kernel
theorem dL_law_147 : decode cL_law 147 = .ok (.ireturn, 1) := by decide +kernel
theorem dL_law_148 : decode cL_law 148 = .ok (.iload 5, 2) := by decide +kernel
theorem dL_law_150 : decode cL_law 150 = .ok (.ifCond .ne 15, 3) := by decide +kernel
theorem dL_law_153 : decode cL_law 153 = .ok (.aload_n 3, 1) := by decide +kernel
theorem dL_law_154 : decode cL_law 154 = .ok (.iconst 0, 1) := by decide +kernel
theorem dL_law_155 : decode cL_law 155 = .ok (.laload, 1) := by decide +kernel
theorem dL_law_156 : decode cL_law 156 = .ok (.iload 6, 2) := by decide +kernel
theorem dL_law_158 : decode cL_law 158 = .ok (.i2l, 1) := by decide +kernel
theorem dL_law_159 : decode cL_law 159 = .ok (.lcmp, 1) := by decide +kernel
theorem dL_law_160 : decode cL_law 160 = .ok (.ifCond .eq 5, 3) := by decide +kernel
theorem dL_law_163 : decode cL_law 163 = .ok (.iconst 0, 1) := by decide +kernel
theorem dL_law_164 : decode cL_law 164 = .ok (.ireturn, 1) := by decide +kernel
theorem dL_law_165 : decode cL_law 165 = .ok (.goto 238, 3) := by decide +kernel
theorem dL_law_168 : decode cL_law 168 = .ok (.aload_n 1, 1) := by decide +kernel
theorem dL_law_169 : decode cL_law 169 = .ok (.invokevirtual 29, 3) := by decide +kernel
theorem dL_law_172 : decode cL_law 172 = .ok (.aload_n 2, 1) := by decide +kernel
theorem dL_law_173 : decode cL_law 173 = .ok (.invokevirtual 32, 3) := by decide +kernel
theorem dL_law_176 : decode cL_law 176 = .ok (.goto 227, 3) := by decide +kernel
theorem dL_law_179 : decode cL_law 179 = .ok (.aload_n 1, 1) := by decide +kernel
theorem dL_law_180 : decode cL_law 180 = .ok (.invokevirtual 33, 3) := by decide +kernel
theorem dL_law_183 : decode cL_law 183 = .ok (.aload_n 2, 1) := by decide +kernel
theorem dL_law_184 : decode cL_law 184 = .ok (.invokevirtual 36, 3) := by decide +kernel
theorem dL_law_187 : decode cL_law 187 = .ok (.if_icmp .eq 216, 3) := by decide +kernel
theorem dL_law_190 : decode cL_law 190 = .ok (.iconst 0, 1) := by decide +kernel
theorem dL_law_191 : decode cL_law 191 = .ok (.ireturn, 1) := by decide +kernel
theorem dL_law_192 : decode cL_law 192 = .ok (.aload_n 1, 1) := by decide +kernel
theorem dL_law_193 : decode cL_law 193 = .ok (.invokevirtual 37, 3) := by decide +kernel
theorem dL_law_196 : decode cL_law 196 = .ok (.aload_n 2, 1) := by decide +kernel
theorem dL_law_197 : decode cL_law 197 = .ok (.invokevirtual 40, 3) := by decide +kernel
theorem dL_law_200 : decode cL_law 200 = .ok (.if_icmp .eq 203, 3) := by decide +kernel
theorem dL_law_203 : decode cL_law 203 = .ok (.iconst 0, 1) := by decide +kernel
theorem dL_law_204 : decode cL_law 204 = .ok (.ireturn, 1) := by decide +kernel
theorem dL_law_205 : decode cL_law 205 = .ok (.aload_n 1, 1) := by decide +kernel
theorem dL_law_206 : decode cL_law 206 = .ok (.invokevirtual 41, 3) := by decide +kernel
theorem dL_law_209 : decode cL_law 209 = .ok (.aload_n 2, 1) := by decide +kernel
theorem dL_law_210 : decode cL_law 210 = .ok (.invokevirtual 44, 3) := by decide +kernel
theorem dL_law_213 : decode cL_law 213 = .ok (.goto 190, 3) := by decide +kernel
theorem dL_law_216 : decode cL_law 216 = .ok (.aload_n 1, 1) := by decide +kernel
theorem dL_law_217 : decode cL_law 217 = .ok (.invokevirtual 45, 3) := by decide +kernel
theorem dL_law_220 : decode cL_law 220 = .ok (.aload_n 2, 1) := by decide +kernel
theorem dL_law_221 : decode cL_law 221 = .ok (.invokevirtual 48, 3) := by decide +kernel
theorem dL_law_224 : decode cL_law 224 = .ok (.if_icmp .eq 179, 3) := by decide +kernel
theorem dL_law_227 : decode cL_law 227 = .ok (.iconst 0, 1) := by decide +kernel
theorem dL_law_228 : decode cL_law 228 = .ok (.ireturn, 1) := by decide +kernel
theorem dL_law_229 : decode cL_law 229 = .ok (.aload_n 1, 1) := by decide +kernel
theorem dL_law_230 : decode cL_law 230 = .ok (.aload_n 0, 1) := by decide +kernel
theorem dL_law_231 : decode cL_law 231 = .ok (.iload 4, 2) := by decide +kernel
theorem dL_law_233 : decode cL_law 233 = .ok (.iconst 1, 1) := by decide +kernel
theorem dL_law_234 : decode cL_law 234 = .ok (.iadd, 1) := by decide +kernel
theorem dL_law_235 : decode cL_law 235 = .ok (.iaload, 1) := by decide +kernel
theorem dL_law_236 : decode cL_law 236 = .ok (.invokevirtual 49, 3) := by decide +kernel
theorem dL_law_239 : decode cL_law 239 = .ok (.aload_n 2, 1) := by decide +kernel
theorem dL_law_240 : decode cL_law 240 = .ok (.aload_n 0, 1) := by decide +kernel
theorem dL_law_241 : decode cL_law 241 = .ok (.iload 4, 2) := by decide +kernel
theorem dL_law_243 : decode cL_law 243 = .ok (.iconst 1, 1) := by decide +kernel
theorem dL_law_244 : decode cL_law 244 = .ok (.iadd, 1) := by decide +kernel
theorem dL_law_245 : decode cL_law 245 = .ok (.iaload, 1) := by decide +kernel
theorem dL_law_246 : decode cL_law 246 = .ok (.invokevirtual 53, 3) := by decide +kernel
theorem dL_law_249 : decode cL_law 249 = .ok (.if_icmp .eq 154, 3) := by decide +kernel
theorem dL_law_252 : decode cL_law 252 = .ok (.iconst 0, 1) := by decide +kernel
theorem dL_law_253 : decode cL_law 253 = .ok (.ireturn, 1) := by decide +kernel
theorem dL_law_254 : decode cL_law 254 = .ok (.aload_n 1, 1) := by decide +kernel
theorem dL_law_255 : decode cL_law 255 = .ok (.invokevirtual 54, 3) := by decide +kernel
theorem dL_law_258 : decode cL_law 258 = .ok (.aload_n 2, 1) := by decide +kernel
theorem dL_law_259 : decode cL_law 259 = .ok (.invokevirtual 57, 3) := by decide +kernel
theorem dL_law_262 : decode cL_law 262 = .ok (.if_icmp .eq 141, 3) := by decide +kernel
theorem dL_law_265 : decode cL_law 265 = .ok (.iconst 0, 1) := by decide +kernel
theorem dL_law_266 : decode cL_law 266 = .ok (.ireturn, 1) := by decide +kernel
theorem dL_law_267 : decode cL_law 267 = .ok (.aload_n 1, 1) := by decide +kernel
theorem dL_law_268 : decode cL_law 268 = .ok (.aload_n 0, 1) := by decide +kernel
theorem dL_law_269 : decode cL_law 269 = .ok (.iload 4, 2) := by decide +kernel
theorem dL_law_271 : decode cL_law 271 = .ok (.iconst 1, 1) := by decide +kernel
theorem dL_law_272 : decode cL_law 272 = .ok (.iadd, 1) := by decide +kernel
theorem dL_law_273 : decode cL_law 273 = .ok (.iaload, 1) := by decide +kernel
theorem dL_law_274 : decode cL_law 274 = .ok (.aload_n 0, 1) := by decide +kernel
theorem dL_law_275 : decode cL_law 275 = .ok (.iload 4, 2) := by decide +kernel
theorem dL_law_277 : decode cL_law 277 = .ok (.iconst 2, 1) := by decide +kernel
theorem dL_law_278 : decode cL_law 278 = .ok (.iadd, 1) := by decide +kernel
theorem dL_law_279 : decode cL_law 279 = .ok (.iaload, 1) := by decide +kernel
theorem dL_law_280 : decode cL_law 280 = .ok (.invokevirtual 58, 3) := by decide +kernel
theorem dL_law_283 : decode cL_law 283 = .ok (.aload_n 2, 1) := by decide +kernel
theorem dL_law_284 : decode cL_law 284 = .ok (.aload_n 0, 1) := by decide +kernel
theorem dL_law_285 : decode cL_law 285 = .ok (.iload 4, 2) := by decide +kernel
theorem dL_law_287 : decode cL_law 287 = .ok (.iconst 1, 1) := by decide +kernel
theorem dL_law_288 : decode cL_law 288 = .ok (.iadd, 1) := by decide +kernel
theorem dL_law_289 : decode cL_law 289 = .ok (.iaload, 1) := by decide +kernel
theorem dL_law_290 : decode cL_law 290 = .ok (.aload_n 0, 1) := by decide +kernel
theorem dL_law_291 : decode cL_law 291 = .ok (.iload 4, 2) := by decide +kernel
theorem dL_law_293 : decode cL_law 293 = .ok (.iconst 2, 1) := by decide +kernel
theorem dL_law_294 : decode cL_law 294 = .ok (.iadd, 1) := by decide +kernel
theorem dL_law_295 : decode cL_law 295 = .ok (.iaload, 1) := by decide +kernel
theorem dL_law_296 : decode cL_law 296 = .ok (.invokevirtual 61, 3) := by decide +kernel
theorem dL_law_299 : decode cL_law 299 = .ok (.if_icmp .eq 104, 3) := by decide +kernel
theorem dL_law_302 : decode cL_law 302 = .ok (.iconst 0, 1) := by decide +kernel
theorem dL_law_303 : decode cL_law 303 = .ok (.ireturn, 1) := by decide +kernel
theorem dL_law_304 : decode cL_law 304 = .ok (.aload_n 1, 1) := by decide +kernel
theorem dL_law_305 : decode cL_law 305 = .ok (.invokevirtual 62, 3) := by decide +kernel
theorem dL_law_308 : decode cL_law 308 = .ok (.aload_n 2, 1) := by decide +kernel
theorem dL_law_309 : decode cL_law 309 = .ok (.invokevirtual 65, 3) := by decide +kernel
theorem dL_law_312 : decode cL_law 312 = .ok (.if_icmp .eq 91, 3) := by decide +kernel
theorem dL_law_315 : decode cL_law 315 = .ok (.iconst 0, 1) := by decide +kernel
theorem dL_law_316 : decode cL_law 316 = .ok (.ireturn, 1) := by decide +kernel
theorem dL_law_317 : decode cL_law 317 = .ok (.aload_n 1, 1) := by decide +kernel
theorem dL_law_318 : decode cL_law 318 = .ok (.aload_n 0, 1) := by decide +kernel
theorem dL_law_319 : decode cL_law 319 = .ok (.iload 4, 2) := by decide +kernel
theorem dL_law_321 : decode cL_law 321 = .ok (.iconst 1, 1) := by decide +kernel
theorem dL_law_322 : decode cL_law 322 = .ok (.iadd, 1) := by decide +kernel
theorem dL_law_323 : decode cL_law 323 = .ok (.iaload, 1) := by decide +kernel
theorem dL_law_324 : decode cL_law 324 = .ok (.aload_n 0, 1) := by decide +kernel
theorem dL_law_325 : decode cL_law 325 = .ok (.iload 4, 2) := by decide +kernel
theorem dL_law_327 : decode cL_law 327 = .ok (.iconst 2, 1) := by decide +kernel
theorem dL_law_328 : decode cL_law 328 = .ok (.iadd, 1) := by decide +kernel
theorem dL_law_329 : decode cL_law 329 = .ok (.iaload, 1) := by decide +kernel
theorem dL_law_330 : decode cL_law 330 = .ok (.aload_n 0, 1) := by decide +kernel
theorem dL_law_331 : decode cL_law 331 = .ok (.iload 4, 2) := by decide +kernel
theorem dL_law_333 : decode cL_law 333 = .ok (.iconst 3, 1) := by decide +kernel
theorem dL_law_334 : decode cL_law 334 = .ok (.iadd, 1) := by decide +kernel
theorem dL_law_335 : decode cL_law 335 = .ok (.iaload, 1) := by decide +kernel
theorem dL_law_336 : decode cL_law 336 = .ok (.invokevirtual 66, 3) := by decide +kernel
theorem dL_law_339 : decode cL_law 339 = .ok (.aload_n 2, 1) := by decide +kernel
theorem dL_law_340 : decode cL_law 340 = .ok (.aload_n 0, 1) := by decide +kernel
theorem dL_law_341 : decode cL_law 341 = .ok (.iload 4, 2) := by decide +kernel
theorem dL_law_343 : decode cL_law 343 = .ok (.iconst 1, 1) := by decide +kernel
theorem dL_law_344 : decode cL_law 344 = .ok (.iadd, 1) := by decide +kernel
theorem dL_law_345 : decode cL_law 345 = .ok (.iaload, 1) := by decide +kernel
theorem dL_law_346 : decode cL_law 346 = .ok (.aload_n 0, 1) := by decide +kernel
theorem dL_law_347 : decode cL_law 347 = .ok (.iload 4, 2) := by decide +kernel
theorem dL_law_349 : decode cL_law 349 = .ok (.iconst 2, 1) := by decide +kernel
theorem dL_law_350 : decode cL_law 350 = .ok (.iadd, 1) := by decide +kernel
theorem dL_law_351 : decode cL_law 351 = .ok (.iaload, 1) := by decide +kernel
theorem dL_law_352 : decode cL_law 352 = .ok (.aload_n 0, 1) := by decide +kernel
theorem dL_law_353 : decode cL_law 353 = .ok (.iload 4, 2) := by decide +kernel
theorem dL_law_355 : decode cL_law 355 = .ok (.iconst 3, 1) := by decide +kernel
theorem dL_law_356 : decode cL_law 356 = .ok (.iadd, 1) := by decide +kernel
theorem dL_law_357 : decode cL_law 357 = .ok (.iaload, 1) := by decide +kernel
theorem dL_law_358 : decode cL_law 358 = .ok (.invokevirtual 70, 3) := by decide +kernel
theorem dL_law_361 : decode cL_law 361 = .ok (.if_icmp .eq 42, 3) := by decide +kernel
theorem dL_law_364 : decode cL_law 364 = .ok (.iconst 0, 1) := by decide +kernel
theorem dL_law_365 : decode cL_law 365 = .ok (.ireturn, 1) := by decide +kernel
theorem dL_law_366 : decode cL_law 366 = .ok (.aload_n 1, 1) := by decide +kernel
theorem dL_law_367 : decode cL_law 367 = .ok (.aload_n 0, 1) := by decide +kernel
theorem dL_law_368 : decode cL_law 368 = .ok (.iload 4, 2) := by decide +kernel
theorem dL_law_370 : decode cL_law 370 = .ok (.iconst 1, 1) := by decide +kernel
theorem dL_law_371 : decode cL_law 371 = .ok (.iadd, 1) := by decide +kernel
theorem dL_law_372 : decode cL_law 372 = .ok (.iaload, 1) := by decide +kernel
theorem dL_law_373 : decode cL_law 373 = .ok (.aload_n 0, 1) := by decide +kernel
theorem dL_law_374 : decode cL_law 374 = .ok (.iload 4, 2) := by decide +kernel
theorem dL_law_376 : decode cL_law 376 = .ok (.iconst 2, 1) := by decide +kernel
theorem dL_law_377 : decode cL_law 377 = .ok (.iadd, 1) := by decide +kernel
theorem dL_law_378 : decode cL_law 378 = .ok (.iaload, 1) := by decide +kernel
theorem dL_law_379 : decode cL_law 379 = .ok (.invokevirtual 71, 3) := by decide +kernel
theorem dL_law_382 : decode cL_law 382 = .ok (.aload_n 2, 1) := by decide +kernel
theorem dL_law_383 : decode cL_law 383 = .ok (.aload_n 0, 1) := by decide +kernel
theorem dL_law_384 : decode cL_law 384 = .ok (.iload 4, 2) := by decide +kernel
theorem dL_law_386 : decode cL_law 386 = .ok (.iconst 1, 1) := by decide +kernel
theorem dL_law_387 : decode cL_law 387 = .ok (.iadd, 1) := by decide +kernel
theorem dL_law_388 : decode cL_law 388 = .ok (.iaload, 1) := by decide +kernel
theorem dL_law_389 : decode cL_law 389 = .ok (.aload_n 0, 1) := by decide +kernel
theorem dL_law_390 : decode cL_law 390 = .ok (.iload 4, 2) := by decide +kernel
theorem dL_law_392 : decode cL_law 392 = .ok (.iconst 2, 1) := by decide +kernel
theorem dL_law_393 : decode cL_law 393 = .ok (.iadd, 1) := by decide +kernel
theorem dL_law_394 : decode cL_law 394 = .ok (.iaload, 1) := by decide +kernel
theorem dL_law_395 : decode cL_law 395 = .ok (.invokevirtual 75, 3) := by decide +kernel
theorem dL_law_398 : decode cL_law 398 = .ok (.if_icmp .eq 5, 3) := by decide +kernel
theorem dL_law_401 : decode cL_law 401 = .ok (.iconst 0, 1) := by decide +kernel
theorem dL_law_402 : decode cL_law 402 = .ok (.ireturn, 1) := by decide +kernel
theorem dL_law_403 : decode cL_law 403 = .ok (.iinc 4 4, 3) := by decide +kernel
theorem dL_law_406 : decode cL_law 406 = .ok (.goto (-383), 3) := by decide +kernel
theorem dL_law_409 : decode cL_law 409 = .ok (.iconst 1, 1) := by decide +kernel
theorem dL_law_410 : decode cL_law 410 = .ok (.ireturn, 1) := by decide +kernel
abbrev vwCl : List vw_C := [(RX0, TX0, 3), (RX1, TX1, 3)]
