def RX0 : String := "LazyRangeTree$History"
def TX0 : u_T := fun k => match k with
  | 0 => ("LazyRangeTree$History", "kept", "[LLazyRangeTree$Tree;", true)
  | _ => ("LazyRangeTree$History", "count", "I", false)
def tyX0 : Nat → FieldType := fun k => match k with
  | 0 => .array (.object "LazyRangeTree$Tree")
  | _ => .int
abbrev wsX00 : List Cond := u_ws RX0 TX0 2
theorem nmX0 : ∀ a, a < 2 → ∀ b, b < 2 → a ≠ b → (TX0 a).2.1 ≠ (TX0 b).2.1 := by decide +kernel
theorem tyX0_ok : ∀ k, k < 2 → parseFieldDescriptor (TX0 k).2.2.1 = some (tyX0 k) := by decide +kernel
abbrev cX0_init : ByteArray := prog_2_method_1_code
def yX0_init : MethodName := ⟨RX0, "<init>", "()V"⟩
abbrev cX0_count : ByteArray := prog_2_method_2_code
def yX0_count : MethodName := ⟨RX0, "count", "()I"⟩
abbrev cX0_remember : ByteArray := prog_2_method_4_code
def yX0_remember : MethodName := ⟨RX0, "remember", "(LLazyRangeTree$Tree;)V"⟩
abbrev cX0_takeBack : ByteArray := prog_2_method_5_code
def yX0_takeBack : MethodName := ⟨RX0, "takeBack", "(LLazyRangeTree$Tree;)Z"⟩
abbrev cX0_treeAt : ByteArray := prog_2_method_6_code
def yX0_treeAt : MethodName := ⟨RX0, "treeAt", "(I)LLazyRangeTree$Tree;"⟩
abbrev cX0_dropOldest : ByteArray := prog_2_method_7_code
def yX0_dropOldest : MethodName := ⟨RX0, "dropOldest", "()V"⟩
def RX1 : String := "LazyRangeTree$Report"
def TX1 : u_T := fun k => match k with
  | 0 => ("LazyRangeTree$Report", "bytes", "[B", true)
  | _ => ("LazyRangeTree$Report", "length", "I", false)
def tyX1 : Nat → FieldType := fun k => match k with
  | 0 => .array .byte
  | _ => .int
abbrev wsX10 : List Cond := u_ws RX1 TX1 2
theorem nmX1 : ∀ a, a < 2 → ∀ b, b < 2 → a ≠ b → (TX1 a).2.1 ≠ (TX1 b).2.1 := by decide +kernel
theorem tyX1_ok : ∀ k, k < 2 → parseFieldDescriptor (TX1 k).2.2.1 = some (tyX1 k) := by decide +kernel
abbrev cX1_init : ByteArray := prog_3_method_1_code
def yX1_init : MethodName := ⟨RX1, "<init>", "()V"⟩
def RX2 : String := "LazyRangeTree$Script"
def TX2 : u_T := fun k => match k with
  | 0 => ("LazyRangeTree$Script", "tree", "LLazyRangeTree$Tree;", true)
  | 1 => ("LazyRangeTree$Script", "tokens", "LLazyRangeTree$Tokens;", true)
  | 2 => ("LazyRangeTree$Script", "values", "[I", true)
  | 3 => ("LazyRangeTree$Script", "place", "I", false)
  | 4 => ("LazyRangeTree$Script", "executed", "I", false)
  | 5 => ("LazyRangeTree$Script", "errorKind", "I", false)
  | 6 => ("LazyRangeTree$Script", "errorPlace", "I", false)
  | 7 => ("LazyRangeTree$Script", "open", "I", false)
  | 8 => ("LazyRangeTree$Script", "roundsLeft", "[I", true)
  | 9 => ("LazyRangeTree$Script", "bodies", "[I", true)
  | _ => ("LazyRangeTree$Script", "executedBefore", "[I", true)
def tyX2 : Nat → FieldType := fun k => match k with
  | 0 => .object "LazyRangeTree$Tree"
  | 1 => .object "LazyRangeTree$Tokens"
  | 2 => .array .int
  | 3 => .int
  | 4 => .int
  | 5 => .int
  | 6 => .int
  | 7 => .int
  | 8 => .array .int
  | 9 => .array .int
  | _ => .array .int
abbrev wsX20 : List Cond := u_ws RX2 TX2 11
theorem nmX2 : ∀ a, a < 11 → ∀ b, b < 11 → a ≠ b → (TX2 a).2.1 ≠ (TX2 b).2.1 := by decide +kernel
theorem tyX2_ok : ∀ k, k < 11 → parseFieldDescriptor (TX2 k).2.2.1 = some (tyX2 k) := by decide +kernel
abbrev cX2_init : ByteArray := prog_4_method_1_code
def yX2_init : MethodName := ⟨RX2, "<init>", "()V"⟩
def RX3 : String := "LazyRangeTree$Text"
def TX3 : u_T := fun k => match k with
  | 0 => ("LazyRangeTree$Text", "bytes", "[B", true)
  | _ => ("LazyRangeTree$Text", "length", "I", false)
def tyX3 : Nat → FieldType := fun k => match k with
  | 0 => .array .byte
  | _ => .int
abbrev wsX30 : List Cond := u_ws RX3 TX3 2
theorem nmX3 : ∀ a, a < 2 → ∀ b, b < 2 → a ≠ b → (TX3 a).2.1 ≠ (TX3 b).2.1 := by decide +kernel
theorem tyX3_ok : ∀ k, k < 2 → parseFieldDescriptor (TX3 k).2.2.1 = some (tyX3 k) := by decide +kernel
abbrev cX3_init : ByteArray := prog_5_method_1_code
def yX3_init : MethodName := ⟨RX3, "<init>", "()V"⟩
def RX4 : String := "LazyRangeTree$Tokens"
def TX4 : u_T := fun k => match k with
  | 0 => ("LazyRangeTree$Tokens", "codes", "[I", true)
  | 1 => ("LazyRangeTree$Tokens", "offsets", "[I", true)
  | 2 => ("LazyRangeTree$Tokens", "numbers", "[I", true)
  | _ => ("LazyRangeTree$Tokens", "count", "I", false)
def tyX4 : Nat → FieldType := fun k => match k with
  | 0 => .array .int
  | 1 => .array .int
  | 2 => .array .int
  | _ => .int
abbrev wsX40 : List Cond := u_ws RX4 TX4 4
theorem nmX4 : ∀ a, a < 4 → ∀ b, b < 4 → a ≠ b → (TX4 a).2.1 ≠ (TX4 b).2.1 := by decide +kernel
theorem tyX4_ok : ∀ k, k < 4 → parseFieldDescriptor (TX4 k).2.2.1 = some (tyX4 k) := by decide +kernel
abbrev cX4_init : ByteArray := prog_6_method_1_code
def yX4_init : MethodName := ⟨RX4, "<init>", "()V"⟩
def RX5 : String := "LazyRangeTree$Tree"
def TX5 : u_T := fun k => match k with
  | 0 => ("LazyRangeTree$Tree", "size", "I", false)
  | 1 => ("LazyRangeTree$Tree", "updates", "I", false)
  | 2 => ("LazyRangeTree$Tree", "pushes", "I", false)
  | 3 => ("LazyRangeTree$Tree", "applications", "I", false)
  | 4 => ("LazyRangeTree$Tree", "firsts", "[I", true)
  | 5 => ("LazyRangeTree$Tree", "lasts", "[I", true)
  | 6 => ("LazyRangeTree$Tree", "sums", "[J", true)
  | 7 => ("LazyRangeTree$Tree", "lows", "[I", true)
  | 8 => ("LazyRangeTree$Tree", "highs", "[I", true)
  | 9 => ("LazyRangeTree$Tree", "factors", "[I", true)
  | 10 => ("LazyRangeTree$Tree", "offsets", "[I", true)
  | _ => ("LazyRangeTree$Tree", "values", "[I", true)
def tyX5 : Nat → FieldType := fun k => match k with
  | 0 => .int
  | 1 => .int
  | 2 => .int
  | 3 => .int
  | 4 => .array .int
  | 5 => .array .int
  | 6 => .array .long
  | 7 => .array .int
  | 8 => .array .int
  | 9 => .array .int
  | 10 => .array .int
  | _ => .array .int
abbrev wsX50 : List Cond := u_ws RX5 TX5 12
theorem nmX5 : ∀ a, a < 12 → ∀ b, b < 12 → a ≠ b → (TX5 a).2.1 ≠ (TX5 b).2.1 := by decide +kernel
theorem tyX5_ok : ∀ k, k < 12 → parseFieldDescriptor (TX5 k).2.2.1 = some (tyX5 k) := by decide +kernel
abbrev cX5_init : ByteArray := prog_7_method_1_code
def yX5_init : MethodName := ⟨RX5, "<init>", "()V"⟩
abbrev cX5_size : ByteArray := prog_7_method_2_code
def yX5_size : MethodName := ⟨RX5, "size", "()I"⟩
abbrev cX5_updates : ByteArray := prog_7_method_3_code
def yX5_updates : MethodName := ⟨RX5, "updates", "()I"⟩
abbrev cX5_pushes : ByteArray := prog_7_method_4_code
def yX5_pushes : MethodName := ⟨RX5, "pushes", "()I"⟩
abbrev cX5_applications : ByteArray := prog_7_method_5_code
def yX5_applications : MethodName := ⟨RX5, "applications", "()I"⟩
abbrev cX5_copyFrom : ByteArray := prog_7_method_6_code
def yX5_copyFrom : MethodName := ⟨RX5, "copyFrom", "(LLazyRangeTree$Tree;)V"⟩
abbrev cX5_build : ByteArray := prog_7_method_8_code
def yX5_build : MethodName := ⟨RX5, "build", "([II)V"⟩
abbrev cX5_layOut : ByteArray := prog_7_method_9_code
def yX5_layOut : MethodName := ⟨RX5, "layOut", "()V"⟩
abbrev cX5_plant : ByteArray := prog_7_method_10_code
def yX5_plant : MethodName := ⟨RX5, "plant", "(I)V"⟩
abbrev cX5_gather : ByteArray := prog_7_method_11_code
def yX5_gather : MethodName := ⟨RX5, "gather", "(I)V"⟩
abbrev cX5_extend : ByteArray := prog_7_method_12_code
def yX5_extend : MethodName := ⟨RX5, "extend", "(I)V"⟩
abbrev cX5_shorten : ByteArray := prog_7_method_13_code
def yX5_shorten : MethodName := ⟨RX5, "shorten", "()V"⟩
abbrev cX5_has : ByteArray := prog_7_method_14_code
def yX5_has : MethodName := ⟨RX5, "has", "(I)Z"⟩
abbrev cX5_isInner : ByteArray := prog_7_method_15_code
def yX5_isInner : MethodName := ⟨RX5, "isInner", "(I)Z"⟩
abbrev cX5_lastUnder : ByteArray := prog_7_method_17_code
def yX5_lastUnder : MethodName := ⟨RX5, "lastUnder", "(I)I"⟩
abbrev cX5_sumAt : ByteArray := prog_7_method_18_code
def yX5_sumAt : MethodName := ⟨RX5, "sumAt", "(I)J"⟩
abbrev cX5_factorAt : ByteArray := prog_7_method_21_code
def yX5_factorAt : MethodName := ⟨RX5, "factorAt", "(I)I"⟩
abbrev cX5_offsetAt : ByteArray := prog_7_method_22_code
def yX5_offsetAt : MethodName := ⟨RX5, "offsetAt", "(I)I"⟩
abbrev cX5_isMarked : ByteArray := prog_7_method_23_code
def yX5_isMarked : MethodName := ⟨RX5, "isMarked", "(I)Z"⟩
abbrev cX5_leafAt : ByteArray := prog_7_method_24_code
def yX5_leafAt : MethodName := ⟨RX5, "leafAt", "(I)I"⟩
abbrev cX5_valueAt : ByteArray := prog_7_method_26_code
def yX5_valueAt : MethodName := ⟨RX5, "valueAt", "(I)I"⟩
abbrev cX5_leastOf : ByteArray := prog_7_method_27_code
def yX5_leastOf : MethodName := ⟨RX5, "leastOf", "(II)I"⟩
abbrev cX5_greatestOf : ByteArray := prog_7_method_28_code
def yX5_greatestOf : MethodName := ⟨RX5, "greatestOf", "(II)I"⟩
abbrev cX5_readValues : ByteArray := prog_7_method_29_code
def yX5_readValues : MethodName := ⟨RX5, "readValues", "()V"⟩
abbrev cX5_underMarksAbove : ByteArray := prog_7_method_30_code
def yX5_underMarksAbove : MethodName := ⟨RX5, "underMarksAbove", "(II)I"⟩
abbrev cX5_mark : ByteArray := prog_7_method_31_code
def yX5_mark : MethodName := ⟨RX5, "mark", "(III)V"⟩
abbrev cX5_push : ByteArray := prog_7_method_32_code
def yX5_push : MethodName := ⟨RX5, "push", "(I)Z"⟩
abbrev cX5_pushEach : ByteArray := prog_7_method_33_code
def yX5_pushEach : MethodName := ⟨RX5, "pushEach", "()I"⟩
abbrev cX5_isBroken : ByteArray := prog_7_method_35_code
def yX5_isBroken : MethodName := ⟨RX5, "isBroken", "(I)Z"⟩
abbrev cX5_canRaise : ByteArray := prog_7_method_36_code
def yX5_canRaise : MethodName := ⟨RX5, "canRaise", "(III)Z"⟩
abbrev cX5_update : ByteArray := prog_7_method_37_code
def yX5_update : MethodName := ⟨RX5, "update", "(IIII)I"⟩
abbrev cX5_isInside : ByteArray := prog_7_method_38_code
def yX5_isInside : MethodName := ⟨RX5, "isInside", "(III)Z"⟩
abbrev cX5_isPassed : ByteArray := prog_7_method_39_code
def yX5_isPassed : MethodName := ⟨RX5, "isPassed", "(III)Z"⟩
abbrev cX5_isTaken : ByteArray := prog_7_method_40_code
def yX5_isTaken : MethodName := ⟨RX5, "isTaken", "(III)Z"⟩
def RX6 : String := "LazyRangeTree"
def TX6 : u_T := fun k => match k with
  | 0 => ("LazyRangeTree", "tree", "LLazyRangeTree$Tree;", true)
  | 1 => ("LazyRangeTree", "history", "LLazyRangeTree$History;", true)
  | 2 => ("LazyRangeTree", "snapshot", "LLazyRangeTree$Tree;", true)
  | 3 => ("LazyRangeTree", "snapshotSaved", "Z", false)
  | 4 => ("LazyRangeTree", "input", "LLazyRangeTree$Text;", true)
  | 5 => ("LazyRangeTree", "script", "LLazyRangeTree$Script;", true)
  | _ => ("LazyRangeTree", "report", "LLazyRangeTree$Report;", true)
def tyX6 : Nat → FieldType := fun k => match k with
  | 0 => .object "LazyRangeTree$Tree"
  | 1 => .object "LazyRangeTree$History"
  | 2 => .object "LazyRangeTree$Tree"
  | 3 => .boolean
  | 4 => .object "LazyRangeTree$Text"
  | 5 => .object "LazyRangeTree$Script"
  | _ => .object "LazyRangeTree$Report"
abbrev wsX60 : List Cond := u_ws RX6 TX6 7
theorem nmX6 : ∀ a, a < 7 → ∀ b, b < 7 → a ≠ b → (TX6 a).2.1 ≠ (TX6 b).2.1 := by decide +kernel
theorem tyX6_ok : ∀ k, k < 7 → parseFieldDescriptor (TX6 k).2.2.1 = some (tyX6 k) := by decide +kernel
abbrev cX6_init : ByteArray := prog_1_method_1_code
def yX6_init : MethodName := ⟨RX6, "<init>", "()V"⟩
abbrev cX6_assign : ByteArray := prog_1_method_5_code
def yX6_assign : MethodName := ⟨RX6, "assign", "(III)I"⟩
abbrev cX6_add : ByteArray := prog_1_method_6_code
def yX6_add : MethodName := ⟨RX6, "add", "(III)I"⟩
abbrev cX6_negate : ByteArray := prog_1_method_7_code
def yX6_negate : MethodName := ⟨RX6, "negate", "(II)I"⟩
abbrev cX6_pushDown : ByteArray := prog_1_method_8_code
def yX6_pushDown : MethodName := ⟨RX6, "pushDown", "(I)Z"⟩
abbrev cX6_pushAll : ByteArray := prog_1_method_9_code
def yX6_pushAll : MethodName := ⟨RX6, "pushAll", "()I"⟩
abbrev cX6_appendElement : ByteArray := prog_1_method_10_code
def yX6_appendElement : MethodName := ⟨RX6, "appendElement", "(I)I"⟩
abbrev cX6_removeLast : ByteArray := prog_1_method_11_code
def yX6_removeLast : MethodName := ⟨RX6, "removeLast", "()I"⟩
abbrev cX6_undo : ByteArray := prog_1_method_12_code
def yX6_undo : MethodName := ⟨RX6, "undo", "()I"⟩
abbrev cX6_undoCount : ByteArray := prog_1_method_13_code
def yX6_undoCount : MethodName := ⟨RX6, "undoCount", "()I"⟩
abbrev cX6_elementCount : ByteArray := prog_1_method_18_code
def yX6_elementCount : MethodName := ⟨RX6, "elementCount", "()I"⟩
abbrev cX6_element : ByteArray := prog_1_method_19_code
def yX6_element : MethodName := ⟨RX6, "element", "(I)I"⟩
abbrev cX6_sum : ByteArray := prog_1_method_20_code
def yX6_sum : MethodName := ⟨RX6, "sum", "(II)J"⟩
abbrev cX6_nodeCount : ByteArray := prog_1_method_40_code
def yX6_nodeCount : MethodName := ⟨RX6, "nodeCount", "()I"⟩
abbrev cX6_leafOf : ByteArray := prog_1_method_42_code
def yX6_leafOf : MethodName := ⟨RX6, "leafOf", "(I)I"⟩
abbrev cX6_storedSum : ByteArray := prog_1_method_46_code
def yX6_storedSum : MethodName := ⟨RX6, "storedSum", "(I)J"⟩
abbrev cX6_markFactor : ByteArray := prog_1_method_49_code
def yX6_markFactor : MethodName := ⟨RX6, "markFactor", "(I)I"⟩
abbrev cX6_markOffset : ByteArray := prog_1_method_50_code
def yX6_markOffset : MethodName := ⟨RX6, "markOffset", "(I)I"⟩
abbrev cX6_markedNodes : ByteArray := prog_1_method_51_code
def yX6_markedNodes : MethodName := ⟨RX6, "markedNodes", "()I"⟩
abbrev cX6_marksAbove : ByteArray := prog_1_method_52_code
def yX6_marksAbove : MethodName := ⟨RX6, "marksAbove", "(I)I"⟩
abbrev cX6_updateCount : ByteArray := prog_1_method_60_code
def yX6_updateCount : MethodName := ⟨RX6, "updateCount", "()I"⟩
abbrev cX6_pushCount : ByteArray := prog_1_method_61_code
def yX6_pushCount : MethodName := ⟨RX6, "pushCount", "()I"⟩
abbrev cX6_appliedCount : ByteArray := prog_1_method_62_code
def yX6_appliedCount : MethodName := ⟨RX6, "appliedCount", "()I"⟩
abbrev cX6_violations : ByteArray := prog_1_method_63_code
def yX6_violations : MethodName := ⟨RX6, "violations", "()I"⟩
abbrev cX6_checkIndex : ByteArray := prog_1_method_66_code
def yX6_checkIndex : MethodName := ⟨RX6, "checkIndex", "(I)V"⟩
abbrev cX6_checkRange : ByteArray := prog_1_method_67_code
def yX6_checkRange : MethodName := ⟨RX6, "checkRange", "(II)V"⟩
abbrev cX6_checkValue : ByteArray := prog_1_method_68_code
def yX6_checkValue : MethodName := ⟨RX6, "checkValue", "(I)V"⟩
abbrev cX6_checkNode : ByteArray := prog_1_method_69_code
def yX6_checkNode : MethodName := ⟨RX6, "checkNode", "(I)V"⟩
abbrev cX6_isElement : ByteArray := prog_1_method_70_code
def yX6_isElement : MethodName := ⟨RX6, "isElement", "(I)Z"⟩
abbrev cX6_totalOf : ByteArray := prog_1_method_71_code
def yX6_totalOf : MethodName := ⟨RX6, "totalOf", "(II)J"⟩
def RX7 : String := "LazyRangeTreeModel"
def TX7 : u_T := fun k => match k with
  | _ => ("", "", "", false)
def tyX7 : Nat → FieldType := fun k => match k with
  | _ => .int
abbrev wsX70 : List Cond := u_ws RX7 TX7 0
theorem nmX7 : ∀ a, a < 0 → ∀ b, b < 0 → a ≠ b → (TX7 a).2.1 ≠ (TX7 b).2.1 := by decide +kernel
theorem tyX7_ok : ∀ k, k < 0 → parseFieldDescriptor (TX7 k).2.2.1 = some (tyX7 k) := by decide +kernel
def RJx145de : String := "java/io/Serializable"
def TJx145de : u_T := fun k => match k with
  | _ => ("", "", "", false)
def tyJx145de : Nat → FieldType := fun k => match k with
  | _ => .int
abbrev wsJx145de0 : List Cond := u_ws RJx145de TJx145de 0
theorem nmJx145de : ∀ a, a < 0 → ∀ b, b < 0 → a ≠ b → (TJx145de a).2.1 ≠ (TJx145de b).2.1 := by decide +kernel
theorem tyJx145de_ok : ∀ k, k < 0 → parseFieldDescriptor (TJx145de k).2.2.1 = some (tyJx145de k) := by decide +kernel
def RJ9 : String := "java/lang/Math"
def TJ9 : u_T := fun k => match k with
  | _ => ("", "", "", false)
def tyJ9 : Nat → FieldType := fun k => match k with
  | _ => .int
abbrev wsJ90 : List Cond := u_ws RJ9 TJ9 0
theorem nmJ9 : ∀ a, a < 0 → ∀ b, b < 0 → a ≠ b → (TJ9 a).2.1 ≠ (TJ9 b).2.1 := by decide +kernel
theorem tyJ9_ok : ∀ k, k < 0 → parseFieldDescriptor (TJ9 k).2.2.1 = some (tyJ9 k) := by decide +kernel
abbrev cJ9_max_7cf53 : ByteArray := prog_14_method_65_code
def yJ9_max_7cf53 : MethodName := ⟨RJ9, "max", "(II)I"⟩
abbrev cJ9_min_7cf53 : ByteArray := prog_14_method_69_code
def yJ9_min_7cf53 : MethodName := ⟨RJ9, "min", "(II)I"⟩
def RJ0 : String := "java/lang/String"
def TJ0 : u_T := fun k => match k with
  | _ => ("", "", "", false)
def tyJ0 : Nat → FieldType := fun k => match k with
  | _ => .int
abbrev wsJ00 : List Cond := u_ws RJ0 TJ0 0
theorem nmJ0 : ∀ a, a < 0 → ∀ b, b < 0 → a ≠ b → (TJ0 a).2.1 ≠ (TJ0 b).2.1 := by decide +kernel
theorem tyJ0_ok : ∀ k, k < 0 → parseFieldDescriptor (TJ0 k).2.2.1 = some (tyJ0 k) := by decide +kernel
def RJ10 : String := "java/lang/System"
def TJ10 : u_T := fun k => match k with
  | _ => ("", "", "", false)
def tyJ10 : Nat → FieldType := fun k => match k with
  | _ => .int
abbrev wsJ100 : List Cond := u_ws RJ10 TJ10 0
theorem nmJ10 : ∀ a, a < 0 → ∀ b, b < 0 → a ≠ b → (TJ10 a).2.1 ≠ (TJ10 b).2.1 := by decide +kernel
theorem tyJ10_ok : ∀ k, k < 0 → parseFieldDescriptor (TJ10 k).2.2.1 = some (tyJ10 k) := by decide +kernel
def RJ7 : String := "java/util/Arrays"
def TJ7 : u_T := fun k => match k with
  | _ => ("", "", "", false)
def tyJ7 : Nat → FieldType := fun k => match k with
  | _ => .int
abbrev wsJ70 : List Cond := u_ws RJ7 TJ7 0
theorem nmJ7 : ∀ a, a < 0 → ∀ b, b < 0 → a ≠ b → (TJ7 a).2.1 ≠ (TJ7 b).2.1 := by decide +kernel
theorem tyJ7_ok : ∀ k, k < 0 → parseFieldDescriptor (TJ7 k).2.2.1 = some (tyJ7 k) := by decide +kernel
abbrev cJ7_fill_53178 : ByteArray := prog_19_method_103_code
def yJ7_fill_53178 : MethodName := ⟨RJ7, "fill", "([II)V"⟩
def RL : String := "LazyRangeTreeLaw"
abbrev cL_cell : ByteArray := method_2_code
def yL_cell : MethodName := ⟨RL, "cell", "([II)I"⟩
abbrev cL_isSame : ByteArray := method_3_code
def yL_isSame : MethodName := ⟨RL, "isSame", "(LLazyRangeTree;[II)Z"⟩
abbrev cL_copy : ByteArray := method_4_code
def yL_copy : MethodName := ⟨RL, "copy", "([I)[I"⟩
abbrev cL_sum : ByteArray := method_5_code
def yL_sum : MethodName := ⟨RL, "sum", "(LLazyRangeTree;)J"⟩
abbrev cL_law : ByteArray := code
def yL_law : MethodName := ⟨RL, "law", "([I)Z"⟩
abbrev vwCl : List vw_C := [(RX0, TX0, 2), (RX1, TX1, 2), (RX2, TX2, 11), (RX3, TX3, 2), (RX4, TX4, 4), (RX5, TX5, 12), (RX6, TX6, 7)]
