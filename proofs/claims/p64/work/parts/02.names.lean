/-! ===== BEGIN printed: names, fields, word lists, decode rows ===== -/
def RX0 : String := "StreetAutomata$History"
def TX0 : u_T := fun k => match k with
  | 0 => ("StreetAutomata$History", "ring", "[LStreetAutomata$World;", true)
  | 1 => ("StreetAutomata$History", "place", "I", false)
  | _ => ("StreetAutomata$History", "count", "I", false)
def tyX0 : Nat → FieldType := fun k => match k with
  | 0 => .array (.object "StreetAutomata$World")
  | 1 => .int
  | _ => .int
abbrev wsX00 : List Cond := u_ws RX0 TX0 3
theorem nmX0 : ∀ a, a < 3 → ∀ b, b < 3 → a ≠ b → (TX0 a).2.1 ≠ (TX0 b).2.1 := by decide +kernel
theorem tyX0_ok : ∀ k, k < 3 → parseFieldDescriptor (TX0 k).2.2.1 = some (tyX0 k) := by decide +kernel
abbrev cX0_init : ByteArray := prog_2_method_1_code
def yX0_init : MethodName := ⟨RX0, "<init>", "(LStreetAutomata$Pattern;LStreetAutomata$Pattern;)V"⟩
abbrev cX0_size : ByteArray := prog_2_method_2_code
def yX0_size : MethodName := ⟨RX0, "size", "()I"⟩
abbrev cX0_remember : ByteArray := prog_2_method_4_code
def yX0_remember : MethodName := ⟨RX0, "remember", "(LStreetAutomata$World;)V"⟩
abbrev cX0_takeBack : ByteArray := prog_2_method_5_code
def yX0_takeBack : MethodName := ⟨RX0, "takeBack", "(LStreetAutomata$World;)Z"⟩
def RX1 : String := "StreetAutomata$Input"
def TX1 : u_T := fun k => match k with
  | 0 => ("StreetAutomata$Input", "bytes", "[I", true)
  | _ => ("StreetAutomata$Input", "length", "I", false)
def tyX1 : Nat → FieldType := fun k => match k with
  | 0 => .array .int
  | _ => .int
abbrev wsX10 : List Cond := u_ws RX1 TX1 2
theorem nmX1 : ∀ a, a < 2 → ∀ b, b < 2 → a ≠ b → (TX1 a).2.1 ≠ (TX1 b).2.1 := by decide +kernel
theorem tyX1_ok : ∀ k, k < 2 → parseFieldDescriptor (TX1 k).2.2.1 = some (tyX1 k) := by decide +kernel
abbrev cX1_init : ByteArray := prog_3_method_1_code
def yX1_init : MethodName := ⟨RX1, "<init>", "()V"⟩
abbrev cX1_size : ByteArray := prog_3_method_2_code
def yX1_size : MethodName := ⟨RX1, "size", "()I"⟩
abbrev cX1_put : ByteArray := prog_3_method_3_code
def yX1_put : MethodName := ⟨RX1, "put", "(Ljava/lang/String;)V"⟩
abbrev cX1_addFourBytes : ByteArray := prog_3_method_4_code
def yX1_addFourBytes : MethodName := ⟨RX1, "addFourBytes", "(I)V"⟩
abbrev cX1_shorten : ByteArray := prog_3_method_5_code
def yX1_shorten : MethodName := ⟨RX1, "shorten", "(I)V"⟩
abbrev cX1_value : ByteArray := prog_3_method_6_code
def yX1_value : MethodName := ⟨RX1, "value", "(I)I"⟩
abbrev cX1_street : ByteArray := prog_3_method_7_code
def yX1_street : MethodName := ⟨RX1, "street", "(I)I"⟩
abbrev cX1_addByte : ByteArray := prog_3_method_8_code
def yX1_addByte : MethodName := ⟨RX1, "addByte", "(I)V"⟩
def RX2 : String := "StreetAutomata$Level"
def TX2 : u_T := fun k => match k with
  | 0 => ("StreetAutomata$Level", "outer", "LStreetAutomata$Level;", true)
  | 1 => ("StreetAutomata$Level", "inner", "LStreetAutomata$Level;", false)
  | 2 => ("StreetAutomata$Level", "choice", "LStreetAutomata$Part;", true)
  | 3 => ("StreetAutomata$Level", "branch", "LStreetAutomata$Part;", true)
  | 4 => ("StreetAutomata$Level", "piece", "LStreetAutomata$Part;", true)
  | _ => ("StreetAutomata$Level", "hasPiece", "Z", false)
def tyX2 : Nat → FieldType := fun k => match k with
  | 0 => .object "StreetAutomata$Level"
  | 1 => .object "StreetAutomata$Level"
  | 2 => .object "StreetAutomata$Part"
  | 3 => .object "StreetAutomata$Part"
  | 4 => .object "StreetAutomata$Part"
  | _ => .boolean
abbrev wsX20 : List Cond := u_ws RX2 TX2 6
theorem nmX2 : ∀ a, a < 6 → ∀ b, b < 6 → a ≠ b → (TX2 a).2.1 ≠ (TX2 b).2.1 := by decide +kernel
theorem tyX2_ok : ∀ k, k < 6 → parseFieldDescriptor (TX2 k).2.2.1 = some (tyX2 k) := by decide +kernel
abbrev cX2_init : ByteArray := prog_4_method_1_code
def yX2_init : MethodName := ⟨RX2, "<init>", "(LStreetAutomata$Level;)V"⟩
abbrev cX2_makeInner : ByteArray := prog_4_method_2_code
def yX2_makeInner : MethodName := ⟨RX2, "makeInner", "()LStreetAutomata$Level;"⟩
abbrev cX2_begin : ByteArray := prog_4_method_3_code
def yX2_begin : MethodName := ⟨RX2, "begin", "()V"⟩
abbrev cX2_beginBranch : ByteArray := prog_4_method_4_code
def yX2_beginBranch : MethodName := ⟨RX2, "beginBranch", "()V"⟩
abbrev cX2_beginPiece : ByteArray := prog_4_method_5_code
def yX2_beginPiece : MethodName := ⟨RX2, "beginPiece", "(ZII)V"⟩
def RX3 : String := "StreetAutomata$PairSearch"
def TX3 : u_T := fun k => match k with
  | 0 => ("StreetAutomata$PairSearch", "seen", "[Z", true)
  | 1 => ("StreetAutomata$PairSearch", "pairs", "[I", true)
  | 2 => ("StreetAutomata$PairSearch", "origins", "[I", true)
  | 3 => ("StreetAutomata$PairSearch", "streets", "[I", true)
  | _ => ("StreetAutomata$PairSearch", "count", "I", false)
def tyX3 : Nat → FieldType := fun k => match k with
  | 0 => .array .boolean
  | 1 => .array .int
  | 2 => .array .int
  | 3 => .array .int
  | _ => .int
abbrev wsX30 : List Cond := u_ws RX3 TX3 5
theorem nmX3 : ∀ a, a < 5 → ∀ b, b < 5 → a ≠ b → (TX3 a).2.1 ≠ (TX3 b).2.1 := by decide +kernel
theorem tyX3_ok : ∀ k, k < 5 → parseFieldDescriptor (TX3 k).2.2.1 = some (tyX3 k) := by decide +kernel
abbrev cX3_init : ByteArray := prog_5_method_1_code
def yX3_init : MethodName := ⟨RX3, "<init>", "()V"⟩
def RX4 : String := "StreetAutomata$Part"
def TX4 : u_T := fun k => match k with
  | 0 => ("StreetAutomata$Part", "empty", "Z", false)
  | 1 => ("StreetAutomata$Part", "first", "I", false)
  | _ => ("StreetAutomata$Part", "last", "I", false)
def tyX4 : Nat → FieldType := fun k => match k with
  | 0 => .boolean
  | 1 => .int
  | _ => .int
abbrev wsX40 : List Cond := u_ws RX4 TX4 3
theorem nmX4 : ∀ a, a < 3 → ∀ b, b < 3 → a ≠ b → (TX4 a).2.1 ≠ (TX4 b).2.1 := by decide +kernel
theorem tyX4_ok : ∀ k, k < 3 → parseFieldDescriptor (TX4 k).2.2.1 = some (tyX4 k) := by decide +kernel
abbrev cX4_init : ByteArray := prog_6_method_1_code
def yX4_init : MethodName := ⟨RX4, "<init>", "()V"⟩
abbrev cX4_set : ByteArray := prog_6_method_2_code
def yX4_set : MethodName := ⟨RX4, "set", "(ZII)V"⟩
def RX5 : String := "StreetAutomata$Pattern"
def TX5 : u_T := fun k => match k with
  | 0 => ("StreetAutomata$Pattern", "positions", "I", true)
  | 1 => ("StreetAutomata$Pattern", "loops", "I", true)
  | 2 => ("StreetAutomata$Pattern", "empty", "Z", true)
  | 3 => ("StreetAutomata$Pattern", "first", "I", true)
  | 4 => ("StreetAutomata$Pattern", "last", "I", true)
  | 5 => ("StreetAutomata$Pattern", "states", "I", true)
  | 6 => ("StreetAutomata$Pattern", "streets", "[I", true)
  | 7 => ("StreetAutomata$Pattern", "follow", "[I", true)
  | 8 => ("StreetAutomata$Pattern", "along", "[I", true)
  | 9 => ("StreetAutomata$Pattern", "sets", "[I", true)
  | _ => ("StreetAutomata$Pattern", "after", "[I", true)
def tyX5 : Nat → FieldType := fun k => match k with
  | 0 => .int
  | 1 => .int
  | 2 => .boolean
  | 3 => .int
  | 4 => .int
  | 5 => .int
  | 6 => .array .int
  | 7 => .array .int
  | 8 => .array .int
  | 9 => .array .int
  | _ => .array .int
abbrev wsX50 : List Cond := u_ws RX5 TX5 11
theorem nmX5 : ∀ a, a < 11 → ∀ b, b < 11 → a ≠ b → (TX5 a).2.1 ≠ (TX5 b).2.1 := by decide +kernel
theorem tyX5_ok : ∀ k, k < 11 → parseFieldDescriptor (TX5 k).2.2.1 = some (tyX5 k) := by decide +kernel
abbrev cX5_init : ByteArray := prog_7_method_1_code
def yX5_init : MethodName := ⟨RX5, "<init>", "(LStreetAutomata$PatternReader;)V"⟩
abbrev cX5_streetOf : ByteArray := prog_7_method_2_code
def yX5_streetOf : MethodName := ⟨RX5, "streetOf", "(I)I"⟩
abbrev cX5_followOf : ByteArray := prog_7_method_3_code
def yX5_followOf : MethodName := ⟨RX5, "followOf", "(I)I"⟩
abbrev cX5_after : ByteArray := prog_7_method_5_code
def yX5_after : MethodName := ⟨RX5, "after", "(II)I"⟩
abbrev cX5_accepts : ByteArray := prog_7_method_6_code
def yX5_accepts : MethodName := ⟨RX5, "accepts", "(I)Z"⟩
abbrev cX5_positionsIn : ByteArray := prog_7_method_7_code
def yX5_positionsIn : MethodName := ⟨RX5, "positionsIn", "(I)I"⟩
def RX6 : String := "StreetAutomata$PatternReader"
def TX6 : u_T := fun k => match k with
  | 0 => ("StreetAutomata$PatternReader", "streets", "[I", true)
  | 1 => ("StreetAutomata$PatternReader", "follow", "[I", true)
  | 2 => ("StreetAutomata$PatternReader", "along", "[I", true)
  | 3 => ("StreetAutomata$PatternReader", "sets", "[I", true)
  | 4 => ("StreetAutomata$PatternReader", "after", "[I", true)
  | 5 => ("StreetAutomata$PatternReader", "positions", "I", false)
  | 6 => ("StreetAutomata$PatternReader", "loops", "I", false)
  | 7 => ("StreetAutomata$PatternReader", "states", "I", false)
  | 8 => ("StreetAutomata$PatternReader", "errorOffset", "I", false)
  | 9 => ("StreetAutomata$PatternReader", "outermost", "LStreetAutomata$Level;", true)
  | _ => ("StreetAutomata$PatternReader", "level", "LStreetAutomata$Level;", false)
def tyX6 : Nat → FieldType := fun k => match k with
  | 0 => .array .int
  | 1 => .array .int
  | 2 => .array .int
  | 3 => .array .int
  | 4 => .array .int
  | 5 => .int
  | 6 => .int
  | 7 => .int
  | 8 => .int
  | 9 => .object "StreetAutomata$Level"
  | _ => .object "StreetAutomata$Level"
abbrev wsX60 : List Cond := u_ws RX6 TX6 11
theorem nmX6 : ∀ a, a < 11 → ∀ b, b < 11 → a ≠ b → (TX6 a).2.1 ≠ (TX6 b).2.1 := by decide +kernel
theorem tyX6_ok : ∀ k, k < 11 → parseFieldDescriptor (TX6 k).2.2.1 = some (tyX6 k) := by decide +kernel
abbrev cX6_init : ByteArray := prog_8_method_1_code
def yX6_init : MethodName := ⟨RX6, "<init>", "()V"⟩
abbrev cX6_errorOffset : ByteArray := prog_8_method_2_code
def yX6_errorOffset : MethodName := ⟨RX6, "errorOffset", "()I"⟩
abbrev cX6_whole : ByteArray := prog_8_method_3_code
def yX6_whole : MethodName := ⟨RX6, "whole", "()LStreetAutomata$Part;"⟩
abbrev cX6_read : ByteArray := prog_8_method_4_code
def yX6_read : MethodName := ⟨RX6, "read", "(LStreetAutomata$Input;)I"⟩
abbrev cX6_begin : ByteArray := prog_8_method_5_code
def yX6_begin : MethodName := ⟨RX6, "begin", "()V"⟩
abbrev cX6_readByte : ByteArray := prog_8_method_6_code
def yX6_readByte : MethodName := ⟨RX6, "readByte", "(I)I"⟩
abbrev cX6_readLetter : ByteArray := prog_8_method_7_code
def yX6_readLetter : MethodName := ⟨RX6, "readLetter", "(I)I"⟩
abbrev cX6_readPosition : ByteArray := prog_8_method_8_code
def yX6_readPosition : MethodName := ⟨RX6, "readPosition", "(II)I"⟩
abbrev cX6_openGroup : ByteArray := prog_8_method_9_code
def yX6_openGroup : MethodName := ⟨RX6, "openGroup", "()I"⟩
abbrev cX6_closeGroup : ByteArray := prog_8_method_10_code
def yX6_closeGroup : MethodName := ⟨RX6, "closeGroup", "()I"⟩
abbrev cX6_readOperator : ByteArray := prog_8_method_11_code
def yX6_readOperator : MethodName := ⟨RX6, "readOperator", "(I)I"⟩
abbrev cX6_endPiece : ByteArray := prog_8_method_12_code
def yX6_endPiece : MethodName := ⟨RX6, "endPiece", "()V"⟩
abbrev cX6_endBranch : ByteArray := prog_8_method_13_code
def yX6_endBranch : MethodName := ⟨RX6, "endBranch", "()V"⟩
abbrev cX6_addFollow : ByteArray := prog_8_method_14_code
def yX6_addFollow : MethodName := ⟨RX6, "addFollow", "(II)V"⟩
abbrev cX6_findStates : ByteArray := prog_8_method_15_code
def yX6_findStates : MethodName := ⟨RX6, "findStates", "()Z"⟩
abbrev cX6_positionsAfter : ByteArray := prog_8_method_16_code
def yX6_positionsAfter : MethodName := ⟨RX6, "positionsAfter", "(I)I"⟩
abbrev cX6_stateOfSet : ByteArray := prog_8_method_17_code
def yX6_stateOfSet : MethodName := ⟨RX6, "stateOfSet", "(I)I"⟩
def RX7 : String := "StreetAutomata$StateClasses"
def TX7 : u_T := fun k => match k with
  | 0 => ("StreetAutomata$StateClasses", "classes", "[I", true)
  | 1 => ("StreetAutomata$StateClasses", "finer", "[I", true)
  | 2 => ("StreetAutomata$StateClasses", "heads", "[I", true)
  | _ => ("StreetAutomata$StateClasses", "count", "I", false)
def tyX7 : Nat → FieldType := fun k => match k with
  | 0 => .array .int
  | 1 => .array .int
  | 2 => .array .int
  | _ => .int
abbrev wsX70 : List Cond := u_ws RX7 TX7 4
theorem nmX7 : ∀ a, a < 4 → ∀ b, b < 4 → a ≠ b → (TX7 a).2.1 ≠ (TX7 b).2.1 := by decide +kernel
theorem tyX7_ok : ∀ k, k < 4 → parseFieldDescriptor (TX7 k).2.2.1 = some (tyX7 k) := by decide +kernel
abbrev cX7_init : ByteArray := prog_9_method_1_code
def yX7_init : MethodName := ⟨RX7, "<init>", "()V"⟩
def RX8 : String := "StreetAutomata$WordCounts"
def TX8 : u_T := fun k => match k with
  | _ => ("StreetAutomata$WordCounts", "counts", "[J", true)
def tyX8 : Nat → FieldType := fun k => match k with
  | _ => .array .long
abbrev wsX80 : List Cond := u_ws RX8 TX8 1
theorem nmX8 : ∀ a, a < 1 → ∀ b, b < 1 → a ≠ b → (TX8 a).2.1 ≠ (TX8 b).2.1 := by decide +kernel
theorem tyX8_ok : ∀ k, k < 1 → parseFieldDescriptor (TX8 k).2.2.1 = some (tyX8 k) := by decide +kernel
abbrev cX8_init : ByteArray := prog_10_method_1_code
def yX8_init : MethodName := ⟨RX8, "<init>", "()V"⟩
abbrev cX8_fill : ByteArray := prog_10_method_2_code
def yX8_fill : MethodName := ⟨RX8, "fill", "(LStreetAutomata$Pattern;I)V"⟩
abbrev cX8_from : ByteArray := prog_10_method_3_code
def yX8_from : MethodName := ⟨RX8, "from", "(II)J"⟩
abbrev cX8_wordsBefore : ByteArray := prog_10_method_4_code
def yX8_wordsBefore : MethodName := ⟨RX8, "wordsBefore", "(LStreetAutomata$Pattern;III)J"⟩
abbrev cX8_streetToWord : ByteArray := prog_10_method_5_code
def yX8_streetToWord : MethodName := ⟨RX8, "streetToWord", "(LStreetAutomata$Pattern;IIJ)I"⟩
abbrev cX8_put : ByteArray := prog_10_method_6_code
def yX8_put : MethodName := ⟨RX8, "put", "(IIJ)V"⟩
def RX9 : String := "StreetAutomata$World"
def TX9 : u_T := fun k => match k with
  | 0 => ("StreetAutomata$World", "night", "Z", false)
  | 1 => ("StreetAutomata$World", "walkers", "I", false)
  | 2 => ("StreetAutomata$World", "allSteps", "I", false)
  | 3 => ("StreetAutomata$World", "zero", "LStreetAutomata$Pattern;", false)
  | 4 => ("StreetAutomata$World", "one", "LStreetAutomata$Pattern;", false)
  | 5 => ("StreetAutomata$World", "dayGates", "I", false)
  | 6 => ("StreetAutomata$World", "nightGates", "I", false)
  | 7 => ("StreetAutomata$World", "slots", "[I", true)
  | 8 => ("StreetAutomata$World", "states", "[I", true)
  | _ => ("StreetAutomata$World", "steps", "[I", true)
def tyX9 : Nat → FieldType := fun k => match k with
  | 0 => .boolean
  | 1 => .int
  | 2 => .int
  | 3 => .object "StreetAutomata$Pattern"
  | 4 => .object "StreetAutomata$Pattern"
  | 5 => .int
  | 6 => .int
  | 7 => .array .int
  | 8 => .array .int
  | _ => .array .int
abbrev wsX90 : List Cond := u_ws RX9 TX9 10
theorem nmX9 : ∀ a, a < 10 → ∀ b, b < 10 → a ≠ b → (TX9 a).2.1 ≠ (TX9 b).2.1 := by decide +kernel
theorem tyX9_ok : ∀ k, k < 10 → parseFieldDescriptor (TX9 k).2.2.1 = some (tyX9 k) := by decide +kernel
abbrev cX9_init : ByteArray := prog_11_method_1_code
def yX9_init : MethodName := ⟨RX9, "<init>", "(LStreetAutomata$Pattern;LStreetAutomata$Pattern;)V"⟩
abbrev cX9_copyFrom : ByteArray := prog_11_method_2_code
def yX9_copyFrom : MethodName := ⟨RX9, "copyFrom", "(LStreetAutomata$World;)V"⟩
abbrev cX9_pattern : ByteArray := prog_11_method_3_code
def yX9_pattern : MethodName := ⟨RX9, "pattern", "(I)LStreetAutomata$Pattern;"⟩
abbrev cX9_patternOfWalker : ByteArray := prog_11_method_4_code
def yX9_patternOfWalker : MethodName := ⟨RX9, "patternOfWalker", "(I)LStreetAutomata$Pattern;"⟩
abbrev cX9_putPattern : ByteArray := prog_11_method_5_code
def yX9_putPattern : MethodName := ⟨RX9, "putPattern", "(ILStreetAutomata$Pattern;)V"⟩
abbrev cX9_openStreets : ByteArray := prog_11_method_6_code
def yX9_openStreets : MethodName := ⟨RX9, "openStreets", "()I"⟩
abbrev cX9_isOpen : ByteArray := prog_11_method_7_code
def yX9_isOpen : MethodName := ⟨RX9, "isOpen", "(I)Z"⟩
abbrev cX9_slotOf : ByteArray := prog_11_method_9_code
def yX9_slotOf : MethodName := ⟨RX9, "slotOf", "(I)I"⟩
abbrev cX9_stateOf : ByteArray := prog_11_method_10_code
def yX9_stateOf : MethodName := ⟨RX9, "stateOf", "(I)I"⟩
abbrev cX9_stepsOf : ByteArray := prog_11_method_11_code
def yX9_stepsOf : MethodName := ⟨RX9, "stepsOf", "(I)I"⟩
abbrev cX9_bringWalker : ByteArray := prog_11_method_12_code
def yX9_bringWalker : MethodName := ⟨RX9, "bringWalker", "(I)I"⟩
abbrev cX9_moveWalker : ByteArray := prog_11_method_14_code
def yX9_moveWalker : MethodName := ⟨RX9, "moveWalker", "(II)V"⟩
abbrev cX9_beginAnew : ByteArray := prog_11_method_15_code
def yX9_beginAnew : MethodName := ⟨RX9, "beginAnew", "(I)V"⟩
def RX10 : String := "StreetAutomata"
def TX10 : u_T := fun k => match k with
  | 0 => ("StreetAutomata", "input", "LStreetAutomata$Input;", true)
  | 1 => ("StreetAutomata", "reader", "LStreetAutomata$PatternReader;", true)
  | 2 => ("StreetAutomata", "now", "LStreetAutomata$World;", true)
  | 3 => ("StreetAutomata", "history", "LStreetAutomata$History;", true)
  | 4 => ("StreetAutomata", "snapshot", "LStreetAutomata$World;", true)
  | 5 => ("StreetAutomata", "snapshotSaved", "Z", false)
  | 6 => ("StreetAutomata", "errorKind", "I", false)
  | 7 => ("StreetAutomata", "errorOffset", "I", false)
  | 8 => ("StreetAutomata", "search", "LStreetAutomata$PairSearch;", true)
  | 9 => ("StreetAutomata", "counts", "LStreetAutomata$WordCounts;", true)
  | 10 => ("StreetAutomata", "classes", "LStreetAutomata$StateClasses;", true)
  | 11 => ("StreetAutomata", "report", "[I", true)
  | _ => ("StreetAutomata", "reportLength", "I", false)
def tyX10 : Nat → FieldType := fun k => match k with
  | 0 => .object "StreetAutomata$Input"
  | 1 => .object "StreetAutomata$PatternReader"
  | 2 => .object "StreetAutomata$World"
  | 3 => .object "StreetAutomata$History"
  | 4 => .object "StreetAutomata$World"
  | 5 => .boolean
  | 6 => .int
  | 7 => .int
  | 8 => .object "StreetAutomata$PairSearch"
  | 9 => .object "StreetAutomata$WordCounts"
  | 10 => .object "StreetAutomata$StateClasses"
  | 11 => .array .int
  | _ => .int
abbrev wsX100 : List Cond := u_ws RX10 TX10 13
theorem nmX10 : ∀ a, a < 13 → ∀ b, b < 13 → a ≠ b → (TX10 a).2.1 ≠ (TX10 b).2.1 := by decide +kernel
theorem tyX10_ok : ∀ k, k < 13 → parseFieldDescriptor (TX10 k).2.2.1 = some (tyX10 k) := by decide +kernel
abbrev cX10_init : ByteArray := prog_1_method_1_code
def yX10_init : MethodName := ⟨RX10, "<init>", "()V"⟩
abbrev cX10_append : ByteArray := prog_1_method_2_code
def yX10_append : MethodName := ⟨RX10, "append", "(IIIII)I"⟩
abbrev cX10_truncateInput : ByteArray := prog_1_method_3_code
def yX10_truncateInput : MethodName := ⟨RX10, "truncateInput", "(I)I"⟩
abbrev cX10_compile : ByteArray := prog_1_method_5_code
def yX10_compile : MethodName := ⟨RX10, "compile", "(I)I"⟩
abbrev cX10_addWalker : ByteArray := prog_1_method_7_code
def yX10_addWalker : MethodName := ⟨RX10, "addWalker", "(I)I"⟩
abbrev cX10_step : ByteArray := prog_1_method_9_code
def yX10_step : MethodName := ⟨RX10, "step", "(II)I"⟩
abbrev cX10_undo : ByteArray := prog_1_method_14_code
def yX10_undo : MethodName := ⟨RX10, "undo", "()I"⟩
abbrev cX10_undoCount : ByteArray := prog_1_method_15_code
def yX10_undoCount : MethodName := ⟨RX10, "undoCount", "()I"⟩
abbrev cX10_patternErrorKind : ByteArray := prog_1_method_18_code
def yX10_patternErrorKind : MethodName := ⟨RX10, "patternErrorKind", "()I"⟩
abbrev cX10_patternErrorOffset : ByteArray := prog_1_method_19_code
def yX10_patternErrorOffset : MethodName := ⟨RX10, "patternErrorOffset", "()I"⟩
abbrev cX10_positionCount : ByteArray := prog_1_method_20_code
def yX10_positionCount : MethodName := ⟨RX10, "positionCount", "(I)I"⟩
abbrev cX10_streetAt : ByteArray := prog_1_method_21_code
def yX10_streetAt : MethodName := ⟨RX10, "streetAt", "(II)I"⟩
abbrev cX10_acceptsEmptyWord : ByteArray := prog_1_method_22_code
def yX10_acceptsEmptyWord : MethodName := ⟨RX10, "acceptsEmptyWord", "(I)Z"⟩
abbrev cX10_firstPositions : ByteArray := prog_1_method_23_code
def yX10_firstPositions : MethodName := ⟨RX10, "firstPositions", "(I)I"⟩
abbrev cX10_lastPositions : ByteArray := prog_1_method_24_code
def yX10_lastPositions : MethodName := ⟨RX10, "lastPositions", "(I)I"⟩
abbrev cX10_followPositions : ByteArray := prog_1_method_25_code
def yX10_followPositions : MethodName := ⟨RX10, "followPositions", "(II)I"⟩
abbrev cX10_stateCount : ByteArray := prog_1_method_28_code
def yX10_stateCount : MethodName := ⟨RX10, "stateCount", "(I)I"⟩
abbrev cX10_transition : ByteArray := prog_1_method_29_code
def yX10_transition : MethodName := ⟨RX10, "transition", "(III)I"⟩
abbrev cX10_isAccepting : ByteArray := prog_1_method_30_code
def yX10_isAccepting : MethodName := ⟨RX10, "isAccepting", "(II)Z"⟩
abbrev cX10_statePositions : ByteArray := prog_1_method_31_code
def yX10_statePositions : MethodName := ⟨RX10, "statePositions", "(II)I"⟩
abbrev cX10_acceptsInput : ByteArray := prog_1_method_36_code
def yX10_acceptsInput : MethodName := ⟨RX10, "acceptsInput", "(I)Z"⟩
abbrev cX10_wordCount : ByteArray := prog_1_method_37_code
def yX10_wordCount : MethodName := ⟨RX10, "wordCount", "(II)J"⟩
abbrev cX10_isPassable : ByteArray := prog_1_method_46_code
def yX10_isPassable : MethodName := ⟨RX10, "isPassable", "(I)Z"⟩
abbrev cX10_isNight : ByteArray := prog_1_method_47_code
def yX10_isNight : MethodName := ⟨RX10, "isNight", "()Z"⟩
abbrev cX10_walkerCount : ByteArray := prog_1_method_48_code
def yX10_walkerCount : MethodName := ⟨RX10, "walkerCount", "()I"⟩
abbrev cX10_walkerSlot : ByteArray := prog_1_method_49_code
def yX10_walkerSlot : MethodName := ⟨RX10, "walkerSlot", "(I)I"⟩
abbrev cX10_walkerState : ByteArray := prog_1_method_50_code
def yX10_walkerState : MethodName := ⟨RX10, "walkerState", "(I)I"⟩
abbrev cX10_walkerSteps : ByteArray := prog_1_method_51_code
def yX10_walkerSteps : MethodName := ⟨RX10, "walkerSteps", "(I)I"⟩
abbrev cX10_totalSteps : ByteArray := prog_1_method_56_code
def yX10_totalSteps : MethodName := ⟨RX10, "totalSteps", "()I"⟩
abbrev cX10_writeWord : ByteArray := prog_1_method_59_code
def yX10_writeWord : MethodName := ⟨RX10, "writeWord", "(IIJ)I"⟩
abbrev cX10_reportByte : ByteArray := prog_1_method_62_code
def yX10_reportByte : MethodName := ⟨RX10, "reportByte", "(I)I"⟩
abbrev cX10_isIndex : ByteArray := prog_1_method_63_code
def yX10_isIndex : MethodName := ⟨RX10, "isIndex", "(II)Z"⟩
abbrev cX10_checkSlot : ByteArray := prog_1_method_66_code
def yX10_checkSlot : MethodName := ⟨RX10, "checkSlot", "(I)V"⟩
abbrev cX10_checkStreet : ByteArray := prog_1_method_67_code
def yX10_checkStreet : MethodName := ⟨RX10, "checkStreet", "(I)V"⟩
abbrev cX10_checkPosition : ByteArray := prog_1_method_68_code
def yX10_checkPosition : MethodName := ⟨RX10, "checkPosition", "(LStreetAutomata$Pattern;I)V"⟩
abbrev cX10_checkState : ByteArray := prog_1_method_69_code
def yX10_checkState : MethodName := ⟨RX10, "checkState", "(LStreetAutomata$Pattern;I)V"⟩
abbrev cX10_checkWordLength : ByteArray := prog_1_method_70_code
def yX10_checkWordLength : MethodName := ⟨RX10, "checkWordLength", "(I)V"⟩
abbrev cX10_checkWalker : ByteArray := prog_1_method_71_code
def yX10_checkWalker : MethodName := ⟨RX10, "checkWalker", "(I)V"⟩
abbrev cX10_checkedPattern : ByteArray := prog_1_method_72_code
def yX10_checkedPattern : MethodName := ⟨RX10, "checkedPattern", "(I)LStreetAutomata$Pattern;"⟩
abbrev cX10_stateAfterInput : ByteArray := prog_1_method_73_code
def yX10_stateAfterInput : MethodName := ⟨RX10, "stateAfterInput", "(LStreetAutomata$Pattern;)I"⟩
abbrev cX10_putReportByte : ByteArray := prog_1_method_78_code
def yX10_putReportByte : MethodName := ⟨RX10, "putReportByte", "(II)V"⟩
def RX11 : String := "StreetAutomataModel"
def TX11 : u_T := fun k => match k with
  | _ => ("", "", "", false)
def tyX11 : Nat → FieldType := fun k => match k with
  | _ => .int
abbrev wsX110 : List Cond := u_ws RX11 TX11 0
theorem nmX11 : ∀ a, a < 0 → ∀ b, b < 0 → a ≠ b → (TX11 a).2.1 ≠ (TX11 b).2.1 := by decide +kernel
theorem tyX11_ok : ∀ k, k < 0 → parseFieldDescriptor (TX11 k).2.2.1 = some (tyX11 k) := by decide +kernel
def RJx145de : String := "java/io/Serializable"
def TJx145de : u_T := fun k => match k with
  | _ => ("", "", "", false)
def tyJx145de : Nat → FieldType := fun k => match k with
  | _ => .int
abbrev wsJx145de0 : List Cond := u_ws RJx145de TJx145de 0
theorem nmJx145de : ∀ a, a < 0 → ∀ b, b < 0 → a ≠ b → (TJx145de a).2.1 ≠ (TJx145de b).2.1 := by decide +kernel
theorem tyJx145de_ok : ∀ k, k < 0 → parseFieldDescriptor (TJx145de k).2.2.1 = some (tyJx145de k) := by decide +kernel
def RJx9f9b0 : String := "java/lang/CharSequence"
def TJx9f9b0 : u_T := fun k => match k with
  | _ => ("", "", "", false)
def tyJx9f9b0 : Nat → FieldType := fun k => match k with
  | _ => .int
abbrev wsJx9f9b00 : List Cond := u_ws RJx9f9b0 TJx9f9b0 0
theorem nmJx9f9b0 : ∀ a, a < 0 → ∀ b, b < 0 → a ≠ b → (TJx9f9b0 a).2.1 ≠ (TJx9f9b0 b).2.1 := by decide +kernel
theorem tyJx9f9b0_ok : ∀ k, k < 0 → parseFieldDescriptor (TJx9f9b0 k).2.2.1 = some (tyJx9f9b0 k) := by decide +kernel
def RJx8e188 : String := "java/lang/Cloneable"
def TJx8e188 : u_T := fun k => match k with
  | _ => ("", "", "", false)
def tyJx8e188 : Nat → FieldType := fun k => match k with
  | _ => .int
abbrev wsJx8e1880 : List Cond := u_ws RJx8e188 TJx8e188 0
theorem nmJx8e188 : ∀ a, a < 0 → ∀ b, b < 0 → a ≠ b → (TJx8e188 a).2.1 ≠ (TJx8e188 b).2.1 := by decide +kernel
theorem tyJx8e188_ok : ∀ k, k < 0 → parseFieldDescriptor (TJx8e188 k).2.2.1 = some (tyJx8e188 k) := by decide +kernel
def RJxb160c : String := "java/lang/Comparable"
def TJxb160c : u_T := fun k => match k with
  | _ => ("", "", "", false)
def tyJxb160c : Nat → FieldType := fun k => match k with
  | _ => .int
abbrev wsJxb160c0 : List Cond := u_ws RJxb160c TJxb160c 0
theorem nmJxb160c : ∀ a, a < 0 → ∀ b, b < 0 → a ≠ b → (TJxb160c a).2.1 ≠ (TJxb160c b).2.1 := by decide +kernel
theorem tyJxb160c_ok : ∀ k, k < 0 → parseFieldDescriptor (TJxb160c k).2.2.1 = some (tyJxb160c k) := by decide +kernel
def RJ9 : String := "java/lang/Math"
def TJ9 : u_T := fun k => match k with
  | _ => ("", "", "", false)
def tyJ9 : Nat → FieldType := fun k => match k with
  | _ => .int
abbrev wsJ90 : List Cond := u_ws RJ9 TJ9 0
theorem nmJ9 : ∀ a, a < 0 → ∀ b, b < 0 → a ≠ b → (TJ9 a).2.1 ≠ (TJ9 b).2.1 := by decide +kernel
theorem tyJ9_ok : ∀ k, k < 0 → parseFieldDescriptor (TJ9 k).2.2.1 = some (tyJ9 k) := by decide +kernel
abbrev cJ9_min_7cf53 : ByteArray := prog_19_method_69_code
def yJ9_min_7cf53 : MethodName := ⟨RJ9, "min", "(II)I"⟩
def RJ0 : String := "java/lang/String"
def TJ0 : u_T := fun k => match k with
  | _ => ("", "", "", false)
def tyJ0 : Nat → FieldType := fun k => match k with
  | _ => .int
abbrev wsJ00 : List Cond := u_ws RJ0 TJ0 0
theorem nmJ0 : ∀ a, a < 0 → ∀ b, b < 0 → a ≠ b → (TJ0 a).2.1 ≠ (TJ0 b).2.1 := by decide +kernel
theorem tyJ0_ok : ∀ k, k < 0 → parseFieldDescriptor (TJ0 k).2.2.1 = some (tyJ0 k) := by decide +kernel
abbrev cJ0_length_8abf5 : ByteArray := prog_21_method_54_code
def yJ0_length_8abf5 : MethodName := ⟨RJ0, "length", "()I"⟩
abbrev cJ0_charAt_5068e : ByteArray := prog_21_method_56_code
def yJ0_charAt_5068e : MethodName := ⟨RJ0, "charAt", "(I)C"⟩
abbrev cJ0_coder_7d493 : ByteArray := prog_21_method_152_code
def yJ0_coder_7d493 : MethodName := ⟨RJ0, "coder", "()B"⟩
abbrev cJ0_isLatin1_aae02 : ByteArray := prog_21_method_154_code
def yJ0_isLatin1_aae02 : MethodName := ⟨RJ0, "isLatin1", "()Z"⟩
abbrev cJ0_checkIndex_df160 : ByteArray := prog_21_method_155_code
def yJ0_checkIndex_df160 : MethodName := ⟨RJ0, "checkIndex", "(II)V"⟩
def RJ1 : String := "java/lang/StringLatin1"
def TJ1 : u_T := fun k => match k with
  | _ => ("", "", "", false)
def tyJ1 : Nat → FieldType := fun k => match k with
  | _ => .int
abbrev wsJ10 : List Cond := u_ws RJ1 TJ1 0
theorem nmJ1 : ∀ a, a < 0 → ∀ b, b < 0 → a ≠ b → (TJ1 a).2.1 ≠ (TJ1 b).2.1 := by decide +kernel
theorem tyJ1_ok : ∀ k, k < 0 → parseFieldDescriptor (TJ1 k).2.2.1 = some (tyJ1 k) := by decide +kernel
abbrev cJ1_charAt_3b067 : ByteArray := prog_22_method_2_code
def yJ1_charAt_3b067 : MethodName := ⟨RJ1, "charAt", "([BI)C"⟩
def RJ2 : String := "java/lang/StringUTF16"
def TJ2 : u_T := fun k => match k with
  | _ => ("", "", "", false)
def tyJ2 : Nat → FieldType := fun k => match k with
  | _ => .int
abbrev wsJ20 : List Cond := u_ws RJ2 TJ2 0
theorem nmJ2 : ∀ a, a < 0 → ∀ b, b < 0 → a ≠ b → (TJ2 a).2.1 ≠ (TJ2 b).2.1 := by decide +kernel
theorem tyJ2_ok : ∀ k, k < 0 → parseFieldDescriptor (TJ2 k).2.2.1 = some (tyJ2 k) := by decide +kernel
abbrev cJ2_getChar_3b067 : ByteArray := prog_23_method_5_code
def yJ2_getChar_3b067 : MethodName := ⟨RJ2, "getChar", "([BI)C"⟩
abbrev cJ2_length_9d52b : ByteArray := prog_23_method_6_code
def yJ2_length_9d52b : MethodName := ⟨RJ2, "length", "([B)I"⟩
abbrev cJ2_charAt_3b067 : ByteArray := prog_23_method_83_code
def yJ2_charAt_3b067 : MethodName := ⟨RJ2, "charAt", "([BI)C"⟩
abbrev cJ2_checkIndex_2214a : ByteArray := prog_23_method_91_code
def yJ2_checkIndex_2214a : MethodName := ⟨RJ2, "checkIndex", "(I[B)V"⟩
def RJxfd54e : String := "java/lang/constant/Constable"
def TJxfd54e : u_T := fun k => match k with
  | _ => ("", "", "", false)
def tyJxfd54e : Nat → FieldType := fun k => match k with
  | _ => .int
abbrev wsJxfd54e0 : List Cond := u_ws RJxfd54e TJxfd54e 0
theorem nmJxfd54e : ∀ a, a < 0 → ∀ b, b < 0 → a ≠ b → (TJxfd54e a).2.1 ≠ (TJxfd54e b).2.1 := by decide +kernel
theorem tyJxfd54e_ok : ∀ k, k < 0 → parseFieldDescriptor (TJxfd54e k).2.2.1 = some (tyJxfd54e k) := by decide +kernel
def RJx3cf43 : String := "java/lang/constant/ConstantDesc"
def TJx3cf43 : u_T := fun k => match k with
  | _ => ("", "", "", false)
def tyJx3cf43 : Nat → FieldType := fun k => match k with
  | _ => .int
abbrev wsJx3cf430 : List Cond := u_ws RJx3cf43 TJx3cf43 0
theorem nmJx3cf43 : ∀ a, a < 0 → ∀ b, b < 0 → a ≠ b → (TJx3cf43 a).2.1 ≠ (TJx3cf43 b).2.1 := by decide +kernel
theorem tyJx3cf43_ok : ∀ k, k < 0 → parseFieldDescriptor (TJx3cf43 k).2.2.1 = some (tyJx3cf43 k) := by decide +kernel
def RJ7 : String := "java/util/Arrays"
def TJ7 : u_T := fun k => match k with
  | _ => ("", "", "", false)
def tyJ7 : Nat → FieldType := fun k => match k with
  | _ => .int
abbrev wsJ70 : List Cond := u_ws RJ7 TJ7 0
theorem nmJ7 : ∀ a, a < 0 → ∀ b, b < 0 → a ≠ b → (TJ7 a).2.1 ≠ (TJ7 b).2.1 := by decide +kernel
theorem tyJ7_ok : ∀ k, k < 0 → parseFieldDescriptor (TJ7 k).2.2.1 = some (tyJ7 k) := by decide +kernel
abbrev cJ7_fill_53178 : ByteArray := prog_25_method_103_code
def yJ7_fill_53178 : MethodName := ⟨RJ7, "fill", "([II)V"⟩
def RJ3 : String := "jdk/internal/util/Preconditions"
def TJ3 : u_T := fun k => match k with
  | _ => ("", "", "", false)
def tyJ3 : Nat → FieldType := fun k => match k with
  | _ => .int
abbrev wsJ30 : List Cond := u_ws RJ3 TJ3 0
theorem nmJ3 : ∀ a, a < 0 → ∀ b, b < 0 → a ≠ b → (TJ3 a).2.1 ≠ (TJ3 b).2.1 := by decide +kernel
theorem tyJ3_ok : ∀ k, k < 0 → parseFieldDescriptor (TJ3 k).2.2.1 = some (tyJ3 k) := by decide +kernel
abbrev cJ3_checkIndex_8e157 : ByteArray := prog_26_method_11_code
def yJ3_checkIndex_8e157 : MethodName := ⟨RJ3, "checkIndex", "(IILjava/util/function/BiFunction;)I"⟩
def RL : String := "StreetAutomataLaw"
abbrev cL_cell : ByteArray := method_2_code
def yL_cell : MethodName := ⟨RL, "cell", "([II)I"⟩
abbrev cL_compiled : ByteArray := method_3_code
def yL_compiled : MethodName := ⟨RL, "compiled", "(LStreetAutomata;II)Z"⟩
abbrev cL_len : ByteArray := method_4_code
def yL_len : MethodName := ⟨RL, "len", "(I)I"⟩
abbrev cL_word : ByteArray := method_5_code
def yL_word : MethodName := ⟨RL, "word", "(LStreetAutomata;II)V"⟩
abbrev cL_isPath : ByteArray := method_6_code
def yL_isPath : MethodName := ⟨RL, "isPath", "(LStreetAutomata;III)Z"⟩
abbrev cL_isRun : ByteArray := method_7_code
def yL_isRun : MethodName := ⟨RL, "isRun", "(LStreetAutomata;III)Z"⟩
abbrev cL_knows : ByteArray := method_8_code
def yL_knows : MethodName := ⟨RL, "knows", "(LStreetAutomata;II)Z"⟩
abbrev cL_isListed : ByteArray := method_9_code
def yL_isListed : MethodName := ⟨RL, "isListed", "(LStreetAutomata;II)Z"⟩
abbrev cL_sum : ByteArray := method_10_code
def yL_sum : MethodName := ⟨RL, "sum", "(LStreetAutomata;)J"⟩
abbrev cL_law : ByteArray := code
def yL_law : MethodName := ⟨RL, "law", "([I)Z"⟩
theorem inX0 : ∀ w ∈ wsX00, w ∈ lw_tbl := by decide +kernel
theorem inX1 : ∀ w ∈ wsX10, w ∈ lw_tbl := by decide +kernel
theorem inX2 : ∀ w ∈ wsX20, w ∈ lw_tbl := by decide +kernel
theorem inX3 : ∀ w ∈ wsX30, w ∈ lw_tbl := by decide +kernel
theorem inX4 : ∀ w ∈ wsX40, w ∈ lw_tbl := by decide +kernel
theorem inX5 : ∀ w ∈ wsX50, w ∈ lw_tbl := by decide +kernel
theorem inX6 : ∀ w ∈ wsX60, w ∈ lw_tbl := by decide +kernel
theorem inX7 : ∀ w ∈ wsX70, w ∈ lw_tbl := by decide +kernel
theorem inX8 : ∀ w ∈ wsX80, w ∈ lw_tbl := by decide +kernel
theorem inX9 : ∀ w ∈ wsX90, w ∈ lw_tbl := by decide +kernel
theorem inX10 : ∀ w ∈ wsX100, w ∈ lw_tbl := by decide +kernel
theorem inX11 : ∀ w ∈ wsX110, w ∈ lw_tbl := by decide +kernel
abbrev vwCl : List vw_C := [(RX0, TX0, 3), (RX1, TX1, 2), (RX2, TX2, 6), (RX3, TX3, 5), (RX4, TX4, 3), (RX5, TX5, 11), (RX6, TX6, 11), (RX7, TX7, 4), (RX8, TX8, 1), (RX9, TX9, 10), (RX10, TX10, 13)]
/-! ===== END names ===== -/
