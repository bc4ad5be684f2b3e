def RX0 : String := "RefsSettle$Asking"
def TX0 : u_T := fun k => match k with
  | 0 => ("RefsSettle$Asking", "live", "LRefsSettle$Sheet;", true)
  | 1 => ("RefsSettle$Asking", "begun", "[I", true)
  | _ => ("RefsSettle$Asking", "traced", "I", false)
def tyX0 : Nat → FieldType := fun k => match k with
  | 0 => .object "RefsSettle$Sheet"
  | 1 => .array .int
  | _ => .int
abbrev wsX00 : List Cond := u_ws RX0 TX0 3
theorem nmX0 : ∀ a, a < 3 → ∀ b, b < 3 → a ≠ b → (TX0 a).2.1 ≠ (TX0 b).2.1 := by decide +kernel
theorem tyX0_ok : ∀ k, k < 3 → parseFieldDescriptor (TX0 k).2.2.1 = some (tyX0 k) := by decide +kernel
abbrev cX0_init : ByteArray := prog_2_method_1_code
def yX0_init : MethodName := ⟨RX0, "<init>", "(LRefsSettle$Sheet;)V"⟩
abbrev cX0_clear : ByteArray := prog_2_method_2_code
def yX0_clear : MethodName := ⟨RX0, "clear", "()V"⟩
abbrev cX0_sizeOfReference : ByteArray := prog_2_method_3_code
def yX0_sizeOfReference : MethodName := ⟨RX0, "sizeOfReference", "(I)I"⟩
abbrev cX0_sizeOfWord : ByteArray := prog_2_method_4_code
def yX0_sizeOfWord : MethodName := ⟨RX0, "sizeOfWord", "(I)I"⟩
abbrev cX0_markOfReference : ByteArray := prog_2_method_5_code
def yX0_markOfReference : MethodName := ⟨RX0, "markOfReference", "(I)I"⟩
abbrev cX0_markOfWord : ByteArray := prog_2_method_6_code
def yX0_markOfWord : MethodName := ⟨RX0, "markOfWord", "(I)I"⟩
abbrev cX0_lentSize : ByteArray := prog_2_method_7_code
def yX0_lentSize : MethodName := ⟨RX0, "lentSize", "(I)I"⟩
abbrev cX0_lentMark : ByteArray := prog_2_method_8_code
def yX0_lentMark : MethodName := ⟨RX0, "lentMark", "(I)I"⟩
abbrev cX0_begin : ByteArray := prog_2_method_9_code
def yX0_begin : MethodName := ⟨RX0, "begin", "(I)V"⟩
def RX1 : String := "RefsSettle$Foretelling"
def TX1 : u_T := fun k => match k with
  | 0 => ("RefsSettle$Foretelling", "live", "LRefsSettle$Sheet;", true)
  | 1 => ("RefsSettle$Foretelling", "trial", "LRefsSettle$Sheet;", true)
  | 2 => ("RefsSettle$Foretelling", "settling", "LRefsSettle$Settling;", true)
  | 3 => ("RefsSettle$Foretelling", "wider", "LRefsSettle$Outline;", true)
  | 4 => ("RefsSettle$Foretelling", "growing", "[I", true)
  | 5 => ("RefsSettle$Foretelling", "expectedItem", "I", false)
  | 6 => ("RefsSettle$Foretelling", "expected", "[I", false)
  | 7 => ("RefsSettle$Foretelling", "expectedFrom", "I", false)
  | _ => ("RefsSettle$Foretelling", "expectedRounds", "I", false)
def tyX1 : Nat → FieldType := fun k => match k with
  | 0 => .object "RefsSettle$Sheet"
  | 1 => .object "RefsSettle$Sheet"
  | 2 => .object "RefsSettle$Settling"
  | 3 => .object "RefsSettle$Outline"
  | 4 => .array .int
  | 5 => .int
  | 6 => .array .int
  | 7 => .int
  | _ => .int
abbrev wsX10 : List Cond := u_ws RX1 TX1 9
theorem nmX1 : ∀ a, a < 9 → ∀ b, b < 9 → a ≠ b → (TX1 a).2.1 ≠ (TX1 b).2.1 := by decide +kernel
theorem tyX1_ok : ∀ k, k < 9 → parseFieldDescriptor (TX1 k).2.2.1 = some (tyX1 k) := by decide +kernel
abbrev cX1_init : ByteArray := prog_3_method_1_code
def yX1_init : MethodName := ⟨RX1, "<init>", "(LRefsSettle$Sheet;LRefsSettle$Sheet;LRefsSettle$Settling;)V"⟩
abbrev cX1_guessBehind : ByteArray := prog_3_method_2_code
def yX1_guessBehind : MethodName := ⟨RX1, "guessBehind", "(II)I"⟩
abbrev cX1_lying : ByteArray := prog_3_method_3_code
def yX1_lying : MethodName := ⟨RX1, "lying", "()I"⟩
abbrev cX1_movedBy : ByteArray := prog_3_method_4_code
def yX1_movedBy : MethodName := ⟨RX1, "movedBy", "(I)I"⟩
abbrev cX1_widestOf : ByteArray := prog_3_method_5_code
def yX1_widestOf : MethodName := ⟨RX1, "widestOf", "(I)I"⟩
abbrev cX1_lastPageWith : ByteArray := prog_3_method_6_code
def yX1_lastPageWith : MethodName := ⟨RX1, "lastPageWith", "(II)I"⟩
abbrev cX1_restlessFirst : ByteArray := prog_3_method_7_code
def yX1_restlessFirst : MethodName := ⟨RX1, "restlessFirst", "()I"⟩
abbrev cX1_expect : ByteArray := prog_3_method_8_code
def yX1_expect : MethodName := ⟨RX1, "expect", "(I[III)V"⟩
abbrev cX1_kindsAsExpected : ByteArray := prog_3_method_9_code
def yX1_kindsAsExpected : MethodName := ⟨RX1, "kindsAsExpected", "()I"⟩
abbrev cX1_numbersAsExpected : ByteArray := prog_3_method_10_code
def yX1_numbersAsExpected : MethodName := ⟨RX1, "numbersAsExpected", "()I"⟩
abbrev cX1_firstsAsExpected : ByteArray := prog_3_method_11_code
def yX1_firstsAsExpected : MethodName := ⟨RX1, "firstsAsExpected", "(Z)I"⟩
abbrev cX1_comesAsExpected : ByteArray := prog_3_method_12_code
def yX1_comesAsExpected : MethodName := ⟨RX1, "comesAsExpected", "()Z"⟩
abbrev cX1_weightOfRest : ByteArray := prog_3_method_13_code
def yX1_weightOfRest : MethodName := ⟨RX1, "weightOfRest", "(I)J"⟩
abbrev cX1_weightOfAll : ByteArray := prog_3_method_14_code
def yX1_weightOfAll : MethodName := ⟨RX1, "weightOfAll", "()J"⟩
abbrev cX1_gatherGrowing : ByteArray := prog_3_method_15_code
def yX1_gatherGrowing : MethodName := ⟨RX1, "gatherGrowing", "()I"⟩
abbrev cX1_weightOf : ByteArray := prog_3_method_16_code
def yX1_weightOf : MethodName := ⟨RX1, "weightOf", "(III)J"⟩
abbrev cX1_settlesGrown : ByteArray := prog_3_method_17_code
def yX1_settlesGrown : MethodName := ⟨RX1, "settlesGrown", "(II)Z"⟩
abbrev cX1_editsThatChange : ByteArray := prog_3_method_18_code
def yX1_editsThatChange : MethodName := ⟨RX1, "editsThatChange", "(II)I"⟩
def RX2 : String := "RefsSettle$Outline"
def TX2 : u_T := fun k => match k with
  | 0 => ("RefsSettle$Outline", "pages", "[I", true)
  | 1 => ("RefsSettle$Outline", "lines", "[I", true)
  | _ => ("RefsSettle$Outline", "columns", "[I", true)
def tyX2 : Nat → FieldType := fun k => match k with
  | 0 => .array .int
  | 1 => .array .int
  | _ => .array .int
abbrev wsX20 : List Cond := u_ws RX2 TX2 3
theorem nmX2 : ∀ a, a < 3 → ∀ b, b < 3 → a ≠ b → (TX2 a).2.1 ≠ (TX2 b).2.1 := by decide +kernel
theorem tyX2_ok : ∀ k, k < 3 → parseFieldDescriptor (TX2 k).2.2.1 = some (tyX2 k) := by decide +kernel
abbrev cX2_init : ByteArray := prog_4_method_1_code
def yX2_init : MethodName := ⟨RX2, "<init>", "()V"⟩
abbrev cX2_setOut : ByteArray := prog_4_method_2_code
def yX2_setOut : MethodName := ⟨RX2, "setOut", "(LRefsSettle$Sheet;I)V"⟩
abbrev cX2_hasElsewhere : ByteArray := prog_4_method_3_code
def yX2_hasElsewhere : MethodName := ⟨RX2, "hasElsewhere", "(ILRefsSettle$Outline;)Z"⟩
def RX3 : String := "RefsSettle$Past"
def TX3 : u_T := fun k => match k with
  | 0 => ("RefsSettle$Past", "sheets", "[LRefsSettle$Sheet;", true)
  | 1 => ("RefsSettle$Past", "oldest", "I", false)
  | _ => ("RefsSettle$Past", "size", "I", false)
def tyX3 : Nat → FieldType := fun k => match k with
  | 0 => .array (.object "RefsSettle$Sheet")
  | 1 => .int
  | _ => .int
abbrev wsX30 : List Cond := u_ws RX3 TX3 3
theorem nmX3 : ∀ a, a < 3 → ∀ b, b < 3 → a ≠ b → (TX3 a).2.1 ≠ (TX3 b).2.1 := by decide +kernel
theorem tyX3_ok : ∀ k, k < 3 → parseFieldDescriptor (TX3 k).2.2.1 = some (tyX3 k) := by decide +kernel
abbrev cX3_init : ByteArray := prog_5_method_1_code
def yX3_init : MethodName := ⟨RX3, "<init>", "()V"⟩
abbrev cX3_remember : ByteArray := prog_5_method_2_code
def yX3_remember : MethodName := ⟨RX3, "remember", "(LRefsSettle$Sheet;)V"⟩
abbrev cX3_bringBack : ByteArray := prog_5_method_3_code
def yX3_bringBack : MethodName := ⟨RX3, "bringBack", "(LRefsSettle$Sheet;)V"⟩
abbrev cX3_forget : ByteArray := prog_5_method_4_code
def yX3_forget : MethodName := ⟨RX3, "forget", "()V"⟩
def RX4 : String := "RefsSettle$Reader"
def TX4 : u_T := fun k => match k with
  | 0 => ("RefsSettle$Reader", "tape", "[I", false)
  | 1 => ("RefsSettle$Reader", "length", "I", false)
  | 2 => ("RefsSettle$Reader", "place", "I", false)
  | _ => ("RefsSettle$Reader", "fault", "I", false)
def tyX4 : Nat → FieldType := fun k => match k with
  | 0 => .array .int
  | 1 => .int
  | 2 => .int
  | _ => .int
abbrev wsX40 : List Cond := u_ws RX4 TX4 4
theorem nmX4 : ∀ a, a < 4 → ∀ b, b < 4 → a ≠ b → (TX4 a).2.1 ≠ (TX4 b).2.1 := by decide +kernel
theorem tyX4_ok : ∀ k, k < 4 → parseFieldDescriptor (TX4 k).2.2.1 = some (tyX4 k) := by decide +kernel
abbrev cX4_init : ByteArray := prog_6_method_1_code
def yX4_init : MethodName := ⟨RX4, "<init>", "()V"⟩
abbrev cX4_reads : ByteArray := prog_6_method_2_code
def yX4_reads : MethodName := ⟨RX4, "reads", "([IILRefsSettle$Sheet;)Z"⟩
abbrev cX4_readLaw : ByteArray := prog_6_method_3_code
def yX4_readLaw : MethodName := ⟨RX4, "readLaw", "(LRefsSettle$Sheet;)V"⟩
abbrev cX4_readItem : ByteArray := prog_6_method_4_code
def yX4_readItem : MethodName := ⟨RX4, "readItem", "(LRefsSettle$Sheet;)V"⟩
abbrev cX4_readNumberOf : ByteArray := prog_6_method_5_code
def yX4_readNumberOf : MethodName := ⟨RX4, "readNumberOf", "(I)I"⟩
abbrev cX4_readSign : ByteArray := prog_6_method_6_code
def yX4_readSign : MethodName := ⟨RX4, "readSign", "(C)V"⟩
abbrev cX4_readNumber : ByteArray := prog_6_method_7_code
def yX4_readNumber : MethodName := ⟨RX4, "readNumber", "(II)I"⟩
abbrev cX4_lookAtReferences : ByteArray := prog_6_method_8_code
def yX4_lookAtReferences : MethodName := ⟨RX4, "lookAtReferences", "(LRefsSettle$Sheet;)V"⟩
abbrev cX4_kindOf : ByteArray := prog_6_method_9_code
def yX4_kindOf : MethodName := ⟨RX4, "kindOf", "(I)I"⟩
def RX5 : String := "RefsSettle$Rows"
def TX5 : u_T := fun k => match k with
  | 0 => ("RefsSettle$Rows", "lanes", "[I", true)
  | 1 => ("RefsSettle$Rows", "sizes", "[I", true)
  | _ => ("RefsSettle$Rows", "values", "[[I", true)
def tyX5 : Nat → FieldType := fun k => match k with
  | 0 => .array .int
  | 1 => .array .int
  | _ => .array (.array .int)
abbrev wsX50 : List Cond := u_ws RX5 TX5 3
theorem nmX5 : ∀ a, a < 3 → ∀ b, b < 3 → a ≠ b → (TX5 a).2.1 ≠ (TX5 b).2.1 := by decide +kernel
theorem tyX5_ok : ∀ k, k < 3 → parseFieldDescriptor (TX5 k).2.2.1 = some (tyX5 k) := by decide +kernel
abbrev cX5_init : ByteArray := prog_7_method_1_code
def yX5_init : MethodName := ⟨RX5, "<init>", "()V"⟩
abbrev cX5_isNumber : ByteArray := prog_7_method_2_code
def yX5_isNumber : MethodName := ⟨RX5, "isNumber", "(I)Z"⟩
abbrev cX5_isLane : ByteArray := prog_7_method_3_code
def yX5_isLane : MethodName := ⟨RX5, "isLane", "(I)Z"⟩
abbrev cX5_isMissing : ByteArray := prog_7_method_4_code
def yX5_isMissing : MethodName := ⟨RX5, "isMissing", "(I)Z"⟩
abbrev cX5_areOfOneLane : ByteArray := prog_7_method_5_code
def yX5_areOfOneLane : MethodName := ⟨RX5, "areOfOneLane", "(II)Z"⟩
abbrev cX5_hasPlaces : ByteArray := prog_7_method_6_code
def yX5_hasPlaces : MethodName := ⟨RX5, "hasPlaces", "(III)Z"⟩
abbrev cX5_make : ByteArray := prog_7_method_7_code
def yX5_make : MethodName := ⟨RX5, "make", "(III)V"⟩
abbrev cX5_put : ByteArray := prog_7_method_8_code
def yX5_put : MethodName := ⟨RX5, "put", "(III)I"⟩
abbrev cX5_carry : ByteArray := prog_7_method_9_code
def yX5_carry : MethodName := ⟨RX5, "carry", "(IIIII)V"⟩
abbrev cX5_lose : ByteArray := prog_7_method_10_code
def yX5_lose : MethodName := ⟨RX5, "lose", "(I)I"⟩
abbrev cX5_present : ByteArray := prog_7_method_11_code
def yX5_present : MethodName := ⟨RX5, "present", "()I"⟩
def RX6 : String := "RefsSettle$Settling"
def TX6 : u_T := fun k => match k with
  | 0 => ("RefsSettle$Settling", "outline", "LRefsSettle$Outline;", true)
  | 1 => ("RefsSettle$Settling", "ahead", "[[I", true)
  | 2 => ("RefsSettle$Settling", "kept", "I", false)
  | 3 => ("RefsSettle$Settling", "rounds", "I", false)
  | 4 => ("RefsSettle$Settling", "freezes", "I", false)
  | 5 => ("RefsSettle$Settling", "firstRing", "I", false)
  | _ => ("RefsSettle$Settling", "atRest", "Z", false)
def tyX6 : Nat → FieldType := fun k => match k with
  | 0 => .object "RefsSettle$Outline"
  | 1 => .array (.array .int)
  | 2 => .int
  | 3 => .int
  | 4 => .int
  | 5 => .int
  | _ => .boolean
abbrev wsX60 : List Cond := u_ws RX6 TX6 7
theorem nmX6 : ∀ a, a < 7 → ∀ b, b < 7 → a ≠ b → (TX6 a).2.1 ≠ (TX6 b).2.1 := by decide +kernel
theorem tyX6_ok : ∀ k, k < 7 → parseFieldDescriptor (TX6 k).2.2.1 = some (tyX6 k) := by decide +kernel
abbrev cX6_init : ByteArray := prog_8_method_1_code
def yX6_init : MethodName := ⟨RX6, "<init>", "()V"⟩
abbrev cX6_outlined : ByteArray := prog_8_method_2_code
def yX6_outlined : MethodName := ⟨RX6, "outlined", "(LRefsSettle$Sheet;)LRefsSettle$Outline;"⟩
abbrev cX6_goRound : ByteArray := prog_8_method_3_code
def yX6_goRound : MethodName := ⟨RX6, "goRound", "(LRefsSettle$Sheet;)I"⟩
abbrev cX6_bringToRest : ByteArray := prog_8_method_4_code
def yX6_bringToRest : MethodName := ⟨RX6, "bringToRest", "(LRefsSettle$Sheet;Z)V"⟩
abbrev cX6_keep : ByteArray := prog_8_method_5_code
def yX6_keep : MethodName := ⟨RX6, "keep", "(LRefsSettle$Sheet;)V"⟩
abbrev cX6_ringSince : ByteArray := prog_8_method_6_code
def yX6_ringSince : MethodName := ⟨RX6, "ringSince", "(LRefsSettle$Sheet;)I"⟩
abbrev cX6_freezeSince : ByteArray := prog_8_method_7_code
def yX6_freezeSince : MethodName := ⟨RX6, "freezeSince", "(LRefsSettle$Sheet;I)V"⟩
abbrev cX6_freezeIfRestless : ByteArray := prog_8_method_8_code
def yX6_freezeIfRestless : MethodName := ⟨RX6, "freezeIfRestless", "(LRefsSettle$Sheet;II)V"⟩
abbrev cX6_isAtRest : ByteArray := prog_8_method_9_code
def yX6_isAtRest : MethodName := ⟨RX6, "isAtRest", "(LRefsSettle$Sheet;)Z"⟩
abbrev cX6_areSame : ByteArray := prog_8_method_10_code
def yX6_areSame : MethodName := ⟨RX6, "areSame", "(LRefsSettle$Sheet;[I)Z"⟩
def RX7 : String := "RefsSettle$Sheet"
def TX7 : u_T := fun k => match k with
  | 0 => ("RefsSettle$Sheet", "count", "I", false)
  | 1 => ("RefsSettle$Sheet", "width", "I", false)
  | 2 => ("RefsSettle$Sheet", "lines", "I", false)
  | 3 => ("RefsSettle$Sheet", "first", "I", false)
  | 4 => ("RefsSettle$Sheet", "rounds", "I", false)
  | 5 => ("RefsSettle$Sheet", "kinds", "[I", true)
  | 6 => ("RefsSettle$Sheet", "numbers", "[I", true)
  | 7 => ("RefsSettle$Sheet", "guesses", "[I", true)
  | _ => ("RefsSettle$Sheet", "frozen", "[I", true)
def tyX7 : Nat → FieldType := fun k => match k with
  | 0 => .int
  | 1 => .int
  | 2 => .int
  | 3 => .int
  | 4 => .int
  | 5 => .array .int
  | 6 => .array .int
  | 7 => .array .int
  | _ => .array .int
abbrev wsX70 : List Cond := u_ws RX7 TX7 9
theorem nmX7 : ∀ a, a < 9 → ∀ b, b < 9 → a ≠ b → (TX7 a).2.1 ≠ (TX7 b).2.1 := by decide +kernel
theorem tyX7_ok : ∀ k, k < 9 → parseFieldDescriptor (TX7 k).2.2.1 = some (tyX7 k) := by decide +kernel
abbrev cX7_init : ByteArray := prog_9_method_1_code
def yX7_init : MethodName := ⟨RX7, "<init>", "()V"⟩
abbrev cX7_takeFrom : ByteArray := prog_9_method_2_code
def yX7_takeFrom : MethodName := ⟨RX7, "takeFrom", "(LRefsSettle$Sheet;)V"⟩
abbrev cX7_beginAnew : ByteArray := prog_9_method_3_code
def yX7_beginAnew : MethodName := ⟨RX7, "beginAnew", "()V"⟩
abbrev cX7_holds : ByteArray := prog_9_method_4_code
def yX7_holds : MethodName := ⟨RX7, "holds", "(I)Z"⟩
abbrev cX7_isReference : ByteArray := prog_9_method_5_code
def yX7_isReference : MethodName := ⟨RX7, "isReference", "(I)Z"⟩
abbrev cX7_isOfKind : ByteArray := prog_9_method_6_code
def yX7_isOfKind : MethodName := ⟨RX7, "isOfKind", "(II)Z"⟩
abbrev cX7_mayBeNumber : ByteArray := prog_9_method_7_code
def yX7_mayBeNumber : MethodName := ⟨RX7, "mayBeNumber", "(II)Z"⟩
abbrev cX7_wideBy : ByteArray := prog_9_method_8_code
def yX7_wideBy : MethodName := ⟨RX7, "wideBy", "([II)I"⟩
abbrev cX7_signOf : ByteArray := prog_9_method_9_code
def yX7_signOf : MethodName := ⟨RX7, "signOf", "(II)I"⟩
abbrev cX7_frozenBits : ByteArray := prog_9_method_10_code
def yX7_frozenBits : MethodName := ⟨RX7, "frozenBits", "()I"⟩
abbrev cX7_lastGuess : ByteArray := prog_9_method_11_code
def yX7_lastGuess : MethodName := ⟨RX7, "lastGuess", "()I"⟩
abbrev cX7_signsOf : ByteArray := prog_9_method_12_code
def yX7_signsOf : MethodName := ⟨RX7, "signsOf", "(II)I"⟩
abbrev cX7_appendRoman : ByteArray := prog_9_method_13_code
def yX7_appendRoman : MethodName := ⟨RX7, "appendRoman", "(Ljava/lang/StringBuilder;ICCC)V"⟩
def RX8 : String := "RefsSettle"
def TX8 : u_T := fun k => match k with
  | 0 => ("RefsSettle", "rows", "LRefsSettle$Rows;", true)
  | 1 => ("RefsSettle", "tape", "[I", true)
  | 2 => ("RefsSettle", "bytes", "I", false)
  | 3 => ("RefsSettle", "reader", "LRefsSettle$Reader;", true)
  | 4 => ("RefsSettle", "live", "LRefsSettle$Sheet;", true)
  | 5 => ("RefsSettle", "trial", "LRefsSettle$Sheet;", true)
  | 6 => ("RefsSettle", "settling", "LRefsSettle$Settling;", true)
  | 7 => ("RefsSettle", "foretelling", "LRefsSettle$Foretelling;", true)
  | 8 => ("RefsSettle", "past", "LRefsSettle$Past;", true)
  | 9 => ("RefsSettle", "images", "[LRefsSettle$Sheet;", true)
  | 10 => ("RefsSettle", "asking", "LRefsSettle$Asking;", true)
  | 11 => ("RefsSettle", "latestFault", "I", false)
  | _ => ("RefsSettle", "finding", "I", false)
def tyX8 : Nat → FieldType := fun k => match k with
  | 0 => .object "RefsSettle$Rows"
  | 1 => .array .int
  | 2 => .int
  | 3 => .object "RefsSettle$Reader"
  | 4 => .object "RefsSettle$Sheet"
  | 5 => .object "RefsSettle$Sheet"
  | 6 => .object "RefsSettle$Settling"
  | 7 => .object "RefsSettle$Foretelling"
  | 8 => .object "RefsSettle$Past"
  | 9 => .array (.object "RefsSettle$Sheet")
  | 10 => .object "RefsSettle$Asking"
  | 11 => .int
  | _ => .int
abbrev wsX80 : List Cond := u_ws RX8 TX8 13
theorem nmX8 : ∀ a, a < 13 → ∀ b, b < 13 → a ≠ b → (TX8 a).2.1 ≠ (TX8 b).2.1 := by decide +kernel
theorem tyX8_ok : ∀ k, k < 13 → parseFieldDescriptor (TX8 k).2.2.1 = some (tyX8 k) := by decide +kernel
abbrev cX8_init : ByteArray := prog_1_method_1_code
def yX8_init : MethodName := ⟨RX8, "<init>", "()V"⟩
abbrev cX8_row : ByteArray := prog_1_method_2_code
def yX8_row : MethodName := ⟨RX8, "row", "(III)I"⟩
abbrev cX8_set : ByteArray := prog_1_method_3_code
def yX8_set : MethodName := ⟨RX8, "set", "(III)I"⟩
abbrev cX8_copy : ByteArray := prog_1_method_4_code
def yX8_copy : MethodName := ⟨RX8, "copy", "(IIIII)I"⟩
abbrev cX8_drop : ByteArray := prog_1_method_5_code
def yX8_drop : MethodName := ⟨RX8, "drop", "(I)I"⟩
abbrev cX8_feed : ByteArray := prog_1_method_6_code
def yX8_feed : MethodName := ⟨RX8, "feed", "(I)I"⟩
abbrev cX8_sheet : ByteArray := prog_1_method_7_code
def yX8_sheet : MethodName := ⟨RX8, "sheet", "()I"⟩
abbrev cX8_fault : ByteArray := prog_1_method_8_code
def yX8_fault : MethodName := ⟨RX8, "fault", "()I"⟩
abbrev cX8_round : ByteArray := prog_1_method_9_code
def yX8_round : MethodName := ⟨RX8, "round", "()I"⟩
abbrev cX8_settle : ByteArray := prog_1_method_10_code
def yX8_settle : MethodName := ⟨RX8, "settle", "()I"⟩
abbrev cX8_number : ByteArray := prog_1_method_11_code
def yX8_number : MethodName := ⟨RX8, "number", "(II)I"⟩
abbrev cX8_rule : ByteArray := prog_1_method_12_code
def yX8_rule : MethodName := ⟨RX8, "rule", "(II)I"⟩
abbrev cX8_anew : ByteArray := prog_1_method_13_code
def yX8_anew : MethodName := ⟨RX8, "anew", "()I"⟩
abbrev cX8_undo : ByteArray := prog_1_method_14_code
def yX8_undo : MethodName := ⟨RX8, "undo", "()I"⟩
abbrev cX8_item : ByteArray := prog_1_method_15_code
def yX8_item : MethodName := ⟨RX8, "item", "(II)I"⟩
abbrev cX8_print : ByteArray := prog_1_method_16_code
def yX8_print : MethodName := ⟨RX8, "print", "(II)I"⟩
abbrev cX8_behind : ByteArray := prog_1_method_17_code
def yX8_behind : MethodName := ⟨RX8, "behind", "(II)I"⟩
abbrev cX8_lies : ByteArray := prog_1_method_18_code
def yX8_lies : MethodName := ⟨RX8, "lies", "()I"⟩
abbrev cX8_settled : ByteArray := prog_1_method_19_code
def yX8_settled : MethodName := ⟨RX8, "settled", "(I)I"⟩
abbrev cX8_ends : ByteArray := prog_1_method_20_code
def yX8_ends : MethodName := ⟨RX8, "ends", "(I)I"⟩
abbrev cX8_moves : ByteArray := prog_1_method_21_code
def yX8_moves : MethodName := ⟨RX8, "moves", "(I)I"⟩
abbrev cX8_room : ByteArray := prog_1_method_22_code
def yX8_room : MethodName := ⟨RX8, "room", "(I)I"⟩
abbrev cX8_restless : ByteArray := prog_1_method_23_code
def yX8_restless : MethodName := ⟨RX8, "restless", "()I"⟩
abbrev cX8_fits : ByteArray := prog_1_method_24_code
def yX8_fits : MethodName := ⟨RX8, "fits", "(IIIII)I"⟩
abbrev cX8_chance : ByteArray := prog_1_method_25_code
def yX8_chance : MethodName := ⟨RX8, "chance", "(II)J"⟩
abbrev cX8_drawn : ByteArray := prog_1_method_26_code
def yX8_drawn : MethodName := ⟨RX8, "drawn", "(III)I"⟩
abbrev cX8_image : ByteArray := prog_1_method_27_code
def yX8_image : MethodName := ⟨RX8, "image", "(I)I"⟩
abbrev cX8_restore : ByteArray := prog_1_method_28_code
def yX8_restore : MethodName := ⟨RX8, "restore", "(I)I"⟩
abbrev cX8_kind : ByteArray := prog_1_method_29_code
def yX8_kind : MethodName := ⟨RX8, "kind", "(I)I"⟩
abbrev cX8_as : ByteArray := prog_1_method_30_code
def yX8_as : MethodName := ⟨RX8, "as", "(II)I"⟩
abbrev cX8_ask : ByteArray := prog_1_method_31_code
def yX8_ask : MethodName := ⟨RX8, "ask", "(II)I"⟩
abbrev cX8_trace : ByteArray := prog_1_method_32_code
def yX8_trace : MethodName := ⟨RX8, "trace", "(I)I"⟩
abbrev cX8_count : ByteArray := prog_1_method_33_code
def yX8_count : MethodName := ⟨RX8, "count", "(I)I"⟩
abbrev cX8_status : ByteArray := prog_1_method_34_code
def yX8_status : MethodName := ⟨RX8, "status", "()I"⟩
abbrev cX8_isWithoutSheet : ByteArray := prog_1_method_35_code
def yX8_isWithoutSheet : MethodName := ⟨RX8, "isWithoutSheet", "()Z"⟩
abbrev cX8_found : ByteArray := prog_1_method_36_code
def yX8_found : MethodName := ⟨RX8, "found", "(I)I"⟩
abbrev cX8_sound : ByteArray := prog_1_method_37_code
def yX8_sound : MethodName := ⟨RX8, "sound", "(I)I"⟩
abbrev cX8_changeWidth : ByteArray := prog_1_method_38_code
def yX8_changeWidth : MethodName := ⟨RX8, "changeWidth", "(I)I"⟩
abbrev cX8_changeLines : ByteArray := prog_1_method_39_code
def yX8_changeLines : MethodName := ⟨RX8, "changeLines", "(I)I"⟩
abbrev cX8_changeFirst : ByteArray := prog_1_method_40_code
def yX8_changeFirst : MethodName := ⟨RX8, "changeFirst", "(I)I"⟩
abbrev cX8_greatestCommon : ByteArray := prog_1_method_41_code
def yX8_greatestCommon : MethodName := ⟨RX8, "greatestCommon", "(JJ)J"⟩
def RX9 : String := "RefsSettleModel"
def TX9 : u_T := fun k => match k with
  | 0 => ("RefsSettleModel", "lane", "[I", true)
  | 1 => ("RefsSettleModel", "many", "[I", true)
  | 2 => ("RefsSettleModel", "items", "[I", true)
  | 3 => ("RefsSettleModel", "spare", "[I", true)
  | 4 => ("RefsSettleModel", "status", "I", false)
  | 5 => ("RefsSettleModel", "tape", "[I", true)
  | 6 => ("RefsSettleModel", "taped", "I", false)
  | 7 => ("RefsSettleModel", "faultKind", "I", false)
  | 8 => ("RefsSettleModel", "faultPlace", "I", false)
  | 9 => ("RefsSettleModel", "at", "I", false)
  | 10 => ("RefsSettleModel", "start", "I", false)
  | 11 => ("RefsSettleModel", "token", "I", false)
  | 12 => ("RefsSettleModel", "value", "I", false)
  | 13 => ("RefsSettleModel", "now", "[I", true)
  | 14 => ("RefsSettleModel", "draft", "[I", true)
  | 15 => ("RefsSettleModel", "tried", "[I", true)
  | 16 => ("RefsSettleModel", "past", "[I", true)
  | 17 => ("RefsSettleModel", "acts", "I", false)
  | 18 => ("RefsSettleModel", "images", "[I", true)
  | 19 => ("RefsSettleModel", "kept", "[Z", true)
  | 20 => ("RefsSettleModel", "places", "[I", true)
  | 21 => ("RefsSettleModel", "before", "[I", true)
  | 22 => ("RefsSettleModel", "guesses", "[I", true)
  | 23 => ("RefsSettleModel", "rounds", "I", false)
  | 24 => ("RefsSettleModel", "freezes", "I", false)
  | 25 => ("RefsSettleModel", "ring", "I", false)
  | 26 => ("RefsSettleModel", "trace", "[I", true)
  | _ => ("RefsSettleModel", "traced", "I", false)
def tyX9 : Nat → FieldType := fun k => match k with
  | 0 => .array .int
  | 1 => .array .int
  | 2 => .array .int
  | 3 => .array .int
  | 4 => .int
  | 5 => .array .int
  | 6 => .int
  | 7 => .int
  | 8 => .int
  | 9 => .int
  | 10 => .int
  | 11 => .int
  | 12 => .int
  | 13 => .array .int
  | 14 => .array .int
  | 15 => .array .int
  | 16 => .array .int
  | 17 => .int
  | 18 => .array .int
  | 19 => .array .boolean
  | 20 => .array .int
  | 21 => .array .int
  | 22 => .array .int
  | 23 => .int
  | 24 => .int
  | 25 => .int
  | 26 => .array .int
  | _ => .int
abbrev wsX90 : List Cond := u_ws RX9 TX9 28
theorem nmX9 : ∀ a, a < 28 → ∀ b, b < 28 → a ≠ b → (TX9 a).2.1 ≠ (TX9 b).2.1 := by decide +kernel
theorem tyX9_ok : ∀ k, k < 28 → parseFieldDescriptor (TX9 k).2.2.1 = some (tyX9 k) := by decide +kernel
abbrev cX9_init : ByteArray := prog_11_method_1_code
def yX9_init : MethodName := ⟨RX9, "<init>", "()V"⟩
abbrev cX9_in : ByteArray := prog_11_method_3_code
def yX9_in : MethodName := ⟨RX9, "in", "(III)Z"⟩
abbrev cX9_has : ByteArray := prog_11_method_4_code
def yX9_has : MethodName := ⟨RX9, "has", "(II)Z"⟩
abbrev cX9_found : ByteArray := prog_11_method_5_code
def yX9_found : MethodName := ⟨RX9, "found", "(I)I"⟩
abbrev cX9_well : ByteArray := prog_11_method_6_code
def yX9_well : MethodName := ⟨RX9, "well", "(I)I"⟩
abbrev cX9_copies : ByteArray := prog_11_method_7_code
def yX9_copies : MethodName := ⟨RX9, "copies", "([II[II)V"⟩
abbrev cX9_isRow : ByteArray := prog_11_method_8_code
def yX9_isRow : MethodName := ⟨RX9, "isRow", "(I)Z"⟩
abbrev cX9_isMissing : ByteArray := prog_11_method_9_code
def yX9_isMissing : MethodName := ⟨RX9, "isMissing", "(I)Z"⟩
abbrev cX9_lowest : ByteArray := prog_11_method_10_code
def yX9_lowest : MethodName := ⟨RX9, "lowest", "(II)I"⟩
abbrev cX9_row : ByteArray := prog_11_method_11_code
def yX9_row : MethodName := ⟨RX9, "row", "(III)I"⟩
abbrev cX9_set : ByteArray := prog_11_method_12_code
def yX9_set : MethodName := ⟨RX9, "set", "(III)I"⟩
abbrev cX9_isPart : ByteArray := prog_11_method_13_code
def yX9_isPart : MethodName := ⟨RX9, "isPart", "(III)Z"⟩
abbrev cX9_copy : ByteArray := prog_11_method_14_code
def yX9_copy : MethodName := ⟨RX9, "copy", "(IIIII)I"⟩
abbrev cX9_drop : ByteArray := prog_11_method_15_code
def yX9_drop : MethodName := ⟨RX9, "drop", "(I)I"⟩
abbrev cX9_feed : ByteArray := prog_11_method_16_code
def yX9_feed : MethodName := ⟨RX9, "feed", "(I)I"⟩
abbrev cX9_byteAt : ByteArray := prog_11_method_17_code
def yX9_byteAt : MethodName := ⟨RX9, "byteAt", "(I)I"⟩
abbrev cX9_advances : ByteArray := prog_11_method_18_code
def yX9_advances : MethodName := ⟨RX9, "advances", "()V"⟩
abbrev cX9_isWell : ByteArray := prog_11_method_19_code
def yX9_isWell : MethodName := ⟨RX9, "isWell", "()Z"⟩
abbrev cX9_takes : ByteArray := prog_11_method_20_code
def yX9_takes : MethodName := ⟨RX9, "takes", "(ZI)I"⟩
abbrev cX9_figure : ByteArray := prog_11_method_21_code
def yX9_figure : MethodName := ⟨RX9, "figure", "(II)I"⟩
abbrev cX9_kindOf : ByteArray := prog_11_method_22_code
def yX9_kindOf : MethodName := ⟨RX9, "kindOf", "(I)I"⟩
abbrev cX9_follows : ByteArray := prog_11_method_23_code
def yX9_follows : MethodName := ⟨RX9, "follows", "(II)I"⟩
abbrev cX9_must : ByteArray := prog_11_method_24_code
def yX9_must : MethodName := ⟨RX9, "must", "(ZI)V"⟩
abbrev cX9_readsItem : ByteArray := prog_11_method_25_code
def yX9_readsItem : MethodName := ⟨RX9, "readsItem", "()V"⟩
abbrev cX9_areThere : ByteArray := prog_11_method_26_code
def yX9_areThere : MethodName := ⟨RX9, "areThere", "([I)Z"⟩
abbrev cX9_sheet : ByteArray := prog_11_method_27_code
def yX9_sheet : MethodName := ⟨RX9, "sheet", "()I"⟩
abbrev cX9_fault : ByteArray := prog_11_method_28_code
def yX9_fault : MethodName := ⟨RX9, "fault", "()I"⟩
abbrev cX9_isSheet : ByteArray := prog_11_method_29_code
def yX9_isSheet : MethodName := ⟨RX9, "isSheet", "()Z"⟩
abbrev cX9_isItem : ByteArray := prog_11_method_30_code
def yX9_isItem : MethodName := ⟨RX9, "isItem", "(I)Z"⟩
abbrev cX9_romanSigns : ByteArray := prog_11_method_31_code
def yX9_romanSigns : MethodName := ⟨RX9, "romanSigns", "(I)I"⟩
abbrev cX9_signs : ByteArray := prog_11_method_32_code
def yX9_signs : MethodName := ⟨RX9, "signs", "(II)I"⟩
abbrev cX9_wide : ByteArray := prog_11_method_33_code
def yX9_wide : MethodName := ⟨RX9, "wide", "([II)I"⟩
abbrev cX9_setsOut : ByteArray := prog_11_method_34_code
def yX9_setsOut : MethodName := ⟨RX9, "setsOut", "([III)V"⟩
abbrev cX9_rounds : ByteArray := prog_11_method_35_code
def yX9_rounds : MethodName := ⟨RX9, "rounds", "([I)I"⟩
abbrev cX9_isSettled : ByteArray := prog_11_method_36_code
def yX9_isSettled : MethodName := ⟨RX9, "isSettled", "([I)Z"⟩
abbrev cX9_begins : ByteArray := prog_11_method_37_code
def yX9_begins : MethodName := ⟨RX9, "begins", "([I)V"⟩
abbrev cX9_keepsGuesses : ByteArray := prog_11_method_38_code
def yX9_keepsGuesses : MethodName := ⟨RX9, "keepsGuesses", "([II)V"⟩
abbrev cX9_areGuesses : ByteArray := prog_11_method_39_code
def yX9_areGuesses : MethodName := ⟨RX9, "areGuesses", "([II)Z"⟩
abbrev cX9_freezes : ByteArray := prog_11_method_40_code
def yX9_freezes : MethodName := ⟨RX9, "freezes", "([III)V"⟩
abbrev cX9_settles : ByteArray := prog_11_method_41_code
def yX9_settles : MethodName := ⟨RX9, "settles", "([I)V"⟩
abbrev cX9_notes : ByteArray := prog_11_method_42_code
def yX9_notes : MethodName := ⟨RX9, "notes", "()V"⟩
abbrev cX9_round : ByteArray := prog_11_method_43_code
def yX9_round : MethodName := ⟨RX9, "round", "()I"⟩
abbrev cX9_settle : ByteArray := prog_11_method_44_code
def yX9_settle : MethodName := ⟨RX9, "settle", "()I"⟩
abbrev cX9_isNumber : ByteArray := prog_11_method_45_code
def yX9_isNumber : MethodName := ⟨RX9, "isNumber", "(II)Z"⟩
abbrev cX9_number : ByteArray := prog_11_method_46_code
def yX9_number : MethodName := ⟨RX9, "number", "(II)I"⟩
abbrev cX9_rule : ByteArray := prog_11_method_47_code
def yX9_rule : MethodName := ⟨RX9, "rule", "(II)I"⟩
abbrev cX9_frozenOnes : ByteArray := prog_11_method_48_code
def yX9_frozenOnes : MethodName := ⟨RX9, "frozenOnes", "([I)I"⟩
abbrev cX9_ones : ByteArray := prog_11_method_49_code
def yX9_ones : MethodName := ⟨RX9, "ones", "(I)I"⟩
abbrev cX9_anew : ByteArray := prog_11_method_50_code
def yX9_anew : MethodName := ⟨RX9, "anew", "()I"⟩
abbrev cX9_undo : ByteArray := prog_11_method_51_code
def yX9_undo : MethodName := ⟨RX9, "undo", "()I"⟩
abbrev cX9_item : ByteArray := prog_11_method_52_code
def yX9_item : MethodName := ⟨RX9, "item", "(II)I"⟩
abbrev cX9_romanSign : ByteArray := prog_11_method_53_code
def yX9_romanSign : MethodName := ⟨RX9, "romanSign", "(IIIII)I"⟩
abbrev cX9_print : ByteArray := prog_11_method_54_code
def yX9_print : MethodName := ⟨RX9, "print", "(II)I"⟩
abbrev cX9_behind : ByteArray := prog_11_method_55_code
def yX9_behind : MethodName := ⟨RX9, "behind", "(II)I"⟩
abbrev cX9_lies : ByteArray := prog_11_method_56_code
def yX9_lies : MethodName := ⟨RX9, "lies", "()I"⟩
abbrev cX9_settled : ByteArray := prog_11_method_57_code
def yX9_settled : MethodName := ⟨RX9, "settled", "(I)I"⟩
abbrev cX9_last : ByteArray := prog_11_method_58_code
def yX9_last : MethodName := ⟨RX9, "last", "([I)I"⟩
abbrev cX9_ends : ByteArray := prog_11_method_59_code
def yX9_ends : MethodName := ⟨RX9, "ends", "(I)I"⟩
abbrev cX9_moves : ByteArray := prog_11_method_60_code
def yX9_moves : MethodName := ⟨RX9, "moves", "(I)I"⟩
abbrev cX9_lastBy : ByteArray := prog_11_method_61_code
def yX9_lastBy : MethodName := ⟨RX9, "lastBy", "(II)I"⟩
abbrev cX9_room : ByteArray := prog_11_method_62_code
def yX9_room : MethodName := ⟨RX9, "room", "(I)I"⟩
abbrev cX9_restless : ByteArray := prog_11_method_63_code
def yX9_restless : MethodName := ⟨RX9, "restless", "()I"⟩
abbrev cX9_isSeen : ByteArray := prog_11_method_64_code
def yX9_isSeen : MethodName := ⟨RX9, "isSeen", "(IIIII)Z"⟩
abbrev cX9_fits : ByteArray := prog_11_method_65_code
def yX9_fits : MethodName := ⟨RX9, "fits", "(IIIII)I"⟩
abbrev cX9_chance : ByteArray := prog_11_method_66_code
def yX9_chance : MethodName := ⟨RX9, "chance", "(II)J"⟩
abbrev cX9_drawn : ByteArray := prog_11_method_67_code
def yX9_drawn : MethodName := ⟨RX9, "drawn", "(III)I"⟩
abbrev cX9_image : ByteArray := prog_11_method_68_code
def yX9_image : MethodName := ⟨RX9, "image", "(I)I"⟩
abbrev cX9_restore : ByteArray := prog_11_method_69_code
def yX9_restore : MethodName := ⟨RX9, "restore", "(I)I"⟩
abbrev cX9_kindIn : ByteArray := prog_11_method_70_code
def yX9_kindIn : MethodName := ⟨RX9, "kindIn", "(I)I"⟩
abbrev cX9_kind : ByteArray := prog_11_method_71_code
def yX9_kind : MethodName := ⟨RX9, "kind", "(I)I"⟩
abbrev cX9_as : ByteArray := prog_11_method_72_code
def yX9_as : MethodName := ⟨RX9, "as", "(II)I"⟩
abbrev cX9_traces : ByteArray := prog_11_method_73_code
def yX9_traces : MethodName := ⟨RX9, "traces", "(I)V"⟩
abbrev cX9_referenceMark : ByteArray := prog_11_method_74_code
def yX9_referenceMark : MethodName := ⟨RX9, "referenceMark", "(I)I"⟩
abbrev cX9_wordSize : ByteArray := prog_11_method_75_code
def yX9_wordSize : MethodName := ⟨RX9, "wordSize", "(I)I"⟩
abbrev cX9_referenceSize : ByteArray := prog_11_method_76_code
def yX9_referenceSize : MethodName := ⟨RX9, "referenceSize", "(I)I"⟩
abbrev cX9_wordMark : ByteArray := prog_11_method_77_code
def yX9_wordMark : MethodName := ⟨RX9, "wordMark", "(I)I"⟩
abbrev cX9_ask : ByteArray := prog_11_method_78_code
def yX9_ask : MethodName := ⟨RX9, "ask", "(II)I"⟩
abbrev cX9_trace : ByteArray := prog_11_method_79_code
def yX9_trace : MethodName := ⟨RX9, "trace", "(I)I"⟩
abbrev cX9_count : ByteArray := prog_11_method_80_code
def yX9_count : MethodName := ⟨RX9, "count", "(I)I"⟩
abbrev cX9_status : ByteArray := prog_11_method_81_code
def yX9_status : MethodName := ⟨RX9, "status", "()I"⟩
def RJx145de : String := "java/io/Serializable"
def TJx145de : u_T := fun k => match k with
  | _ => ("", "", "", false)
def tyJx145de : Nat → FieldType := fun k => match k with
  | _ => .int
abbrev wsJx145de0 : List Cond := u_ws RJx145de TJx145de 0
theorem nmJx145de : ∀ a, a < 0 → ∀ b, b < 0 → a ≠ b → (TJx145de a).2.1 ≠ (TJx145de b).2.1 := by decide +kernel
theorem tyJx145de_ok : ∀ k, k < 0 → parseFieldDescriptor (TJx145de k).2.2.1 = some (tyJx145de k) := by decide +kernel
def RJ5 : String := "java/lang/AbstractStringBuilder"
def TJ5 : u_T := fun k => match k with
  | _ => ("", "", "", false)
def tyJ5 : Nat → FieldType := fun k => match k with
  | _ => .int
abbrev wsJ50 : List Cond := u_ws RJ5 TJ5 0
theorem nmJ5 : ∀ a, a < 0 → ∀ b, b < 0 → a ≠ b → (TJ5 a).2.1 ≠ (TJ5 b).2.1 := by decide +kernel
theorem tyJ5_ok : ∀ k, k < 0 → parseFieldDescriptor (TJ5 k).2.2.1 = some (tyJ5 k) := by decide +kernel
abbrev cJ5_init_d00df : ByteArray := prog_12_method_2_code
def yJ5_init_d00df : MethodName := ⟨RJ5, "<init>", "(I)V"⟩
abbrev cJ5_length_8abf5 : ByteArray := prog_12_method_6_code
def yJ5_length_8abf5 : MethodName := ⟨RJ5, "length", "()I"⟩
abbrev cJ5_ensureCapacityInternal_d00df : ByteArray := prog_12_method_9_code
def yJ5_ensureCapacityInternal_d00df : MethodName := ⟨RJ5, "ensureCapacityInternal", "(I)V"⟩
abbrev cJ5_newCapacity_0f7a4 : ByteArray := prog_12_method_10_code
def yJ5_newCapacity_0f7a4 : MethodName := ⟨RJ5, "newCapacity", "(I)I"⟩
abbrev cJ5_inflate_da8c8 : ByteArray := prog_12_method_11_code
def yJ5_inflate_da8c8 : MethodName := ⟨RJ5, "inflate", "()V"⟩
abbrev cJ5_charAt_5068e : ByteArray := prog_12_method_14_code
def yJ5_charAt_5068e : MethodName := ⟨RJ5, "charAt", "(I)C"⟩
abbrev cJ5_append_3fe6f : ByteArray := prog_12_method_31_code
def yJ5_append_3fe6f : MethodName := ⟨RJ5, "append", "(C)Ljava/lang/AbstractStringBuilder;"⟩
abbrev cJ5_append_c97b9 : ByteArray := prog_12_method_32_code
def yJ5_append_c97b9 : MethodName := ⟨RJ5, "append", "(I)Ljava/lang/AbstractStringBuilder;"⟩
abbrev cJ5_isLatin1_aae02 : ByteArray := prog_12_method_68_code
def yJ5_isLatin1_aae02 : MethodName := ⟨RJ5, "isLatin1", "()Z"⟩
def RJx2cfe8 : String := "java/lang/Appendable"
def TJx2cfe8 : u_T := fun k => match k with
  | _ => ("", "", "", false)
def tyJx2cfe8 : Nat → FieldType := fun k => match k with
  | _ => .int
abbrev wsJx2cfe80 : List Cond := u_ws RJx2cfe8 TJx2cfe8 0
theorem nmJx2cfe8 : ∀ a, a < 0 → ∀ b, b < 0 → a ≠ b → (TJx2cfe8 a).2.1 ≠ (TJx2cfe8 b).2.1 := by decide +kernel
theorem tyJx2cfe8_ok : ∀ k, k < 0 → parseFieldDescriptor (TJx2cfe8 k).2.2.1 = some (tyJx2cfe8 k) := by decide +kernel
def RJx9f9b0 : String := "java/lang/CharSequence"
def TJx9f9b0 : u_T := fun k => match k with
  | _ => ("", "", "", false)
def tyJx9f9b0 : Nat → FieldType := fun k => match k with
  | _ => .int
abbrev wsJx9f9b00 : List Cond := u_ws RJx9f9b0 TJx9f9b0 0
theorem nmJx9f9b0 : ∀ a, a < 0 → ∀ b, b < 0 → a ≠ b → (TJx9f9b0 a).2.1 ≠ (TJx9f9b0 b).2.1 := by decide +kernel
theorem tyJx9f9b0_ok : ∀ k, k < 0 → parseFieldDescriptor (TJx9f9b0 k).2.2.1 = some (tyJx9f9b0 k) := by decide +kernel
def RJx8e188 : String := "java/lang/Cloneable"
def TJx8e188 : u_T := fun k => match k with
  | _ => ("", "", "", false)
def tyJx8e188 : Nat → FieldType := fun k => match k with
  | _ => .int
abbrev wsJx8e1880 : List Cond := u_ws RJx8e188 TJx8e188 0
theorem nmJx8e188 : ∀ a, a < 0 → ∀ b, b < 0 → a ≠ b → (TJx8e188 a).2.1 ≠ (TJx8e188 b).2.1 := by decide +kernel
theorem tyJx8e188_ok : ∀ k, k < 0 → parseFieldDescriptor (TJx8e188 k).2.2.1 = some (tyJx8e188 k) := by decide +kernel
def RJxb160c : String := "java/lang/Comparable"
def TJxb160c : u_T := fun k => match k with
  | _ => ("", "", "", false)
def tyJxb160c : Nat → FieldType := fun k => match k with
  | _ => .int
abbrev wsJxb160c0 : List Cond := u_ws RJxb160c TJxb160c 0
theorem nmJxb160c : ∀ a, a < 0 → ∀ b, b < 0 → a ≠ b → (TJxb160c a).2.1 ≠ (TJxb160c b).2.1 := by decide +kernel
theorem tyJxb160c_ok : ∀ k, k < 0 → parseFieldDescriptor (TJxb160c k).2.2.1 = some (tyJxb160c k) := by decide +kernel
def RJ6 : String := "java/lang/Integer"
def TJ6 : u_T := fun k => match k with
  | _ => ("", "", "", false)
def tyJ6 : Nat → FieldType := fun k => match k with
  | _ => .int
abbrev wsJ60 : List Cond := u_ws RJ6 TJ6 0
theorem nmJ6 : ∀ a, a < 0 → ∀ b, b < 0 → a ≠ b → (TJ6 a).2.1 ≠ (TJ6 b).2.1 := by decide +kernel
theorem tyJ6_ok : ∀ k, k < 0 → parseFieldDescriptor (TJ6 k).2.2.1 = some (tyJ6 k) := by decide +kernel
abbrev cJ6_getChars_ba4f3 : ByteArray := prog_14_method_12_code
def yJ6_getChars_ba4f3 : MethodName := ⟨RJ6, "getChars", "(II[B)I"⟩
abbrev cJ6_stringSize_0f7a4 : ByteArray := prog_14_method_13_code
def yJ6_stringSize_0f7a4 : MethodName := ⟨RJ6, "stringSize", "(I)I"⟩
abbrev cJ6_bitCount_0f7a4 : ByteArray := prog_14_method_49_code
def yJ6_bitCount_0f7a4 : MethodName := ⟨RJ6, "bitCount", "(I)I"⟩
def RJ9 : String := "java/lang/Math"
def TJ9 : u_T := fun k => match k with
  | _ => ("", "", "", false)
def tyJ9 : Nat → FieldType := fun k => match k with
  | _ => .int
abbrev wsJ90 : List Cond := u_ws RJ9 TJ9 0
theorem nmJ9 : ∀ a, a < 0 → ∀ b, b < 0 → a ≠ b → (TJ9 a).2.1 ≠ (TJ9 b).2.1 := by decide +kernel
theorem tyJ9_ok : ∀ k, k < 0 → parseFieldDescriptor (TJ9 k).2.2.1 = some (tyJ9 k) := by decide +kernel
abbrev cJ9_max_7cf53 : ByteArray := prog_15_method_65_code
def yJ9_max_7cf53 : MethodName := ⟨RJ9, "max", "(II)I"⟩
abbrev cJ9_min_7cf53 : ByteArray := prog_15_method_69_code
def yJ9_min_7cf53 : MethodName := ⟨RJ9, "min", "(II)I"⟩
def RJxd2413 : String := "java/lang/Number"
def TJxd2413 : u_T := fun k => match k with
  | _ => ("", "", "", false)
def tyJxd2413 : Nat → FieldType := fun k => match k with
  | _ => .int
abbrev wsJxd24130 : List Cond := u_ws RJxd2413 TJxd2413 0
theorem nmJxd2413 : ∀ a, a < 0 → ∀ b, b < 0 → a ≠ b → (TJxd2413 a).2.1 ≠ (TJxd2413 b).2.1 := by decide +kernel
theorem tyJxd2413_ok : ∀ k, k < 0 → parseFieldDescriptor (TJxd2413 k).2.2.1 = some (tyJxd2413 k) := by decide +kernel
def RJ0 : String := "java/lang/String"
def TJ0 : u_T := fun k => match k with
  | _ => ("", "", "", false)
def tyJ0 : Nat → FieldType := fun k => match k with
  | _ => .int
abbrev wsJ00 : List Cond := u_ws RJ0 TJ0 0
theorem nmJ0 : ∀ a, a < 0 → ∀ b, b < 0 → a ≠ b → (TJ0 a).2.1 ≠ (TJ0 b).2.1 := by decide +kernel
theorem tyJ0_ok : ∀ k, k < 0 → parseFieldDescriptor (TJ0 k).2.2.1 = some (tyJ0 k) := by decide +kernel
abbrev cJ0_checkIndex_df160 : ByteArray := prog_17_method_155_code
def yJ0_checkIndex_df160 : MethodName := ⟨RJ0, "checkIndex", "(II)V"⟩
abbrev cJ0_checkBoundsOffCount_cabcc : ByteArray := prog_17_method_157_code
def yJ0_checkBoundsOffCount_cabcc : MethodName := ⟨RJ0, "checkBoundsOffCount", "(III)I"⟩
abbrev cJ0_checkBoundsBeginEnd_23922 : ByteArray := prog_17_method_158_code
def yJ0_checkBoundsBeginEnd_23922 : MethodName := ⟨RJ0, "checkBoundsBeginEnd", "(III)V"⟩
def RJ4 : String := "java/lang/StringBuilder"
def TJ4 : u_T := fun k => match k with
  | 0 => ("java/lang/AbstractStringBuilder", "value", "[B", false)
  | 1 => ("java/lang/AbstractStringBuilder", "coder", "B", false)
  | 2 => ("java/lang/AbstractStringBuilder", "maybeLatin1", "Z", false)
  | _ => ("java/lang/AbstractStringBuilder", "count", "I", false)
def tyJ4 : Nat → FieldType := fun k => match k with
  | 0 => .array .byte
  | 1 => .byte
  | 2 => .boolean
  | _ => .int
abbrev wsJ40 : List Cond := u_ws RJ4 TJ4 4
theorem nmJ4 : ∀ a, a < 4 → ∀ b, b < 4 → a ≠ b → (TJ4 a).2.1 ≠ (TJ4 b).2.1 := by decide +kernel
theorem tyJ4_ok : ∀ k, k < 4 → parseFieldDescriptor (TJ4 k).2.2.1 = some (tyJ4 k) := by decide +kernel
abbrev cJ4_init_da8c8 : ByteArray := prog_18_method_1_code
def yJ4_init_da8c8 : MethodName := ⟨RJ4, "<init>", "()V"⟩
abbrev cJ4_append_cf468 : ByteArray := prog_18_method_14_code
def yJ4_append_cf468 : MethodName := ⟨RJ4, "append", "(C)Ljava/lang/StringBuilder;"⟩
abbrev cJ4_append_bf812 : ByteArray := prog_18_method_15_code
def yJ4_append_bf812 : MethodName := ⟨RJ4, "append", "(I)Ljava/lang/StringBuilder;"⟩
abbrev cJ4_charAt_5068e : ByteArray := prog_18_method_88_code
def yJ4_charAt_5068e : MethodName := ⟨RJ4, "charAt", "(I)C"⟩
abbrev cJ4_length_8abf5 : ByteArray := prog_18_method_93_code
def yJ4_length_8abf5 : MethodName := ⟨RJ4, "length", "()I"⟩
def RJ1 : String := "java/lang/StringLatin1"
def TJ1 : u_T := fun k => match k with
  | _ => ("", "", "", false)
def tyJ1 : Nat → FieldType := fun k => match k with
  | _ => .int
abbrev wsJ10 : List Cond := u_ws RJ1 TJ1 0
theorem nmJ1 : ∀ a, a < 0 → ∀ b, b < 0 → a ≠ b → (TJ1 a).2.1 ≠ (TJ1 b).2.1 := by decide +kernel
theorem tyJ1_ok : ∀ k, k < 0 → parseFieldDescriptor (TJ1 k).2.2.1 = some (tyJ1 k) := by decide +kernel
abbrev cJ1_canEncode_fc78d : ByteArray := prog_19_method_3_code
def yJ1_canEncode_fc78d : MethodName := ⟨RJ1, "canEncode", "(C)Z"⟩
abbrev cJ1_inflate_0e8fd : ByteArray := prog_19_method_50_code
def yJ1_inflate_0e8fd : MethodName := ⟨RJ1, "inflate", "([BI[BII)V"⟩
def RJ2 : String := "java/lang/StringUTF16"
def TJ2 : u_T := fun k => match k with
  | _ => ("", "", "", false)
def tyJ2 : Nat → FieldType := fun k => match k with
  | _ => .int
abbrev wsJ20 : List Cond := u_ws RJ2 TJ2 0
theorem nmJ2 : ∀ a, a < 0 → ∀ b, b < 0 → a ≠ b → (TJ2 a).2.1 ≠ (TJ2 b).2.1 := by decide +kernel
theorem tyJ2_ok : ∀ k, k < 0 → parseFieldDescriptor (TJ2 k).2.2.1 = some (tyJ2 k) := by decide +kernel
abbrev cJ2_newBytesFor_77867 : ByteArray := prog_20_method_2_code
def yJ2_newBytesFor_77867 : MethodName := ⟨RJ2, "newBytesFor", "(I)[B"⟩
abbrev cJ2_newBytesLength_0f7a4 : ByteArray := prog_20_method_3_code
def yJ2_newBytesLength_0f7a4 : MethodName := ⟨RJ2, "newBytesLength", "(I)I"⟩
abbrev cJ2_putChar_b72d1 : ByteArray := prog_20_method_4_code
def yJ2_putChar_b72d1 : MethodName := ⟨RJ2, "putChar", "([BII)V"⟩
abbrev cJ2_getChar_3b067 : ByteArray := prog_20_method_5_code
def yJ2_getChar_3b067 : MethodName := ⟨RJ2, "getChar", "([BI)C"⟩
abbrev cJ2_length_9d52b : ByteArray := prog_20_method_6_code
def yJ2_length_9d52b : MethodName := ⟨RJ2, "length", "([B)I"⟩
abbrev cJ2_putCharSB_b72d1 : ByteArray := prog_20_method_71_code
def yJ2_putCharSB_b72d1 : MethodName := ⟨RJ2, "putCharSB", "([BII)V"⟩
abbrev cJ2_getChars_46870 : ByteArray := prog_20_method_77_code
def yJ2_getChars_46870 : MethodName := ⟨RJ2, "getChars", "(III[B)I"⟩
abbrev cJ2_inflate_0e8fd : ByteArray := prog_20_method_86_code
def yJ2_inflate_0e8fd : MethodName := ⟨RJ2, "inflate", "([BI[BII)V"⟩
abbrev cJ2_getChars_ba4f3 : ByteArray := prog_20_method_89_code
def yJ2_getChars_ba4f3 : MethodName := ⟨RJ2, "getChars", "(II[B)I"⟩
abbrev cJ2_checkIndex_2214a : ByteArray := prog_20_method_91_code
def yJ2_checkIndex_2214a : MethodName := ⟨RJ2, "checkIndex", "(I[B)V"⟩
abbrev cJ2_checkBoundsBeginEnd_d044e : ByteArray := prog_20_method_93_code
def yJ2_checkBoundsBeginEnd_d044e : MethodName := ⟨RJ2, "checkBoundsBeginEnd", "(II[B)V"⟩
abbrev cJ2_checkBoundsOffCount_d044e : ByteArray := prog_20_method_94_code
def yJ2_checkBoundsOffCount_d044e : MethodName := ⟨RJ2, "checkBoundsOffCount", "(II[B)V"⟩
def RJ10 : String := "java/lang/System"
def TJ10 : u_T := fun k => match k with
  | _ => ("", "", "", false)
def tyJ10 : Nat → FieldType := fun k => match k with
  | _ => .int
abbrev wsJ100 : List Cond := u_ws RJ10 TJ10 0
theorem nmJ10 : ∀ a, a < 0 → ∀ b, b < 0 → a ≠ b → (TJ10 a).2.1 ≠ (TJ10 b).2.1 := by decide +kernel
theorem tyJ10_ok : ∀ k, k < 0 → parseFieldDescriptor (TJ10 k).2.2.1 = some (tyJ10 k) := by decide +kernel
def RJxfd54e : String := "java/lang/constant/Constable"
def TJxfd54e : u_T := fun k => match k with
  | _ => ("", "", "", false)
def tyJxfd54e : Nat → FieldType := fun k => match k with
  | _ => .int
abbrev wsJxfd54e0 : List Cond := u_ws RJxfd54e TJxfd54e 0
theorem nmJxfd54e : ∀ a, a < 0 → ∀ b, b < 0 → a ≠ b → (TJxfd54e a).2.1 ≠ (TJxfd54e b).2.1 := by decide +kernel
theorem tyJxfd54e_ok : ∀ k, k < 0 → parseFieldDescriptor (TJxfd54e k).2.2.1 = some (tyJxfd54e k) := by decide +kernel
def RJx3cf43 : String := "java/lang/constant/ConstantDesc"
def TJx3cf43 : u_T := fun k => match k with
  | _ => ("", "", "", false)
def tyJx3cf43 : Nat → FieldType := fun k => match k with
  | _ => .int
abbrev wsJx3cf430 : List Cond := u_ws RJx3cf43 TJx3cf43 0
theorem nmJx3cf43 : ∀ a, a < 0 → ∀ b, b < 0 → a ≠ b → (TJx3cf43 a).2.1 ≠ (TJx3cf43 b).2.1 := by decide +kernel
theorem tyJx3cf43_ok : ∀ k, k < 0 → parseFieldDescriptor (TJx3cf43 k).2.2.1 = some (tyJx3cf43 k) := by decide +kernel
def RJ7 : String := "java/util/Arrays"
def TJ7 : u_T := fun k => match k with
  | _ => ("", "", "", false)
def tyJ7 : Nat → FieldType := fun k => match k with
  | _ => .int
abbrev wsJ70 : List Cond := u_ws RJ7 TJ7 0
theorem nmJ7 : ∀ a, a < 0 → ∀ b, b < 0 → a ≠ b → (TJ7 a).2.1 ≠ (TJ7 b).2.1 := by decide +kernel
theorem tyJ7_ok : ∀ k, k < 0 → parseFieldDescriptor (TJ7 k).2.2.1 = some (tyJ7 k) := by decide +kernel
abbrev cJ7_fill_53178 : ByteArray := prog_22_method_103_code
def yJ7_fill_53178 : MethodName := ⟨RJ7, "fill", "([II)V"⟩
abbrev cJ7_copyOf_9075b : ByteArray := prog_22_method_121_code
def yJ7_copyOf_9075b : MethodName := ⟨RJ7, "copyOf", "([BI)[B"⟩
def RJ8 : String := "jdk/internal/util/ArraysSupport"
def TJ8 : u_T := fun k => match k with
  | _ => ("", "", "", false)
def tyJ8 : Nat → FieldType := fun k => match k with
  | _ => .int
abbrev wsJ80 : List Cond := u_ws RJ8 TJ8 0
theorem nmJ8 : ∀ a, a < 0 → ∀ b, b < 0 → a ≠ b → (TJ8 a).2.1 ≠ (TJ8 b).2.1 := by decide +kernel
theorem tyJ8_ok : ∀ k, k < 0 → parseFieldDescriptor (TJ8 k).2.2.1 = some (tyJ8 k) := by decide +kernel
abbrev cJ8_newLength_cabcc : ByteArray := prog_23_method_27_code
def yJ8_newLength_cabcc : MethodName := ⟨RJ8, "newLength", "(III)I"⟩
abbrev cJ8_hugeLength_7cf53 : ByteArray := prog_23_method_28_code
def yJ8_hugeLength_7cf53 : MethodName := ⟨RJ8, "hugeLength", "(II)I"⟩
def RJ3 : String := "jdk/internal/util/Preconditions"
def TJ3 : u_T := fun k => match k with
  | _ => ("", "", "", false)
def tyJ3 : Nat → FieldType := fun k => match k with
  | _ => .int
abbrev wsJ30 : List Cond := u_ws RJ3 TJ3 0
theorem nmJ3 : ∀ a, a < 0 → ∀ b, b < 0 → a ≠ b → (TJ3 a).2.1 ≠ (TJ3 b).2.1 := by decide +kernel
theorem tyJ3_ok : ∀ k, k < 0 → parseFieldDescriptor (TJ3 k).2.2.1 = some (tyJ3 k) := by decide +kernel
abbrev cJ3_checkIndex_8e157 : ByteArray := prog_24_method_11_code
def yJ3_checkIndex_8e157 : MethodName := ⟨RJ3, "checkIndex", "(IILjava/util/function/BiFunction;)I"⟩
abbrev cJ3_checkFromToIndex_8c36e : ByteArray := prog_24_method_12_code
def yJ3_checkFromToIndex_8c36e : MethodName := ⟨RJ3, "checkFromToIndex", "(IIILjava/util/function/BiFunction;)I"⟩
abbrev cJ3_checkFromIndexSize_8c36e : ByteArray := prog_24_method_13_code
def yJ3_checkFromIndexSize_8c36e : MethodName := ⟨RJ3, "checkFromIndexSize", "(IIILjava/util/function/BiFunction;)I"⟩
def RL : String := "RefsSettleLaw"
abbrev cL_law : ByteArray := code
def yL_law : MethodName := ⟨RL, "law", "([I)Z"⟩
abbrev vwCl : List vw_C := [(RJ4, TJ4, 4), (RX0, TX0, 3), (RX1, TX1, 9), (RX2, TX2, 3), (RX3, TX3, 3), (RX4, TX4, 4), (RX5, TX5, 3), (RX6, TX6, 7), (RX7, TX7, 9), (RX8, TX8, 13), (RX9, TX9, 28)]
