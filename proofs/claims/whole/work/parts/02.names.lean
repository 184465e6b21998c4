/-! ===== BEGIN printed: names, fields, word lists, decode rows ===== -/
def RX0 : String := "CandidateRanges$Box"
def TX0 : u_T := fun k => match k with
  | 0 => ("CandidateRanges$Box", "things", "[I", true)
  | _ => ("CandidateRanges$Box", "number", "I", true)
def tyX0 : Nat → FieldType := fun k => match k with
  | 0 => .array .int
  | _ => .int
theorem nmX0 : ∀ a, a < 2 → ∀ b, b < 2 → a ≠ b → (TX0 a).2.1 ≠ (TX0 b).2.1 := by decide +kernel
theorem tyX0_ok : ∀ k, k < 2 → parseFieldDescriptor (TX0 k).2.2.1 = some (tyX0 k) := by decide +kernel
abbrev cX0_init : ByteArray := prog_2_method_1_code
def yX0_init : MethodName := ⟨RX0, "<init>", "(I)V"⟩
abbrev cX0_put : ByteArray := prog_2_method_2_code
def yX0_put : MethodName := ⟨RX0, "put", "(II)Z"⟩
abbrev cX0_takes : ByteArray := prog_2_method_3_code
def yX0_takes : MethodName := ⟨RX0, "takes", "(I)Z"⟩
def RX1 : String := "CandidateRanges$BoxFilter"
def TX1 : u_T := fun k => match k with
  | 0 => ("CandidateRanges$Filter", "number", "I", true)
  | 1 => ("CandidateRanges$Filter", "depth", "I", true)
  | 2 => ("CandidateRanges$BoxFilter", "held", "LCandidateRanges$Box;", true)
  | _ => ("CandidateRanges$BoxFilter", "item", "I", true)
def tyX1 : Nat → FieldType := fun k => match k with
  | 0 => .int
  | 1 => .int
  | 2 => .object "CandidateRanges$Box"
  | _ => .int
theorem nmX1 : ∀ a, a < 4 → ∀ b, b < 4 → a ≠ b → (TX1 a).2.1 ≠ (TX1 b).2.1 := by decide +kernel
theorem tyX1_ok : ∀ k, k < 4 → parseFieldDescriptor (TX1 k).2.2.1 = some (tyX1 k) := by decide +kernel
abbrev cX1_init : ByteArray := prog_3_method_1_code
def yX1_init : MethodName := ⟨RX1, "<init>", "(ILCandidateRanges$Box;I)V"⟩
abbrev cX1_judge : ByteArray := prog_3_method_2_code
def yX1_judge : MethodName := ⟨RX1, "judge", "(JLCandidateRanges$Tally;)I"⟩
abbrev cX1_thingFor : ByteArray := prog_3_method_3_code
def yX1_thingFor : MethodName := ⟨RX1, "thingFor", "(J)I"⟩
def RX2 : String := "CandidateRanges$Filter"
def TX2 : u_T := fun k => match k with
  | _ => ("", "", "", false)
def tyX2 : Nat → FieldType := fun k => match k with
  | _ => .int
theorem nmX2 : ∀ a, a < 0 → ∀ b, b < 0 → a ≠ b → (TX2 a).2.1 ≠ (TX2 b).2.1 := by decide +kernel
theorem tyX2_ok : ∀ k, k < 0 → parseFieldDescriptor (TX2 k).2.2.1 = some (tyX2 k) := by decide +kernel
abbrev cX2_init : ByteArray := prog_4_method_1_code
def yX2_init : MethodName := ⟨RX2, "<init>", "(II)V"⟩
abbrev cX2_timesAsked : ByteArray := prog_4_method_3_code
def yX2_timesAsked : MethodName := ⟨RX2, "timesAsked", "()I"⟩
abbrev cX2_verdict : ByteArray := prog_4_method_4_code
def yX2_verdict : MethodName := ⟨RX2, "verdict", "(Z)I"⟩
def RX3 : String := "CandidateRanges$MadeFilter"
def TX3 : u_T := fun k => match k with
  | 0 => ("CandidateRanges$Filter", "number", "I", true)
  | 1 => ("CandidateRanges$Filter", "depth", "I", true)
  | 2 => ("CandidateRanges$MadeFilter", "kind", "I", true)
  | 3 => ("CandidateRanges$MadeFilter", "first", "LCandidateRanges$Filter;", true)
  | 4 => ("CandidateRanges$MadeFilter", "second", "LCandidateRanges$Filter;", true)
  | _ => ("CandidateRanges$MadeFilter", "timesAsked", "I", false)
def tyX3 : Nat → FieldType := fun k => match k with
  | 0 => .int
  | 1 => .int
  | 2 => .int
  | 3 => .object "CandidateRanges$Filter"
  | 4 => .object "CandidateRanges$Filter"
  | _ => .int
theorem nmX3 : ∀ a, a < 6 → ∀ b, b < 6 → a ≠ b → (TX3 a).2.1 ≠ (TX3 b).2.1 := by decide +kernel
theorem tyX3_ok : ∀ k, k < 6 → parseFieldDescriptor (TX3 k).2.2.1 = some (tyX3 k) := by decide +kernel
abbrev cX3_init : ByteArray := prog_5_method_1_code
def yX3_init : MethodName := ⟨RX3, "<init>", "(IILCandidateRanges$Filter;LCandidateRanges$Filter;)V"⟩
abbrev cX3_judge : ByteArray := prog_5_method_2_code
def yX3_judge : MethodName := ⟨RX3, "judge", "(JLCandidateRanges$Tally;)I"⟩
abbrev cX3_leavesItToSecond : ByteArray := prog_5_method_3_code
def yX3_leavesItToSecond : MethodName := ⟨RX3, "leavesItToSecond", "(I)Z"⟩
abbrev cX3_timesAsked : ByteArray := prog_5_method_4_code
def yX3_timesAsked : MethodName := ⟨RX3, "timesAsked", "()I"⟩
def RX4 : String := "CandidateRanges$NumberFilter"
def TX4 : u_T := fun k => match k with
  | 0 => ("CandidateRanges$Filter", "number", "I", true)
  | 1 => ("CandidateRanges$Filter", "depth", "I", true)
  | 2 => ("CandidateRanges$NumberFilter", "kind", "I", true)
  | 3 => ("CandidateRanges$NumberFilter", "a", "I", true)
  | _ => ("CandidateRanges$NumberFilter", "v", "J", true)
def tyX4 : Nat → FieldType := fun k => match k with
  | 0 => .int
  | 1 => .int
  | 2 => .int
  | 3 => .int
  | _ => .long
theorem nmX4 : ∀ a, a < 5 → ∀ b, b < 5 → a ≠ b → (TX4 a).2.1 ≠ (TX4 b).2.1 := by decide +kernel
theorem tyX4_ok : ∀ k, k < 5 → parseFieldDescriptor (TX4 k).2.2.1 = some (tyX4 k) := by decide +kernel
abbrev cX4_init : ByteArray := prog_6_method_1_code
def yX4_init : MethodName := ⟨RX4, "<init>", "(IIIJ)V"⟩
abbrev cX4_judge : ByteArray := prog_6_method_2_code
def yX4_judge : MethodName := ⟨RX4, "judge", "(JLCandidateRanges$Tally;)I"⟩
abbrev cX4_judgeRoom : ByteArray := prog_6_method_3_code
def yX4_judgeRoom : MethodName := ⟨RX4, "judgeRoom", "(JLCandidateRanges$Tally;)I"⟩
def RX5 : String := "CandidateRanges$Range"
def TX5 : u_T := fun k => match k with
  | 0 => ("CandidateRanges$Range", "stretch", "LCandidateRanges$Stretch;", false)
  | 1 => ("CandidateRanges$Range", "numbers", "[J", true)
  | _ => ("CandidateRanges$Range", "count", "I", false)
def tyX5 : Nat → FieldType := fun k => match k with
  | 0 => .object "CandidateRanges$Stretch"
  | 1 => .array .long
  | _ => .int
theorem nmX5 : ∀ a, a < 3 → ∀ b, b < 3 → a ≠ b → (TX5 a).2.1 ≠ (TX5 b).2.1 := by decide +kernel
theorem tyX5_ok : ∀ k, k < 3 → parseFieldDescriptor (TX5 k).2.2.1 = some (tyX5 k) := by decide +kernel
abbrev cX5_init : ByteArray := prog_7_method_1_code
def yX5_init : MethodName := ⟨RX5, "<init>", "()V"⟩
abbrev cX5_becomePlain : ByteArray := prog_7_method_2_code
def yX5_becomePlain : MethodName := ⟨RX5, "becomePlain", "(LCandidateRanges$Stretch;)V"⟩
abbrev cX5_becomeGathered : ByteArray := prog_7_method_3_code
def yX5_becomeGathered : MethodName := ⟨RX5, "becomeGathered", "([JI)V"⟩
abbrev cX5_many : ByteArray := prog_7_method_4_code
def yX5_many : MethodName := ⟨RX5, "many", "()J"⟩
abbrev cX5_numberAt : ByteArray := prog_7_method_5_code
def yX5_numberAt : MethodName := ⟨RX5, "numberAt", "(J)J"⟩
abbrev cX5_indexOf : ByteArray := prog_7_method_6_code
def yX5_indexOf : MethodName := ⟨RX5, "indexOf", "(J)J"⟩
def RX6 : String := "CandidateRanges$Shelf"
def TX6 : u_T := fun k => match k with
  | 0 => ("CandidateRanges$Shelf", "items", "[J", true)
  | 1 => ("CandidateRanges$Shelf", "kind", "I", false)
  | 2 => ("CandidateRanges$Shelf", "count", "I", false)
  | _ => ("CandidateRanges$Shelf", "point", "I", false)
def tyX6 : Nat → FieldType := fun k => match k with
  | 0 => .array .long
  | 1 => .int
  | 2 => .int
  | _ => .int
theorem nmX6 : ∀ a, a < 4 → ∀ b, b < 4 → a ≠ b → (TX6 a).2.1 ≠ (TX6 b).2.1 := by decide +kernel
theorem tyX6_ok : ∀ k, k < 4 → parseFieldDescriptor (TX6 k).2.2.1 = some (tyX6 k) := by decide +kernel
abbrev cX6_init : ByteArray := prog_8_method_1_code
def yX6_init : MethodName := ⟨RX6, "<init>", "()V"⟩
abbrev cX6_hold : ByteArray := prog_8_method_2_code
def yX6_hold : MethodName := ⟨RX6, "hold", "(II)V"⟩
abbrev cX6_rowFailure : ByteArray := prog_8_method_3_code
def yX6_rowFailure : MethodName := ⟨RX6, "rowFailure", "()I"⟩
abbrev cX6_hasItem : ByteArray := prog_8_method_4_code
def yX6_hasItem : MethodName := ⟨RX6, "hasItem", "(J)Z"⟩
abbrev cX6_setItem : ByteArray := prog_8_method_5_code
def yX6_setItem : MethodName := ⟨RX6, "setItem", "(IJ)V"⟩
abbrev cX6_append : ByteArray := prog_8_method_6_code
def yX6_append : MethodName := ⟨RX6, "append", "(J)Z"⟩
def RX7 : String := "CandidateRanges$ShelfFilter"
def TX7 : u_T := fun k => match k with
  | 0 => ("CandidateRanges$Filter", "number", "I", true)
  | 1 => ("CandidateRanges$Filter", "depth", "I", true)
  | 2 => ("CandidateRanges$ShelfFilter", "held", "LCandidateRanges$Shelf;", true)
  | 3 => ("CandidateRanges$ShelfFilter", "wanted", "I", true)
  | _ => ("CandidateRanges$ShelfFilter", "v", "J", true)
def tyX7 : Nat → FieldType := fun k => match k with
  | 0 => .int
  | 1 => .int
  | 2 => .object "CandidateRanges$Shelf"
  | 3 => .int
  | _ => .long
theorem nmX7 : ∀ a, a < 5 → ∀ b, b < 5 → a ≠ b → (TX7 a).2.1 ≠ (TX7 b).2.1 := by decide +kernel
theorem tyX7_ok : ∀ k, k < 5 → parseFieldDescriptor (TX7 k).2.2.1 = some (tyX7 k) := by decide +kernel
abbrev cX7_init : ByteArray := prog_9_method_1_code
def yX7_init : MethodName := ⟨RX7, "<init>", "(ILCandidateRanges$Shelf;IJ)V"⟩
abbrev cX7_judge : ByteArray := prog_9_method_2_code
def yX7_judge : MethodName := ⟨RX7, "judge", "(JLCandidateRanges$Tally;)I"⟩
def RX8 : String := "CandidateRanges$Source"
def TX8 : u_T := fun k => match k with
  | 0 => ("CandidateRanges$Source", "sort", "I", true)
  | 1 => ("CandidateRanges$Source", "depth", "I", true)
  | 2 => ("CandidateRanges$Source", "stretch", "LCandidateRanges$Stretch;", true)
  | 3 => ("CandidateRanges$Source", "shelf", "LCandidateRanges$Shelf;", true)
  | 4 => ("CandidateRanges$Source", "s", "LCandidateRanges$Source;", true)
  | 5 => ("CandidateRanges$Source", "t", "LCandidateRanges$Source;", true)
  | 6 => ("CandidateRanges$Source", "filter", "LCandidateRanges$Filter;", true)
  | 7 => ("CandidateRanges$Source", "n", "I", true)
  | _ => ("CandidateRanges$Source", "v", "J", true)
def tyX8 : Nat → FieldType := fun k => match k with
  | 0 => .int
  | 1 => .int
  | 2 => .object "CandidateRanges$Stretch"
  | 3 => .object "CandidateRanges$Shelf"
  | 4 => .object "CandidateRanges$Source"
  | 5 => .object "CandidateRanges$Source"
  | 6 => .object "CandidateRanges$Filter"
  | 7 => .int
  | _ => .long
theorem nmX8 : ∀ a, a < 9 → ∀ b, b < 9 → a ≠ b → (TX8 a).2.1 ≠ (TX8 b).2.1 := by decide +kernel
theorem tyX8_ok : ∀ k, k < 9 → parseFieldDescriptor (TX8 k).2.2.1 = some (tyX8 k) := by decide +kernel
abbrev cX8_init : ByteArray := prog_10_method_1_code
def yX8_init : MethodName := ⟨RX8, "<init>", "(LCandidateRanges$Stretch;)V"⟩
abbrev cX8_init_ : ByteArray := prog_10_method_2_code
def yX8_init_ : MethodName := ⟨RX8, "<init>", "(ILCandidateRanges$Source;LCandidateRanges$Source;LCandidateRanges$Filter;LCandidateRanges$Shelf;IJ)V"⟩
abbrev cX8_depthOver : ByteArray := prog_10_method_3_code
def yX8_depthOver : MethodName := ⟨RX8, "depthOver", "(LCandidateRanges$Source;LCandidateRanges$Source;)I"⟩
abbrev cX8_plainOver : ByteArray := prog_10_method_4_code
def yX8_plainOver : MethodName := ⟨RX8, "plainOver", "(ILCandidateRanges$Source;I)LCandidateRanges$Stretch;"⟩
abbrev cX8_gather : ByteArray := prog_10_method_5_code
def yX8_gather : MethodName := ⟨RX8, "gather", "([JILCandidateRanges$Tally;)I"⟩
abbrev cX8_gatherPlain : ByteArray := prog_10_method_6_code
def yX8_gatherPlain : MethodName := ⟨RX8, "gatherPlain", "([JI)I"⟩
abbrev cX8_gatherRow : ByteArray := prog_10_method_7_code
def yX8_gatherRow : MethodName := ⟨RX8, "gatherRow", "([JILCandidateRanges$Tally;)I"⟩
abbrev cX8_keepOfOne : ByteArray := prog_10_method_8_code
def yX8_keepOfOne : MethodName := ⟨RX8, "keepOfOne", "([JIILCandidateRanges$Tally;)I"⟩
abbrev cX8_turn : ByteArray := prog_10_method_9_code
def yX8_turn : MethodName := ⟨RX8, "turn", "([JII)V"⟩
abbrev cX8_sortByNearness : ByteArray := prog_10_method_10_code
def yX8_sortByNearness : MethodName := ⟨RX8, "sortByNearness", "([JII)V"⟩
abbrev cX8_isNearer : ByteArray := prog_10_method_11_code
def yX8_isNearer : MethodName := ⟨RX8, "isNearer", "(JJ)Z"⟩
abbrev cX8_keepEvery : ByteArray := prog_10_method_12_code
def yX8_keepEvery : MethodName := ⟨RX8, "keepEvery", "([JII)I"⟩
abbrev cX8_keepPassing : ByteArray := prog_10_method_13_code
def yX8_keepPassing : MethodName := ⟨RX8, "keepPassing", "([JIILCandidateRanges$Tally;)I"⟩
abbrev cX8_keepOfTwo : ByteArray := prog_10_method_14_code
def yX8_keepOfTwo : MethodName := ⟨RX8, "keepOfTwo", "([JIII)I"⟩
def RX9 : String := "CandidateRanges$Stretch"
def TX9 : u_T := fun k => match k with
  | 0 => ("CandidateRanges$Stretch", "first", "J", true)
  | 1 => ("CandidateRanges$Stretch", "stride", "J", true)
  | 2 => ("CandidateRanges$Stretch", "down", "Z", true)
  | _ => ("CandidateRanges$Stretch", "count", "J", true)
def tyX9 : Nat → FieldType := fun k => match k with
  | 0 => .long
  | 1 => .long
  | 2 => .boolean
  | _ => .long
theorem nmX9 : ∀ a, a < 4 → ∀ b, b < 4 → a ≠ b → (TX9 a).2.1 ≠ (TX9 b).2.1 := by decide +kernel
theorem tyX9_ok : ∀ k, k < 4 → parseFieldDescriptor (TX9 k).2.2.1 = some (tyX9 k) := by decide +kernel
abbrev cX9_init : ByteArray := prog_11_method_1_code
def yX9_init : MethodName := ⟨RX9, "<init>", "(JJZJ)V"⟩
abbrev cX9_numberAt : ByteArray := prog_11_method_2_code
def yX9_numberAt : MethodName := ⟨RX9, "numberAt", "(J)J"⟩
abbrev cX9_indexOf : ByteArray := prog_11_method_3_code
def yX9_indexOf : MethodName := ⟨RX9, "indexOf", "(J)J"⟩
abbrev cX9_turned : ByteArray := prog_11_method_4_code
def yX9_turned : MethodName := ⟨RX9, "turned", "()LCandidateRanges$Stretch;"⟩
abbrev cX9_every : ByteArray := prog_11_method_5_code
def yX9_every : MethodName := ⟨RX9, "every", "(I)LCandidateRanges$Stretch;"⟩
def RX10 : String := "CandidateRanges$Tally"
def TX10 : u_T := fun k => match k with
  | 0 => ("CandidateRanges$Tally", "barredNumbers", "[J", true)
  | 1 => ("CandidateRanges$Tally", "barredBy", "[I", true)
  | 2 => ("CandidateRanges$Tally", "barredIn", "[I", true)
  | 3 => ("CandidateRanges$Tally", "barred", "I", false)
  | 4 => ("CandidateRanges$Tally", "failures", "I", false)
  | _ => ("CandidateRanges$Tally", "arose", "I", false)
def tyX10 : Nat → FieldType := fun k => match k with
  | 0 => .array .long
  | 1 => .array .int
  | 2 => .array .int
  | 3 => .int
  | 4 => .int
  | _ => .int
theorem nmX10 : ∀ a, a < 6 → ∀ b, b < 6 → a ≠ b → (TX10 a).2.1 ≠ (TX10 b).2.1 := by decide +kernel
theorem tyX10_ok : ∀ k, k < 6 → parseFieldDescriptor (TX10 k).2.2.1 = some (tyX10 k) := by decide +kernel
abbrev cX10_init : ByteArray := prog_12_method_1_code
def yX10_init : MethodName := ⟨RX10, "<init>", "()V"⟩
abbrev cX10_beginAsk : ByteArray := prog_12_method_2_code
def yX10_beginAsk : MethodName := ⟨RX10, "beginAsk", "()V"⟩
abbrev cX10_beginRange : ByteArray := prog_12_method_3_code
def yX10_beginRange : MethodName := ⟨RX10, "beginRange", "()V"⟩
abbrev cX10_fail : ByteArray := prog_12_method_4_code
def yX10_fail : MethodName := ⟨RX10, "fail", "(II)I"⟩
abbrev cX10_barByLatest : ByteArray := prog_12_method_5_code
def yX10_barByLatest : MethodName := ⟨RX10, "barByLatest", "(JI)V"⟩
abbrev cX10_hasBarred : ByteArray := prog_12_method_6_code
def yX10_hasBarred : MethodName := ⟨RX10, "hasBarred", "(I)Z"⟩
abbrev cX10_canBeMet : ByteArray := prog_12_method_7_code
def yX10_canBeMet : MethodName := ⟨RX10, "canBeMet", "(I)Z"⟩
def RX11 : String := "CandidateRanges"
def TX11 : u_T := fun k => match k with
  | 0 => ("CandidateRanges", "shelves", "[LCandidateRanges$Shelf;", true)
  | 1 => ("CandidateRanges", "boxes", "[LCandidateRanges$Box;", true)
  | 2 => ("CandidateRanges", "filters", "[LCandidateRanges$Filter;", true)
  | 3 => ("CandidateRanges", "sources", "[LCandidateRanges$Source;", true)
  | 4 => ("CandidateRanges", "filterCount", "I", false)
  | 5 => ("CandidateRanges", "sourceCount", "I", false)
  | 6 => ("CandidateRanges", "tally", "LCandidateRanges$Tally;", true)
  | 7 => ("CandidateRanges", "latest", "LCandidateRanges$Range;", true)
  | _ => ("CandidateRanges", "pool", "[J", true)
def tyX11 : Nat → FieldType := fun k => match k with
  | 0 => .array (.object "CandidateRanges$Shelf")
  | 1 => .array (.object "CandidateRanges$Box")
  | 2 => .array (.object "CandidateRanges$Filter")
  | 3 => .array (.object "CandidateRanges$Source")
  | 4 => .int
  | 5 => .int
  | 6 => .object "CandidateRanges$Tally"
  | 7 => .object "CandidateRanges$Range"
  | _ => .array .long
theorem nmX11 : ∀ a, a < 9 → ∀ b, b < 9 → a ≠ b → (TX11 a).2.1 ≠ (TX11 b).2.1 := by decide +kernel
theorem tyX11_ok : ∀ k, k < 9 → parseFieldDescriptor (TX11 k).2.2.1 = some (tyX11 k) := by decide +kernel
abbrev cX11_init : ByteArray := prog_1_method_1_code
def yX11_init : MethodName := ⟨RX11, "<init>", "()V"⟩
abbrev cX11_shelf : ByteArray := prog_1_method_2_code
def yX11_shelf : MethodName := ⟨RX11, "shelf", "(III)I"⟩
abbrev cX11_item : ByteArray := prog_1_method_3_code
def yX11_item : MethodName := ⟨RX11, "item", "(IIJ)I"⟩
abbrev cX11_box : ByteArray := prog_1_method_4_code
def yX11_box : MethodName := ⟨RX11, "box", "(II)I"⟩
abbrev cX11_filter : ByteArray := prog_1_method_5_code
def yX11_filter : MethodName := ⟨RX11, "filter", "(IIIJ)I"⟩
abbrev cX11_ask : ByteArray := prog_1_method_6_code
def yX11_ask : MethodName := ⟨RX11, "ask", "(IJ)I"⟩
abbrev cX11_asked : ByteArray := prog_1_method_7_code
def yX11_asked : MethodName := ⟨RX11, "asked", "(I)I"⟩
abbrev cX11_span : ByteArray := prog_1_method_8_code
def yX11_span : MethodName := ⟨RX11, "span", "(JJJ)I"⟩
abbrev cX11_list : ByteArray := prog_1_method_9_code
def yX11_list : MethodName := ⟨RX11, "list", "()I"⟩
abbrev cX11_add : ByteArray := prog_1_method_10_code
def yX11_add : MethodName := ⟨RX11, "add", "(IJ)I"⟩
abbrev cX11_source : ByteArray := prog_1_method_11_code
def yX11_source : MethodName := ⟨RX11, "source", "(IIIIIJ)I"⟩
abbrev cX11_range : ByteArray := prog_1_method_12_code
def yX11_range : MethodName := ⟨RX11, "range", "(I)I"⟩
abbrev cX11_size : ByteArray := prog_1_method_13_code
def yX11_size : MethodName := ⟨RX11, "size", "()J"⟩
abbrev cX11_at : ByteArray := prog_1_method_14_code
def yX11_at : MethodName := ⟨RX11, "at", "(J)J"⟩
abbrev cX11_place : ByteArray := prog_1_method_15_code
def yX11_place : MethodName := ⟨RX11, "place", "(J)J"⟩
abbrev cX11_draw : ByteArray := prog_1_method_16_code
def yX11_draw : MethodName := ⟨RX11, "draw", "(J)J"⟩
abbrev cX11_barred : ByteArray := prog_1_method_17_code
def yX11_barred : MethodName := ⟨RX11, "barred", "()I"⟩
abbrev cX11_bar : ByteArray := prog_1_method_18_code
def yX11_bar : MethodName := ⟨RX11, "bar", "(II)I"⟩
abbrev cX11_barredAt : ByteArray := prog_1_method_19_code
def yX11_barredAt : MethodName := ⟨RX11, "barredAt", "(I)J"⟩
abbrev cX11_distance : ByteArray := prog_1_method_20_code
def yX11_distance : MethodName := ⟨RX11, "distance", "(JJ)J"⟩
abbrev cX11_told : ByteArray := prog_1_method_21_code
def yX11_told : MethodName := ⟨RX11, "told", "(I)I"⟩
abbrev cX11_shelfAt : ByteArray := prog_1_method_22_code
def yX11_shelfAt : MethodName := ⟨RX11, "shelfAt", "(I)LCandidateRanges$Shelf;"⟩
abbrev cX11_boxAt : ByteArray := prog_1_method_23_code
def yX11_boxAt : MethodName := ⟨RX11, "boxAt", "(I)LCandidateRanges$Box;"⟩
abbrev cX11_filterAt : ByteArray := prog_1_method_24_code
def yX11_filterAt : MethodName := ⟨RX11, "filterAt", "(I)LCandidateRanges$Filter;"⟩
abbrev cX11_sourceAt : ByteArray := prog_1_method_25_code
def yX11_sourceAt : MethodName := ⟨RX11, "sourceAt", "(I)LCandidateRanges$Source;"⟩
abbrev cX11_filterOfFilters : ByteArray := prog_1_method_26_code
def yX11_filterOfFilters : MethodName := ⟨RX11, "filterOfFilters", "(III)I"⟩
abbrev cX11_filterOfShelf : ByteArray := prog_1_method_27_code
def yX11_filterOfShelf : MethodName := ⟨RX11, "filterOfShelf", "(IIJ)I"⟩
abbrev cX11_filterOfBox : ByteArray := prog_1_method_28_code
def yX11_filterOfBox : MethodName := ⟨RX11, "filterOfBox", "(IJ)I"⟩
abbrev cX11_keepFilter : ByteArray := prog_1_method_29_code
def yX11_keepFilter : MethodName := ⟨RX11, "keepFilter", "(LCandidateRanges$Filter;)I"⟩
abbrev cX11_countFits : ByteArray := prog_1_method_30_code
def yX11_countFits : MethodName := ⟨RX11, "countFits", "(II)Z"⟩
abbrev cX11_sourceOfShelf : ByteArray := prog_1_method_31_code
def yX11_sourceOfShelf : MethodName := ⟨RX11, "sourceOfShelf", "(I)I"⟩
abbrev cX11_keepSource : ByteArray := prog_1_method_32_code
def yX11_keepSource : MethodName := ⟨RX11, "keepSource", "(LCandidateRanges$Source;)I"⟩
abbrev cX11_gap : ByteArray := prog_1_method_33_code
def yX11_gap : MethodName := ⟨RX11, "gap", "(JJ)J"⟩
abbrev cX11_unsignedBelow : ByteArray := prog_1_method_34_code
def yX11_unsignedBelow : MethodName := ⟨RX11, "unsignedBelow", "(JJ)Z"⟩
abbrev cX11_unsignedQuotient : ByteArray := prog_1_method_35_code
def yX11_unsignedQuotient : MethodName := ⟨RX11, "unsignedQuotient", "(JJ)J"⟩
abbrev cX11_unsignedRest : ByteArray := prog_1_method_36_code
def yX11_unsignedRest : MethodName := ⟨RX11, "unsignedRest", "(JJ)J"⟩
abbrev cX11_find : ByteArray := prog_1_method_37_code
def yX11_find : MethodName := ⟨RX11, "find", "([JIIJ)I"⟩
def RX12 : String := "CandidateRangesModel"
def TX12 : u_T := fun k => match k with
  | 0 => ("CandidateRangesModel", "code", "I", false)
  | 1 => ("CandidateRangesModel", "shelfKind", "[I", true)
  | 2 => ("CandidateRangesModel", "shelfSize", "[I", true)
  | 3 => ("CandidateRangesModel", "shelfPoint", "[J", true)
  | 4 => ("CandidateRangesModel", "shelfItems", "[J", true)
  | 5 => ("CandidateRangesModel", "boxes", "[I", true)
  | 6 => ("CandidateRangesModel", "filters", "I", false)
  | 7 => ("CandidateRangesModel", "fKind", "[I", true)
  | 8 => ("CandidateRangesModel", "fA", "[I", true)
  | 9 => ("CandidateRangesModel", "fB", "[I", true)
  | 10 => ("CandidateRangesModel", "fV", "[J", true)
  | 11 => ("CandidateRangesModel", "fDeep", "[I", true)
  | 12 => ("CandidateRangesModel", "fAsked", "[I", true)
  | 13 => ("CandidateRangesModel", "failed", "I", false)
  | 14 => ("CandidateRangesModel", "where", "I", false)
  | 15 => ("CandidateRangesModel", "failures", "I", false)
  | 16 => ("CandidateRangesModel", "sources", "I", false)
  | 17 => ("CandidateRangesModel", "sSort", "[I", true)
  | 18 => ("CandidateRangesModel", "sS", "[I", true)
  | 19 => ("CandidateRangesModel", "sT", "[I", true)
  | 20 => ("CandidateRangesModel", "sA", "[I", true)
  | 21 => ("CandidateRangesModel", "sN", "[I", true)
  | 22 => ("CandidateRangesModel", "sV", "[J", true)
  | 23 => ("CandidateRangesModel", "sDeep", "[I", true)
  | 24 => ("CandidateRangesModel", "sPlain", "[Z", true)
  | 25 => ("CandidateRangesModel", "sFirst", "[J", true)
  | 26 => ("CandidateRangesModel", "sStep", "[J", true)
  | 27 => ("CandidateRangesModel", "sMany", "[J", true)
  | 28 => ("CandidateRangesModel", "lists", "[J", true)
  | 29 => ("CandidateRangesModel", "rows", "[J", true)
  | 30 => ("CandidateRangesModel", "many", "[I", true)
  | 31 => ("CandidateRangesModel", "isLarge", "Z", false)
  | 32 => ("CandidateRangesModel", "barred", "I", false)
  | 33 => ("CandidateRangesModel", "barNumber", "[J", true)
  | 34 => ("CandidateRangesModel", "barFailure", "[I", true)
  | 35 => ("CandidateRangesModel", "barFilter", "[I", true)
  | 36 => ("CandidateRangesModel", "isPlain", "Z", false)
  | 37 => ("CandidateRangesModel", "first", "J", false)
  | 38 => ("CandidateRangesModel", "step", "J", false)
  | 39 => ("CandidateRangesModel", "size", "J", false)
  | _ => ("CandidateRangesModel", "range", "[J", true)
def tyX12 : Nat → FieldType := fun k => match k with
  | 0 => .int
  | 1 => .array .int
  | 2 => .array .int
  | 3 => .array .long
  | 4 => .array .long
  | 5 => .array .int
  | 6 => .int
  | 7 => .array .int
  | 8 => .array .int
  | 9 => .array .int
  | 10 => .array .long
  | 11 => .array .int
  | 12 => .array .int
  | 13 => .int
  | 14 => .int
  | 15 => .int
  | 16 => .int
  | 17 => .array .int
  | 18 => .array .int
  | 19 => .array .int
  | 20 => .array .int
  | 21 => .array .int
  | 22 => .array .long
  | 23 => .array .int
  | 24 => .array .boolean
  | 25 => .array .long
  | 26 => .array .long
  | 27 => .array .long
  | 28 => .array .long
  | 29 => .array .long
  | 30 => .array .int
  | 31 => .boolean
  | 32 => .int
  | 33 => .array .long
  | 34 => .array .int
  | 35 => .array .int
  | 36 => .boolean
  | 37 => .long
  | 38 => .long
  | 39 => .long
  | _ => .array .long
theorem nmX12 : ∀ a, a < 41 → ∀ b, b < 41 → a ≠ b → (TX12 a).2.1 ≠ (TX12 b).2.1 := by decide +kernel
theorem tyX12_ok : ∀ k, k < 41 → parseFieldDescriptor (TX12 k).2.2.1 = some (tyX12 k) := by decide +kernel
abbrev cX12_init : ByteArray := prog_14_method_1_code
def yX12_init : MethodName := ⟨RX12, "<init>", "()V"⟩
abbrev cX12_thrown : ByteArray := prog_14_method_2_code
def yX12_thrown : MethodName := ⟨RX12, "thrown", "()I"⟩
abbrev cX12_shelf : ByteArray := prog_14_method_3_code
def yX12_shelf : MethodName := ⟨RX12, "shelf", "(III)I"⟩
abbrev cX12_item : ByteArray := prog_14_method_4_code
def yX12_item : MethodName := ⟨RX12, "item", "(IIJ)I"⟩
abbrev cX12_box : ByteArray := prog_14_method_5_code
def yX12_box : MethodName := ⟨RX12, "box", "(II)I"⟩
abbrev cX12_isFilter : ByteArray := prog_14_method_6_code
def yX12_isFilter : MethodName := ⟨RX12, "isFilter", "(I)Z"⟩
abbrev cX12_filter : ByteArray := prog_14_method_7_code
def yX12_filter : MethodName := ⟨RX12, "filter", "(IIIJ)I"⟩
abbrev cX12_fails : ByteArray := prog_14_method_8_code
def yX12_fails : MethodName := ⟨RX12, "fails", "(II)Z"⟩
abbrev cX12_passes : ByteArray := prog_14_method_9_code
def yX12_passes : MethodName := ⟨RX12, "passes", "(IJ)Z"⟩
abbrev cX12_puts : ByteArray := prog_14_method_10_code
def yX12_puts : MethodName := ⟨RX12, "puts", "(IIJJ)Z"⟩
abbrev cX12_ask : ByteArray := prog_14_method_11_code
def yX12_ask : MethodName := ⟨RX12, "ask", "(IJ)I"⟩
abbrev cX12_asked : ByteArray := prog_14_method_12_code
def yX12_asked : MethodName := ⟨RX12, "asked", "(I)I"⟩
abbrev cX12_isSource : ByteArray := prog_14_method_13_code
def yX12_isSource : MethodName := ⟨RX12, "isSource", "(I)Z"⟩
abbrev cX12_comes : ByteArray := prog_14_method_14_code
def yX12_comes : MethodName := ⟨RX12, "comes", "(IZI)I"⟩
abbrev cX12_divided : ByteArray := prog_14_method_15_code
def yX12_divided : MethodName := ⟨RX12, "divided", "(JJ)J"⟩
abbrev cX12_span : ByteArray := prog_14_method_16_code
def yX12_span : MethodName := ⟨RX12, "span", "(JJJ)I"⟩
abbrev cX12_list : ByteArray := prog_14_method_17_code
def yX12_list : MethodName := ⟨RX12, "list", "()I"⟩
abbrev cX12_add : ByteArray := prog_14_method_18_code
def yX12_add : MethodName := ⟨RX12, "add", "(IJ)I"⟩
abbrev cX12_source : ByteArray := prog_14_method_19_code
def yX12_source : MethodName := ⟨RX12, "source", "(IIIIIJ)I"⟩
abbrev cX12_goes : ByteArray := prog_14_method_20_code
def yX12_goes : MethodName := ⟨RX12, "goes", "(II)Z"⟩
abbrev cX12_put : ByteArray := prog_14_method_21_code
def yX12_put : MethodName := ⟨RX12, "put", "(IJ)V"⟩
abbrev cX12_isIn : ByteArray := prog_14_method_22_code
def yX12_isIn : MethodName := ⟨RX12, "isIn", "(IJ)Z"⟩
abbrev cX12_twoOf : ByteArray := prog_14_method_23_code
def yX12_twoOf : MethodName := ⟨RX12, "twoOf", "(II)Z"⟩
abbrev cX12_shelfOf : ByteArray := prog_14_method_24_code
def yX12_shelfOf : MethodName := ⟨RX12, "shelfOf", "(II)Z"⟩
abbrev cX12_one : ByteArray := prog_14_method_25_code
def yX12_one : MethodName := ⟨RX12, "one", "(III)Z"⟩
abbrev cX12_far : ByteArray := prog_14_method_26_code
def yX12_far : MethodName := ⟨RX12, "far", "(JJ)J"⟩
abbrev cX12_isNearer : ByteArray := prog_14_method_27_code
def yX12_isNearer : MethodName := ⟨RX12, "isNearer", "(JJJ)Z"⟩
abbrev cX12_near : ByteArray := prog_14_method_28_code
def yX12_near : MethodName := ⟨RX12, "near", "(IIJI)V"⟩
abbrev cX12_range : ByteArray := prog_14_method_29_code
def yX12_range : MethodName := ⟨RX12, "range", "(I)I"⟩
abbrev cX12_size : ByteArray := prog_14_method_30_code
def yX12_size : MethodName := ⟨RX12, "size", "()J"⟩
abbrev cX12_at : ByteArray := prog_14_method_31_code
def yX12_at : MethodName := ⟨RX12, "at", "(J)J"⟩
abbrev cX12_place : ByteArray := prog_14_method_32_code
def yX12_place : MethodName := ⟨RX12, "place", "(J)J"⟩
abbrev cX12_draw : ByteArray := prog_14_method_33_code
def yX12_draw : MethodName := ⟨RX12, "draw", "(J)J"⟩
abbrev cX12_barred : ByteArray := prog_14_method_34_code
def yX12_barred : MethodName := ⟨RX12, "barred", "()I"⟩
abbrev cX12_bar : ByteArray := prog_14_method_35_code
def yX12_bar : MethodName := ⟨RX12, "bar", "(II)I"⟩
abbrev cX12_barredAt : ByteArray := prog_14_method_36_code
def yX12_barredAt : MethodName := ⟨RX12, "barredAt", "(I)J"⟩
abbrev cX12_distance : ByteArray := prog_14_method_37_code
def yX12_distance : MethodName := ⟨RX12, "distance", "(JJ)J"⟩
abbrev cX12_told : ByteArray := prog_14_method_38_code
def yX12_told : MethodName := ⟨RX12, "told", "(I)I"⟩
def RJ9 : String := "java/lang/Math"
def TJ9 : u_T := fun k => match k with
  | _ => ("", "", "", false)
def tyJ9 : Nat → FieldType := fun k => match k with
  | _ => .int
theorem nmJ9 : ∀ a, a < 0 → ∀ b, b < 0 → a ≠ b → (TJ9 a).2.1 ≠ (TJ9 b).2.1 := by decide +kernel
theorem tyJ9_ok : ∀ k, k < 0 → parseFieldDescriptor (TJ9 k).2.2.1 = some (tyJ9 k) := by decide +kernel
abbrev cJ9_abs_067f4 : ByteArray := prog_17_method_61_code
def yJ9_abs_067f4 : MethodName := ⟨RJ9, "abs", "(J)J"⟩
abbrev cJ9_max_7cf53 : ByteArray := prog_17_method_65_code
def yJ9_max_7cf53 : MethodName := ⟨RJ9, "max", "(II)I"⟩
abbrev cJ9_min_7cf53 : ByteArray := prog_17_method_69_code
def yJ9_min_7cf53 : MethodName := ⟨RJ9, "min", "(II)I"⟩
def RJ0 : String := "java/lang/String"
def TJ0 : u_T := fun k => match k with
  | _ => ("", "", "", false)
def tyJ0 : Nat → FieldType := fun k => match k with
  | _ => .int
theorem nmJ0 : ∀ a, a < 0 → ∀ b, b < 0 → a ≠ b → (TJ0 a).2.1 ≠ (TJ0 b).2.1 := by decide +kernel
theorem tyJ0_ok : ∀ k, k < 0 → parseFieldDescriptor (TJ0 k).2.2.1 = some (tyJ0 k) := by decide +kernel
def RJ7 : String := "java/util/Arrays"
def TJ7 : u_T := fun k => match k with
  | _ => ("", "", "", false)
def tyJ7 : Nat → FieldType := fun k => match k with
  | _ => .int
theorem nmJ7 : ∀ a, a < 0 → ∀ b, b < 0 → a ≠ b → (TJ7 a).2.1 ≠ (TJ7 b).2.1 := by decide +kernel
theorem tyJ7_ok : ∀ k, k < 0 → parseFieldDescriptor (TJ7 k).2.2.1 = some (tyJ7 k) := by decide +kernel
abbrev cJ7_fill_d0a16 : ByteArray := prog_21_method_101_code
def yJ7_fill_d0a16 : MethodName := ⟨RJ7, "fill", "([JJ)V"⟩
def RL : String := "CandidateRangesLaw"
abbrev cL_at : ByteArray := method_3_code
def yL_at : MethodName := ⟨RL, "at", "(LCandidateRanges;J[J)I"⟩
abbrev cL_draw : ByteArray := method_4_code
def yL_draw : MethodName := ⟨RL, "draw", "(LCandidateRanges;J[J)I"⟩
abbrev cL_barredAt : ByteArray := method_5_code
def yL_barredAt : MethodName := ⟨RL, "barredAt", "(LCandidateRanges;I[J)I"⟩
abbrev cL_law : ByteArray := code
def yL_law : MethodName := ⟨RL, "law", "([I)Z"⟩
abbrev vwCl : List vw_C := [(RX0, TX0, 2), (RX1, TX1, 4), (RX3, TX3, 6), (RX4, TX4, 5), (RX5, TX5, 3), (RX6, TX6, 4), (RX7, TX7, 5), (RX8, TX8, 9), (RX9, TX9, 4), (RX10, TX10, 6), (RX11, TX11, 9), (RX12, TX12, 41)]
theorem dX0_init_0 : decode cX0_init 0 = .ok (.aload_n 0, 1) := by decide +kernel
theorem dX0_init_1 : decode cX0_init 1 = .ok (.invokespecial 3, 3) := by decide +kernel
theorem dX0_init_4 : decode cX0_init 4 = .ok (.aload_n 0, 1) := by decide +kernel
theorem dX0_init_5 : decode cX0_init 5 = .ok (.iconst 3, 1) := by decide +kernel
theorem dX0_init_6 : decode cX0_init 6 = .ok (.newarray .int, 2) := by decide +kernel
theorem dX0_init_8 : decode cX0_init 8 = .ok (.putfield 9, 3) := by decide +kernel
theorem dX0_init_11 : decode cX0_init 11 = .ok (.aload_n 0, 1) := by decide +kernel
theorem dX0_init_12 : decode cX0_init 12 = .ok (.iload_n 1, 1) := by decide +kernel
theorem dX0_init_13 : decode cX0_init 13 = .ok (.putfield 15, 3) := by decide +kernel
theorem dX0_init_16 : decode cX0_init 16 = .ok (.return_, 1) := by decide +kernel
theorem dX0_put_0 : decode cX0_put 0 = .ok (.iload_n 1, 1) := by decide +kernel
theorem dX0_put_1 : decode cX0_put 1 = .ok (.ifCond .lt 16, 3) := by decide +kernel
theorem dX0_put_4 : decode cX0_put 4 = .ok (.iload_n 1, 1) := by decide +kernel
theorem dX0_put_5 : decode cX0_put 5 = .ok (.iconst 3, 1) := by decide +kernel
theorem dX0_put_6 : decode cX0_put 6 = .ok (.if_icmp .ge 11, 3) := by decide +kernel
theorem dX0_put_9 : decode cX0_put 9 = .ok (.aload_n 0, 1) := by decide +kernel
theorem dX0_put_10 : decode cX0_put 10 = .ok (.iload_n 2, 1) := by decide +kernel
theorem dX0_put_11 : decode cX0_put 11 = .ok (.invokevirtual 19, 3) := by decide +kernel
theorem dX0_put_14 : decode cX0_put 14 = .ok (.ifCond .ne 5, 3) := by decide +kernel
theorem dX0_put_17 : decode cX0_put 17 = .ok (.iconst 0, 1) := by decide +kernel
theorem dX0_put_18 : decode cX0_put 18 = .ok (.ireturn, 1) := by decide +kernel
theorem dX0_put_19 : decode cX0_put 19 = .ok (.aload_n 0, 1) := by decide +kernel
theorem dX0_put_20 : decode cX0_put 20 = .ok (.getfield 9, 3) := by decide +kernel
theorem dX0_put_23 : decode cX0_put 23 = .ok (.iload_n 1, 1) := by decide +kernel
theorem dX0_put_24 : decode cX0_put 24 = .ok (.iload_n 2, 1) := by decide +kernel
theorem dX0_put_25 : decode cX0_put 25 = .ok (.iastore, 1) := by decide +kernel
theorem dX0_put_26 : decode cX0_put 26 = .ok (.iconst 1, 1) := by decide +kernel
theorem dX0_put_27 : decode cX0_put 27 = .ok (.ireturn, 1) := by decide +kernel
theorem dX0_takes_0 : decode cX0_takes 0 = .ok (.aload_n 0, 1) := by decide +kernel
theorem dX0_takes_1 : decode cX0_takes 1 = .ok (.getfield 15, 3) := by decide +kernel
theorem dX0_takes_4 : decode cX0_takes 4 = .ok (.lookupswitch 55 #[(0, 28), (1, 44)], 28) := by decide +kernel
theorem dX0_takes_32 : decode cX0_takes 32 = .ok (.iload_n 1, 1) := by decide +kernel
theorem dX0_takes_33 : decode cX0_takes 33 = .ok (.iconst 1, 1) := by decide +kernel
theorem dX0_takes_34 : decode cX0_takes 34 = .ok (.if_icmp .eq 8, 3) := by decide +kernel
theorem dX0_takes_37 : decode cX0_takes 37 = .ok (.iload_n 1, 1) := by decide +kernel
theorem dX0_takes_38 : decode cX0_takes 38 = .ok (.iconst 2, 1) := by decide +kernel
theorem dX0_takes_39 : decode cX0_takes 39 = .ok (.if_icmp .ne 7, 3) := by decide +kernel
theorem dX0_takes_42 : decode cX0_takes 42 = .ok (.iconst 1, 1) := by decide +kernel
theorem dX0_takes_43 : decode cX0_takes 43 = .ok (.goto 4, 3) := by decide +kernel
theorem dX0_takes_46 : decode cX0_takes 46 = .ok (.iconst 0, 1) := by decide +kernel
theorem dX0_takes_47 : decode cX0_takes 47 = .ok (.ireturn, 1) := by decide +kernel
theorem dX0_takes_48 : decode cX0_takes 48 = .ok (.iload_n 1, 1) := by decide +kernel
theorem dX0_takes_49 : decode cX0_takes 49 = .ok (.iconst 2, 1) := by decide +kernel
theorem dX0_takes_50 : decode cX0_takes 50 = .ok (.if_icmp .ne 7, 3) := by decide +kernel
theorem dX0_takes_53 : decode cX0_takes 53 = .ok (.iconst 1, 1) := by decide +kernel
theorem dX0_takes_54 : decode cX0_takes 54 = .ok (.goto 4, 3) := by decide +kernel
theorem dX0_takes_57 : decode cX0_takes 57 = .ok (.iconst 0, 1) := by decide +kernel
theorem dX0_takes_58 : decode cX0_takes 58 = .ok (.ireturn, 1) := by decide +kernel
theorem dX0_takes_59 : decode cX0_takes 59 = .ok (.iconst 1, 1) := by decide +kernel
theorem dX0_takes_60 : decode cX0_takes 60 = .ok (.ireturn, 1) := by decide +kernel
theorem dX1_init_0 : decode cX1_init 0 = .ok (.aload_n 0, 1) := by decide +kernel
theorem dX1_init_1 : decode cX1_init 1 = .ok (.iload_n 1, 1) := by decide +kernel
theorem dX1_init_2 : decode cX1_init 2 = .ok (.iconst 1, 1) := by decide +kernel
theorem dX1_init_3 : decode cX1_init 3 = .ok (.invokespecial 3, 3) := by decide +kernel
theorem dX1_init_6 : decode cX1_init 6 = .ok (.aload_n 0, 1) := by decide +kernel
theorem dX1_init_7 : decode cX1_init 7 = .ok (.aload_n 2, 1) := by decide +kernel
theorem dX1_init_8 : decode cX1_init 8 = .ok (.putfield 9, 3) := by decide +kernel
theorem dX1_init_11 : decode cX1_init 11 = .ok (.aload_n 0, 1) := by decide +kernel
theorem dX1_init_12 : decode cX1_init 12 = .ok (.iload_n 3, 1) := by decide +kernel
theorem dX1_init_13 : decode cX1_init 13 = .ok (.putfield 15, 3) := by decide +kernel
theorem dX1_init_16 : decode cX1_init 16 = .ok (.return_, 1) := by decide +kernel
theorem dX1_judge_0 : decode cX1_judge 0 = .ok (.aload_n 0, 1) := by decide +kernel
theorem dX1_judge_1 : decode cX1_judge 1 = .ok (.getfield 9, 3) := by decide +kernel
theorem dX1_judge_4 : decode cX1_judge 4 = .ok (.aload_n 0, 1) := by decide +kernel
theorem dX1_judge_5 : decode cX1_judge 5 = .ok (.getfield 15, 3) := by decide +kernel
theorem dX1_judge_8 : decode cX1_judge 8 = .ok (.lload_n 1, 1) := by decide +kernel
theorem dX1_judge_9 : decode cX1_judge 9 = .ok (.invokestatic 19, 3) := by decide +kernel
theorem dX1_judge_12 : decode cX1_judge 12 = .ok (.invokevirtual 23, 3) := by decide +kernel
theorem dX1_judge_15 : decode cX1_judge 15 = .ok (.ifCond .eq 7, 3) := by decide +kernel
theorem dX1_judge_18 : decode cX1_judge 18 = .ok (.iconst 1, 1) := by decide +kernel
theorem dX1_judge_19 : decode cX1_judge 19 = .ok (.goto 12, 3) := by decide +kernel
theorem dX1_judge_22 : decode cX1_judge 22 = .ok (.aload_n 3, 1) := by decide +kernel
theorem dX1_judge_23 : decode cX1_judge 23 = .ok (.iconst 4, 1) := by decide +kernel
theorem dX1_judge_24 : decode cX1_judge 24 = .ok (.aload_n 0, 1) := by decide +kernel
theorem dX1_judge_25 : decode cX1_judge 25 = .ok (.getfield 29, 3) := by decide +kernel
theorem dX1_judge_28 : decode cX1_judge 28 = .ok (.invokevirtual 32, 3) := by decide +kernel
theorem dX1_judge_31 : decode cX1_judge 31 = .ok (.ireturn, 1) := by decide +kernel
theorem dX1_thingFor_0 : decode cX1_thingFor 0 = .ok (.lload_n 0, 1) := by decide +kernel
theorem dX1_thingFor_1 : decode cX1_thingFor 1 = .ok (.ldc2_w 38, 3) := by decide +kernel
theorem dX1_thingFor_4 : decode cX1_thingFor 4 = .ok (.lrem, 1) := by decide +kernel
theorem dX1_thingFor_5 : decode cX1_thingFor 5 = .ok (.lstore_n 2, 1) := by decide +kernel
theorem dX1_thingFor_6 : decode cX1_thingFor 6 = .ok (.lload_n 2, 1) := by decide +kernel
theorem dX1_thingFor_7 : decode cX1_thingFor 7 = .ok (.lconst 0, 1) := by decide +kernel
theorem dX1_thingFor_8 : decode cX1_thingFor 8 = .ok (.lcmp, 1) := by decide +kernel
theorem dX1_thingFor_9 : decode cX1_thingFor 9 = .ok (.ifCond .ne 5, 3) := by decide +kernel
theorem dX1_thingFor_12 : decode cX1_thingFor 12 = .ok (.iconst 2, 1) := by decide +kernel
theorem dX1_thingFor_13 : decode cX1_thingFor 13 = .ok (.ireturn, 1) := by decide +kernel
theorem dX1_thingFor_14 : decode cX1_thingFor 14 = .ok (.lload_n 2, 1) := by decide +kernel
theorem dX1_thingFor_15 : decode cX1_thingFor 15 = .ok (.lconst 1, 1) := by decide +kernel
theorem dX1_thingFor_16 : decode cX1_thingFor 16 = .ok (.lcmp, 1) := by decide +kernel
theorem dX1_thingFor_17 : decode cX1_thingFor 17 = .ok (.ifCond .ne 7, 3) := by decide +kernel
theorem dX1_thingFor_20 : decode cX1_thingFor 20 = .ok (.iconst 3, 1) := by decide +kernel
theorem dX1_thingFor_21 : decode cX1_thingFor 21 = .ok (.goto 4, 3) := by decide +kernel
theorem dX1_thingFor_24 : decode cX1_thingFor 24 = .ok (.iconst 1, 1) := by decide +kernel
theorem dX1_thingFor_25 : decode cX1_thingFor 25 = .ok (.ireturn, 1) := by decide +kernel
theorem dX2_init_0 : decode cX2_init 0 = .ok (.aload_n 0, 1) := by decide +kernel
theorem dX2_init_1 : decode cX2_init 1 = .ok (.invokespecial 1, 3) := by decide +kernel
theorem dX2_init_4 : decode cX2_init 4 = .ok (.aload_n 0, 1) := by decide +kernel
theorem dX2_init_5 : decode cX2_init 5 = .ok (.iload_n 1, 1) := by decide +kernel
theorem dX2_init_6 : decode cX2_init 6 = .ok (.putfield 7, 3) := by decide +kernel
theorem dX2_init_9 : decode cX2_init 9 = .ok (.aload_n 0, 1) := by decide +kernel
theorem dX2_init_10 : decode cX2_init 10 = .ok (.iload_n 2, 1) := by decide +kernel
theorem dX2_init_11 : decode cX2_init 11 = .ok (.putfield 13, 3) := by decide +kernel
theorem dX2_init_14 : decode cX2_init 14 = .ok (.return_, 1) := by decide +kernel
theorem dX2_timesAsked_0 : decode cX2_timesAsked 0 = .ok (.iconst 0, 1) := by decide +kernel
theorem dX2_timesAsked_1 : decode cX2_timesAsked 1 = .ok (.ireturn, 1) := by decide +kernel
theorem dX2_verdict_0 : decode cX2_verdict 0 = .ok (.iload_n 0, 1) := by decide +kernel
theorem dX2_verdict_1 : decode cX2_verdict 1 = .ok (.ifCond .eq 7, 3) := by decide +kernel
theorem dX2_verdict_4 : decode cX2_verdict 4 = .ok (.iconst 1, 1) := by decide +kernel
theorem dX2_verdict_5 : decode cX2_verdict 5 = .ok (.goto 4, 3) := by decide +kernel
theorem dX2_verdict_8 : decode cX2_verdict 8 = .ok (.iconst 0, 1) := by decide +kernel
theorem dX2_verdict_9 : decode cX2_verdict 9 = .ok (.ireturn, 1) := by decide +kernel
theorem dX3_init_0 : decode cX3_init 0 = .ok (.aload_n 0, 1) := by decide +kernel
theorem dX3_init_1 : decode cX3_init 1 = .ok (.iload_n 1, 1) := by decide +kernel
theorem dX3_init_2 : decode cX3_init 2 = .ok (.iconst 1, 1) := by decide +kernel
theorem dX3_init_3 : decode cX3_init 3 = .ok (.aload_n 3, 1) := by decide +kernel
theorem dX3_init_4 : decode cX3_init 4 = .ok (.getfield 1, 3) := by decide +kernel
theorem dX3_init_7 : decode cX3_init 7 = .ok (.aload 4, 2) := by decide +kernel
theorem dX3_init_9 : decode cX3_init 9 = .ok (.ifnonnull 7, 3) := by decide +kernel
theorem dX3_init_12 : decode cX3_init 12 = .ok (.iconst 0, 1) := by decide +kernel
theorem dX3_init_13 : decode cX3_init 13 = .ok (.goto 8, 3) := by decide +kernel
theorem dX3_init_16 : decode cX3_init 16 = .ok (.aload 4, 2) := by decide +kernel
theorem dX3_init_18 : decode cX3_init 18 = .ok (.getfield 1, 3) := by decide +kernel
theorem dX3_init_21 : decode cX3_init 21 = .ok (.invokestatic 7, 3) := by decide +kernel
theorem dX3_init_24 : decode cX3_init 24 = .ok (.iadd, 1) := by decide +kernel
theorem dX3_init_25 : decode cX3_init 25 = .ok (.invokespecial 13, 3) := by decide +kernel
theorem dX3_init_28 : decode cX3_init 28 = .ok (.aload_n 0, 1) := by decide +kernel
theorem dX3_init_29 : decode cX3_init 29 = .ok (.iload_n 2, 1) := by decide +kernel
theorem dX3_init_30 : decode cX3_init 30 = .ok (.putfield 17, 3) := by decide +kernel
theorem dX3_init_33 : decode cX3_init 33 = .ok (.aload_n 0, 1) := by decide +kernel
theorem dX3_init_34 : decode cX3_init 34 = .ok (.aload_n 3, 1) := by decide +kernel
theorem dX3_init_35 : decode cX3_init 35 = .ok (.putfield 22, 3) := by decide +kernel
theorem dX3_init_38 : decode cX3_init 38 = .ok (.aload_n 0, 1) := by decide +kernel
theorem dX3_init_39 : decode cX3_init 39 = .ok (.aload 4, 2) := by decide +kernel
theorem dX3_init_41 : decode cX3_init 41 = .ok (.putfield 26, 3) := by decide +kernel
theorem dX3_init_44 : decode cX3_init 44 = .ok (.return_, 1) := by decide +kernel
theorem dX3_judge_0 : decode cX3_judge 0 = .ok (.aload_n 0, 1) := by decide +kernel
theorem dX3_judge_1 : decode cX3_judge 1 = .ok (.dup, 1) := by decide +kernel
theorem dX3_judge_2 : decode cX3_judge 2 = .ok (.getfield 29, 3) := by decide +kernel
theorem dX3_judge_5 : decode cX3_judge 5 = .ok (.iconst 1, 1) := by decide +kernel
theorem dX3_judge_6 : decode cX3_judge 6 = .ok (.iadd, 1) := by decide +kernel
theorem dX3_judge_7 : decode cX3_judge 7 = .ok (.putfield 29, 3) := by decide +kernel
theorem dX3_judge_10 : decode cX3_judge 10 = .ok (.aload_n 0, 1) := by decide +kernel
theorem dX3_judge_11 : decode cX3_judge 11 = .ok (.getfield 22, 3) := by decide +kernel
theorem dX3_judge_14 : decode cX3_judge 14 = .ok (.lload_n 1, 1) := by decide +kernel
theorem dX3_judge_15 : decode cX3_judge 15 = .ok (.aload_n 3, 1) := by decide +kernel
theorem dX3_judge_16 : decode cX3_judge 16 = .ok (.invokevirtual 32, 3) := by decide +kernel
theorem dX3_judge_19 : decode cX3_judge 19 = .ok (.istore 4, 2) := by decide +kernel
theorem dX3_judge_21 : decode cX3_judge 21 = .ok (.aload_n 0, 1) := by decide +kernel
theorem dX3_judge_22 : decode cX3_judge 22 = .ok (.getfield 26, 3) := by decide +kernel
theorem dX3_judge_25 : decode cX3_judge 25 = .ok (.ifnull 22, 3) := by decide +kernel
theorem dX3_judge_28 : decode cX3_judge 28 = .ok (.aload_n 0, 1) := by decide +kernel
theorem dX3_judge_29 : decode cX3_judge 29 = .ok (.iload 4, 2) := by decide +kernel
theorem dX3_judge_31 : decode cX3_judge 31 = .ok (.invokevirtual 36, 3) := by decide +kernel
theorem dX3_judge_34 : decode cX3_judge 34 = .ok (.ifCond .eq 13, 3) := by decide +kernel
theorem dX3_judge_37 : decode cX3_judge 37 = .ok (.aload_n 0, 1) := by decide +kernel
theorem dX3_judge_38 : decode cX3_judge 38 = .ok (.getfield 26, 3) := by decide +kernel
theorem dX3_judge_41 : decode cX3_judge 41 = .ok (.lload_n 1, 1) := by decide +kernel
theorem dX3_judge_42 : decode cX3_judge 42 = .ok (.aload_n 3, 1) := by decide +kernel
theorem dX3_judge_43 : decode cX3_judge 43 = .ok (.invokevirtual 32, 3) := by decide +kernel
theorem dX3_judge_46 : decode cX3_judge 46 = .ok (.ireturn, 1) := by decide +kernel
theorem dX3_judge_47 : decode cX3_judge 47 = .ok (.aload_n 0, 1) := by decide +kernel
theorem dX3_judge_48 : decode cX3_judge 48 = .ok (.getfield 17, 3) := by decide +kernel
theorem dX3_judge_51 : decode cX3_judge 51 = .ok (.bipush 7, 2) := by decide +kernel
theorem dX3_judge_53 : decode cX3_judge 53 = .ok (.if_icmp .ne 15, 3) := by decide +kernel
theorem dX3_judge_56 : decode cX3_judge 56 = .ok (.iload 4, 2) := by decide +kernel
theorem dX3_judge_58 : decode cX3_judge 58 = .ok (.ifCond .lt 10, 3) := by decide +kernel
theorem dX3_judge_61 : decode cX3_judge 61 = .ok (.iconst 1, 1) := by decide +kernel
theorem dX3_judge_62 : decode cX3_judge 62 = .ok (.iload 4, 2) := by decide +kernel
theorem dX3_judge_64 : decode cX3_judge 64 = .ok (.isub, 1) := by decide +kernel
theorem dX3_judge_65 : decode cX3_judge 65 = .ok (.goto 5, 3) := by decide +kernel
theorem dX3_judge_68 : decode cX3_judge 68 = .ok (.iload 4, 2) := by decide +kernel
theorem dX3_judge_70 : decode cX3_judge 70 = .ok (.ireturn, 1) := by decide +kernel
theorem dX3_leavesItToSecond_0 : decode cX3_leavesItToSecond 0 = .ok (.aload_n 0, 1) := by decide +kernel
theorem dX3_leavesItToSecond_1 : decode cX3_leavesItToSecond 1 = .ok (.getfield 17, 3) := by decide +kernel
theorem dX3_leavesItToSecond_4 : decode cX3_leavesItToSecond 4 = .ok (.lookupswitch 49 #[(8, 28), (9, 39)], 28) := by decide +kernel
theorem dX3_leavesItToSecond_32 : decode cX3_leavesItToSecond 32 = .ok (.iload_n 1, 1) := by decide +kernel
theorem dX3_leavesItToSecond_33 : decode cX3_leavesItToSecond 33 = .ok (.iconst 1, 1) := by decide +kernel
theorem dX3_leavesItToSecond_34 : decode cX3_leavesItToSecond 34 = .ok (.if_icmp .ne 7, 3) := by decide +kernel
theorem dX3_leavesItToSecond_37 : decode cX3_leavesItToSecond 37 = .ok (.iconst 1, 1) := by decide +kernel
theorem dX3_leavesItToSecond_38 : decode cX3_leavesItToSecond 38 = .ok (.goto 4, 3) := by decide +kernel
theorem dX3_leavesItToSecond_41 : decode cX3_leavesItToSecond 41 = .ok (.iconst 0, 1) := by decide +kernel
theorem dX3_leavesItToSecond_42 : decode cX3_leavesItToSecond 42 = .ok (.ireturn, 1) := by decide +kernel
theorem dX3_leavesItToSecond_43 : decode cX3_leavesItToSecond 43 = .ok (.iload_n 1, 1) := by decide +kernel
theorem dX3_leavesItToSecond_44 : decode cX3_leavesItToSecond 44 = .ok (.ifCond .ne 7, 3) := by decide +kernel
theorem dX3_leavesItToSecond_47 : decode cX3_leavesItToSecond 47 = .ok (.iconst 1, 1) := by decide +kernel
theorem dX3_leavesItToSecond_48 : decode cX3_leavesItToSecond 48 = .ok (.goto 4, 3) := by decide +kernel
theorem dX3_leavesItToSecond_51 : decode cX3_leavesItToSecond 51 = .ok (.iconst 0, 1) := by decide +kernel
theorem dX3_leavesItToSecond_52 : decode cX3_leavesItToSecond 52 = .ok (.ireturn, 1) := by decide +kernel
theorem dX3_leavesItToSecond_53 : decode cX3_leavesItToSecond 53 = .ok (.iload_n 1, 1) := by decide +kernel
theorem dX3_leavesItToSecond_54 : decode cX3_leavesItToSecond 54 = .ok (.invokestatic 40, 3) := by decide +kernel
theorem dX3_leavesItToSecond_57 : decode cX3_leavesItToSecond 57 = .ok (.ireturn, 1) := by decide +kernel
theorem dX3_timesAsked_0 : decode cX3_timesAsked 0 = .ok (.aload_n 0, 1) := by decide +kernel
theorem dX3_timesAsked_1 : decode cX3_timesAsked 1 = .ok (.getfield 17, 3) := by decide +kernel
theorem dX3_timesAsked_4 : decode cX3_timesAsked 4 = .ok (.bipush 11, 2) := by decide +kernel
theorem dX3_timesAsked_6 : decode cX3_timesAsked 6 = .ok (.if_icmp .ne 10, 3) := by decide +kernel
theorem dX3_timesAsked_9 : decode cX3_timesAsked 9 = .ok (.aload_n 0, 1) := by decide +kernel
theorem dX3_timesAsked_10 : decode cX3_timesAsked 10 = .ok (.getfield 29, 3) := by decide +kernel
theorem dX3_timesAsked_13 : decode cX3_timesAsked 13 = .ok (.goto 4, 3) := by decide +kernel
theorem dX3_timesAsked_16 : decode cX3_timesAsked 16 = .ok (.iconst 0, 1) := by decide +kernel
theorem dX3_timesAsked_17 : decode cX3_timesAsked 17 = .ok (.ireturn, 1) := by decide +kernel
theorem dX4_init_0 : decode cX4_init 0 = .ok (.aload_n 0, 1) := by decide +kernel
theorem dX4_init_1 : decode cX4_init 1 = .ok (.iload_n 1, 1) := by decide +kernel
theorem dX4_init_2 : decode cX4_init 2 = .ok (.iconst 1, 1) := by decide +kernel
theorem dX4_init_3 : decode cX4_init 3 = .ok (.invokespecial 3, 3) := by decide +kernel
theorem dX4_init_6 : decode cX4_init 6 = .ok (.aload_n 0, 1) := by decide +kernel
theorem dX4_init_7 : decode cX4_init 7 = .ok (.iload_n 2, 1) := by decide +kernel
theorem dX4_init_8 : decode cX4_init 8 = .ok (.putfield 9, 3) := by decide +kernel
theorem dX4_init_11 : decode cX4_init 11 = .ok (.aload_n 0, 1) := by decide +kernel
theorem dX4_init_12 : decode cX4_init 12 = .ok (.iload_n 3, 1) := by decide +kernel
theorem dX4_init_13 : decode cX4_init 13 = .ok (.putfield 15, 3) := by decide +kernel
theorem dX4_init_16 : decode cX4_init 16 = .ok (.aload_n 0, 1) := by decide +kernel
theorem dX4_init_17 : decode cX4_init 17 = .ok (.lload 4, 2) := by decide +kernel
theorem dX4_init_19 : decode cX4_init 19 = .ok (.putfield 18, 3) := by decide +kernel
theorem dX4_init_22 : decode cX4_init 22 = .ok (.return_, 1) := by decide +kernel
theorem dX4_judge_0 : decode cX4_judge 0 = .ok (.aload_n 0, 1) := by decide +kernel
theorem dX4_judge_1 : decode cX4_judge 1 = .ok (.getfield 9, 3) := by decide +kernel
theorem dX4_judge_4 : decode cX4_judge 4 = .ok (.tableswitch 150 0 4 #[36, 54, 100, 150, 143], 36) := by decide +kernel
theorem dX4_judge_40 : decode cX4_judge 40 = .ok (.lload_n 1, 1) := by decide +kernel
theorem dX4_judge_41 : decode cX4_judge 41 = .ok (.aload_n 0, 1) := by decide +kernel
theorem dX4_judge_42 : decode cX4_judge 42 = .ok (.getfield 18, 3) := by decide +kernel
theorem dX4_judge_45 : decode cX4_judge 45 = .ok (.lcmp, 1) := by decide +kernel
theorem dX4_judge_46 : decode cX4_judge 46 = .ok (.ifCond .ge 7, 3) := by decide +kernel
theorem dX4_judge_49 : decode cX4_judge 49 = .ok (.iconst 1, 1) := by decide +kernel
theorem dX4_judge_50 : decode cX4_judge 50 = .ok (.goto 4, 3) := by decide +kernel
theorem dX4_judge_53 : decode cX4_judge 53 = .ok (.iconst 0, 1) := by decide +kernel
theorem dX4_judge_54 : decode cX4_judge 54 = .ok (.invokestatic 22, 3) := by decide +kernel
theorem dX4_judge_57 : decode cX4_judge 57 = .ok (.ireturn, 1) := by decide +kernel
theorem dX4_judge_58 : decode cX4_judge 58 = .ok (.aload_n 0, 1) := by decide +kernel
theorem dX4_judge_59 : decode cX4_judge 59 = .ok (.getfield 18, 3) := by decide +kernel
theorem dX4_judge_62 : decode cX4_judge 62 = .ok (.lconst 0, 1) := by decide +kernel
theorem dX4_judge_63 : decode cX4_judge 63 = .ok (.lcmp, 1) := by decide +kernel
theorem dX4_judge_64 : decode cX4_judge 64 = .ok (.ifCond .ne 16, 3) := by decide +kernel
theorem dX4_judge_67 : decode cX4_judge 67 = .ok (.aload_n 3, 1) := by decide +kernel
theorem dX4_judge_68 : decode cX4_judge 68 = .ok (.bipush 6, 2) := by decide +kernel
theorem dX4_judge_70 : decode cX4_judge 70 = .ok (.aload_n 0, 1) := by decide +kernel
theorem dX4_judge_71 : decode cX4_judge 71 = .ok (.getfield 26, 3) := by decide +kernel
theorem dX4_judge_74 : decode cX4_judge 74 = .ok (.invokevirtual 29, 3) := by decide +kernel
theorem dX4_judge_77 : decode cX4_judge 77 = .ok (.goto 26, 3) := by decide +kernel
theorem dX4_judge_80 : decode cX4_judge 80 = .ok (.lload_n 1, 1) := by decide +kernel
theorem dX4_judge_81 : decode cX4_judge 81 = .ok (.aload_n 0, 1) := by decide +kernel
theorem dX4_judge_82 : decode cX4_judge 82 = .ok (.getfield 18, 3) := by decide +kernel
theorem dX4_judge_85 : decode cX4_judge 85 = .ok (.lrem, 1) := by decide +kernel
theorem dX4_judge_86 : decode cX4_judge 86 = .ok (.aload_n 0, 1) := by decide +kernel
theorem dX4_judge_87 : decode cX4_judge 87 = .ok (.getfield 15, 3) := by decide +kernel
theorem dX4_judge_90 : decode cX4_judge 90 = .ok (.i2l, 1) := by decide +kernel
theorem dX4_judge_91 : decode cX4_judge 91 = .ok (.lcmp, 1) := by decide +kernel
theorem dX4_judge_92 : decode cX4_judge 92 = .ok (.ifCond .ne 7, 3) := by decide +kernel
theorem dX4_judge_95 : decode cX4_judge 95 = .ok (.iconst 1, 1) := by decide +kernel
theorem dX4_judge_96 : decode cX4_judge 96 = .ok (.goto 4, 3) := by decide +kernel
theorem dX4_judge_99 : decode cX4_judge 99 = .ok (.iconst 0, 1) := by decide +kernel
theorem dX4_judge_100 : decode cX4_judge 100 = .ok (.invokestatic 22, 3) := by decide +kernel
theorem dX4_judge_103 : decode cX4_judge 103 = .ok (.ireturn, 1) := by decide +kernel
theorem dX4_judge_104 : decode cX4_judge 104 = .ok (.lload_n 1, 1) := by decide +kernel
theorem dX4_judge_105 : decode cX4_judge 105 = .ok (.lconst 0, 1) := by decide +kernel
theorem dX4_judge_106 : decode cX4_judge 106 = .ok (.lcmp, 1) := by decide +kernel
theorem dX4_judge_107 : decode cX4_judge 107 = .ok (.ifCond .ne 16, 3) := by decide +kernel
theorem dX4_judge_110 : decode cX4_judge 110 = .ok (.aload_n 3, 1) := by decide +kernel
theorem dX4_judge_111 : decode cX4_judge 111 = .ok (.bipush 6, 2) := by decide +kernel
theorem dX4_judge_113 : decode cX4_judge 113 = .ok (.aload_n 0, 1) := by decide +kernel
theorem dX4_judge_114 : decode cX4_judge 114 = .ok (.getfield 26, 3) := by decide +kernel
theorem dX4_judge_117 : decode cX4_judge 117 = .ok (.invokevirtual 29, 3) := by decide +kernel
theorem dX4_judge_120 : decode cX4_judge 120 = .ok (.goto 26, 3) := by decide +kernel
theorem dX4_judge_123 : decode cX4_judge 123 = .ok (.aload_n 0, 1) := by decide +kernel
theorem dX4_judge_124 : decode cX4_judge 124 = .ok (.getfield 18, 3) := by decide +kernel
theorem dX4_judge_127 : decode cX4_judge 127 = .ok (.lload_n 1, 1) := by decide +kernel
theorem dX4_judge_128 : decode cX4_judge 128 = .ok (.ldiv, 1) := by decide +kernel
theorem dX4_judge_129 : decode cX4_judge 129 = .ok (.aload_n 0, 1) := by decide +kernel
theorem dX4_judge_130 : decode cX4_judge 130 = .ok (.getfield 15, 3) := by decide +kernel
theorem dX4_judge_133 : decode cX4_judge 133 = .ok (.i2l, 1) := by decide +kernel
theorem dX4_judge_134 : decode cX4_judge 134 = .ok (.lcmp, 1) := by decide +kernel
theorem dX4_judge_135 : decode cX4_judge 135 = .ok (.ifCond .le 7, 3) := by decide +kernel
theorem dX4_judge_138 : decode cX4_judge 138 = .ok (.iconst 1, 1) := by decide +kernel
theorem dX4_judge_139 : decode cX4_judge 139 = .ok (.goto 4, 3) := by decide +kernel
theorem dX4_judge_142 : decode cX4_judge 142 = .ok (.iconst 0, 1) := by decide +kernel
theorem dX4_judge_143 : decode cX4_judge 143 = .ok (.invokestatic 22, 3) := by decide +kernel
theorem dX4_judge_146 : decode cX4_judge 146 = .ok (.ireturn, 1) := by decide +kernel
theorem dX4_judge_147 : decode cX4_judge 147 = .ok (.aload_n 0, 1) := by decide +kernel
theorem dX4_judge_148 : decode cX4_judge 148 = .ok (.lload_n 1, 1) := by decide +kernel
theorem dX4_judge_149 : decode cX4_judge 149 = .ok (.aload_n 3, 1) := by decide +kernel
theorem dX4_judge_150 : decode cX4_judge 150 = .ok (.invokevirtual 35, 3) := by decide +kernel
theorem dX4_judge_153 : decode cX4_judge 153 = .ok (.ireturn, 1) := by decide +kernel
theorem dX4_judge_154 : decode cX4_judge 154 = .ok (.lload_n 1, 1) := by decide +kernel
theorem dX4_judge_155 : decode cX4_judge 155 = .ok (.aload_n 0, 1) := by decide +kernel
theorem dX4_judge_156 : decode cX4_judge 156 = .ok (.getfield 18, 3) := by decide +kernel
theorem dX4_judge_159 : decode cX4_judge 159 = .ok (.lcmp, 1) := by decide +kernel
theorem dX4_judge_160 : decode cX4_judge 160 = .ok (.ifCond .ne 16, 3) := by decide +kernel
theorem dX4_judge_163 : decode cX4_judge 163 = .ok (.aload_n 3, 1) := by decide +kernel
theorem dX4_judge_164 : decode cX4_judge 164 = .ok (.bipush 7, 2) := by decide +kernel
theorem dX4_judge_166 : decode cX4_judge 166 = .ok (.aload_n 0, 1) := by decide +kernel
theorem dX4_judge_167 : decode cX4_judge 167 = .ok (.getfield 26, 3) := by decide +kernel
theorem dX4_judge_170 : decode cX4_judge 170 = .ok (.invokevirtual 29, 3) := by decide +kernel
theorem dX4_judge_173 : decode cX4_judge 173 = .ok (.goto 4, 3) := by decide +kernel
theorem dX4_judge_176 : decode cX4_judge 176 = .ok (.iconst 1, 1) := by decide +kernel
theorem dX4_judge_177 : decode cX4_judge 177 = .ok (.ireturn, 1) := by decide +kernel
theorem dX4_judgeRoom_0 : decode cX4_judgeRoom 0 = .ok (.lload_n 1, 1) := by decide +kernel
theorem dX4_judgeRoom_1 : decode cX4_judgeRoom 1 = .ok (.ldc2_w 39, 3) := by decide +kernel
theorem dX4_judgeRoom_4 : decode cX4_judgeRoom 4 = .ok (.lcmp, 1) := by decide +kernel
theorem dX4_judgeRoom_5 : decode cX4_judgeRoom 5 = .ok (.ifCond .le 14, 3) := by decide +kernel
theorem dX4_judgeRoom_8 : decode cX4_judgeRoom 8 = .ok (.aload_n 3, 1) := by decide +kernel
theorem dX4_judgeRoom_9 : decode cX4_judgeRoom 9 = .ok (.bipush 7, 2) := by decide +kernel
theorem dX4_judgeRoom_11 : decode cX4_judgeRoom 11 = .ok (.aload_n 0, 1) := by decide +kernel
theorem dX4_judgeRoom_12 : decode cX4_judgeRoom 12 = .ok (.getfield 26, 3) := by decide +kernel
theorem dX4_judgeRoom_15 : decode cX4_judgeRoom 15 = .ok (.invokevirtual 29, 3) := by decide +kernel
theorem dX4_judgeRoom_18 : decode cX4_judgeRoom 18 = .ok (.ireturn, 1) := by decide +kernel
theorem dX4_judgeRoom_19 : decode cX4_judgeRoom 19 = .ok (.lload_n 1, 1) := by decide +kernel
theorem dX4_judgeRoom_20 : decode cX4_judgeRoom 20 = .ok (.lconst 0, 1) := by decide +kernel
theorem dX4_judgeRoom_21 : decode cX4_judgeRoom 21 = .ok (.lcmp, 1) := by decide +kernel
theorem dX4_judgeRoom_22 : decode cX4_judgeRoom 22 = .ok (.ifCond .ge 15, 3) := by decide +kernel
theorem dX4_judgeRoom_25 : decode cX4_judgeRoom 25 = .ok (.aload_n 3, 1) := by decide +kernel
theorem dX4_judgeRoom_26 : decode cX4_judgeRoom 26 = .ok (.iconst 3, 1) := by decide +kernel
theorem dX4_judgeRoom_27 : decode cX4_judgeRoom 27 = .ok (.aload_n 0, 1) := by decide +kernel
theorem dX4_judgeRoom_28 : decode cX4_judgeRoom 28 = .ok (.getfield 26, 3) := by decide +kernel
theorem dX4_judgeRoom_31 : decode cX4_judgeRoom 31 = .ok (.invokevirtual 29, 3) := by decide +kernel
theorem dX4_judgeRoom_34 : decode cX4_judgeRoom 34 = .ok (.goto 20, 3) := by decide +kernel
theorem dX4_judgeRoom_37 : decode cX4_judgeRoom 37 = .ok (.lload_n 1, 1) := by decide +kernel
theorem dX4_judgeRoom_38 : decode cX4_judgeRoom 38 = .ok (.aload_n 0, 1) := by decide +kernel
theorem dX4_judgeRoom_39 : decode cX4_judgeRoom 39 = .ok (.getfield 18, 3) := by decide +kernel
theorem dX4_judgeRoom_42 : decode cX4_judgeRoom 42 = .ok (.lcmp, 1) := by decide +kernel
theorem dX4_judgeRoom_43 : decode cX4_judgeRoom 43 = .ok (.ifCond .lt 7, 3) := by decide +kernel
theorem dX4_judgeRoom_46 : decode cX4_judgeRoom 46 = .ok (.iconst 1, 1) := by decide +kernel
theorem dX4_judgeRoom_47 : decode cX4_judgeRoom 47 = .ok (.goto 4, 3) := by decide +kernel
theorem dX4_judgeRoom_50 : decode cX4_judgeRoom 50 = .ok (.iconst 0, 1) := by decide +kernel
theorem dX4_judgeRoom_51 : decode cX4_judgeRoom 51 = .ok (.invokestatic 22, 3) := by decide +kernel
theorem dX4_judgeRoom_54 : decode cX4_judgeRoom 54 = .ok (.ireturn, 1) := by decide +kernel
theorem dX5_init_0 : decode cX5_init 0 = .ok (.aload_n 0, 1) := by decide +kernel
theorem dX5_init_1 : decode cX5_init 1 = .ok (.invokespecial 3, 3) := by decide +kernel
theorem dX5_init_4 : decode cX5_init 4 = .ok (.aload_n 0, 1) := by decide +kernel
theorem dX5_init_5 : decode cX5_init 5 = .ok (.sipush 200, 3) := by decide +kernel
theorem dX5_init_8 : decode cX5_init 8 = .ok (.newarray .long, 2) := by decide +kernel
theorem dX5_init_10 : decode cX5_init 10 = .ok (.putfield 9, 3) := by decide +kernel
theorem dX5_init_13 : decode cX5_init 13 = .ok (.return_, 1) := by decide +kernel
theorem dX5_becomePlain_0 : decode cX5_becomePlain 0 = .ok (.aload_n 0, 1) := by decide +kernel
theorem dX5_becomePlain_1 : decode cX5_becomePlain 1 = .ok (.aload_n 1, 1) := by decide +kernel
theorem dX5_becomePlain_2 : decode cX5_becomePlain 2 = .ok (.putfield 15, 3) := by decide +kernel
theorem dX5_becomePlain_5 : decode cX5_becomePlain 5 = .ok (.aload_n 0, 1) := by decide +kernel
theorem dX5_becomePlain_6 : decode cX5_becomePlain 6 = .ok (.iconst 0, 1) := by decide +kernel
theorem dX5_becomePlain_7 : decode cX5_becomePlain 7 = .ok (.putfield 19, 3) := by decide +kernel
theorem dX5_becomePlain_10 : decode cX5_becomePlain 10 = .ok (.return_, 1) := by decide +kernel
theorem dX5_becomeGathered_0 : decode cX5_becomeGathered 0 = .ok (.aload_n 0, 1) := by decide +kernel
theorem dX5_becomeGathered_1 : decode cX5_becomeGathered 1 = .ok (.aconst_null, 1) := by decide +kernel
theorem dX5_becomeGathered_2 : decode cX5_becomeGathered 2 = .ok (.putfield 15, 3) := by decide +kernel
theorem dX5_becomeGathered_5 : decode cX5_becomeGathered 5 = .ok (.aload_n 0, 1) := by decide +kernel
theorem dX5_becomeGathered_6 : decode cX5_becomeGathered 6 = .ok (.iconst 0, 1) := by decide +kernel
theorem dX5_becomeGathered_7 : decode cX5_becomeGathered 7 = .ok (.putfield 19, 3) := by decide +kernel
theorem dX5_becomeGathered_10 : decode cX5_becomeGathered 10 = .ok (.iconst 0, 1) := by decide +kernel
theorem dX5_becomeGathered_11 : decode cX5_becomeGathered 11 = .ok (.istore_n 3, 1) := by decide +kernel
theorem dX5_becomeGathered_12 : decode cX5_becomeGathered 12 = .ok (.iload_n 3, 1) := by decide +kernel
theorem dX5_becomeGathered_13 : decode cX5_becomeGathered 13 = .ok (.iload_n 2, 1) := by decide +kernel
theorem dX5_becomeGathered_14 : decode cX5_becomeGathered 14 = .ok (.if_icmp .ge 65, 3) := by decide +kernel
theorem dX5_becomeGathered_17 : decode cX5_becomeGathered 17 = .ok (.iload_n 3, 1) := by decide +kernel
theorem dX5_becomeGathered_18 : decode cX5_becomeGathered 18 = .ok (.aload_n 1, 1) := by decide +kernel
theorem dX5_becomeGathered_19 : decode cX5_becomeGathered 19 = .ok (.arraylength, 1) := by decide +kernel
theorem dX5_becomeGathered_20 : decode cX5_becomeGathered 20 = .ok (.if_icmp .ge 59, 3) := by decide +kernel
theorem dX5_becomeGathered_23 : decode cX5_becomeGathered 23 = .ok (.aload_n 0, 1) := by decide +kernel
theorem dX5_becomeGathered_24 : decode cX5_becomeGathered 24 = .ok (.getfield 19, 3) := by decide +kernel
theorem dX5_becomeGathered_27 : decode cX5_becomeGathered 27 = .ok (.sipush 200, 3) := by decide +kernel
theorem dX5_becomeGathered_30 : decode cX5_becomeGathered 30 = .ok (.if_icmp .ge 43, 3) := by decide +kernel
theorem dX5_becomeGathered_33 : decode cX5_becomeGathered 33 = .ok (.aload_n 0, 1) := by decide +kernel
theorem dX5_becomeGathered_34 : decode cX5_becomeGathered 34 = .ok (.getfield 9, 3) := by decide +kernel
theorem dX5_becomeGathered_37 : decode cX5_becomeGathered 37 = .ok (.iconst 0, 1) := by decide +kernel
theorem dX5_becomeGathered_38 : decode cX5_becomeGathered 38 = .ok (.aload_n 0, 1) := by decide +kernel
theorem dX5_becomeGathered_39 : decode cX5_becomeGathered 39 = .ok (.getfield 19, 3) := by decide +kernel
theorem dX5_becomeGathered_42 : decode cX5_becomeGathered 42 = .ok (.aload_n 1, 1) := by decide +kernel
theorem dX5_becomeGathered_43 : decode cX5_becomeGathered 43 = .ok (.iload_n 3, 1) := by decide +kernel
theorem dX5_becomeGathered_44 : decode cX5_becomeGathered 44 = .ok (.laload, 1) := by decide +kernel
theorem dX5_becomeGathered_45 : decode cX5_becomeGathered 45 = .ok (.invokestatic 23, 3) := by decide +kernel
theorem dX5_becomeGathered_48 : decode cX5_becomeGathered 48 = .ok (.ifCond .ge 25, 3) := by decide +kernel
theorem dX5_becomeGathered_51 : decode cX5_becomeGathered 51 = .ok (.aload_n 0, 1) := by decide +kernel
theorem dX5_becomeGathered_52 : decode cX5_becomeGathered 52 = .ok (.getfield 9, 3) := by decide +kernel
theorem dX5_becomeGathered_55 : decode cX5_becomeGathered 55 = .ok (.aload_n 0, 1) := by decide +kernel
theorem dX5_becomeGathered_56 : decode cX5_becomeGathered 56 = .ok (.getfield 19, 3) := by decide +kernel
theorem dX5_becomeGathered_59 : decode cX5_becomeGathered 59 = .ok (.aload_n 1, 1) := by decide +kernel
theorem dX5_becomeGathered_60 : decode cX5_becomeGathered 60 = .ok (.iload_n 3, 1) := by decide +kernel
theorem dX5_becomeGathered_61 : decode cX5_becomeGathered 61 = .ok (.laload, 1) := by decide +kernel
theorem dX5_becomeGathered_62 : decode cX5_becomeGathered 62 = .ok (.lastore, 1) := by decide +kernel
theorem dX5_becomeGathered_63 : decode cX5_becomeGathered 63 = .ok (.aload_n 0, 1) := by decide +kernel
theorem dX5_becomeGathered_64 : decode cX5_becomeGathered 64 = .ok (.dup, 1) := by decide +kernel
theorem dX5_becomeGathered_65 : decode cX5_becomeGathered 65 = .ok (.getfield 19, 3) := by decide +kernel
theorem dX5_becomeGathered_68 : decode cX5_becomeGathered 68 = .ok (.iconst 1, 1) := by decide +kernel
theorem dX5_becomeGathered_69 : decode cX5_becomeGathered 69 = .ok (.iadd, 1) := by decide +kernel
theorem dX5_becomeGathered_70 : decode cX5_becomeGathered 70 = .ok (.putfield 19, 3) := by decide +kernel
theorem dX5_becomeGathered_73 : decode cX5_becomeGathered 73 = .ok (.iinc 3 1, 3) := by decide +kernel
theorem dX5_becomeGathered_76 : decode cX5_becomeGathered 76 = .ok (.goto (-64), 3) := by decide +kernel
theorem dX5_becomeGathered_79 : decode cX5_becomeGathered 79 = .ok (.return_, 1) := by decide +kernel
theorem dX5_many_0 : decode cX5_many 0 = .ok (.aload_n 0, 1) := by decide +kernel
theorem dX5_many_1 : decode cX5_many 1 = .ok (.getfield 15, 3) := by decide +kernel
theorem dX5_many_4 : decode cX5_many 4 = .ok (.ifnonnull 11, 3) := by decide +kernel
theorem dX5_many_7 : decode cX5_many 7 = .ok (.aload_n 0, 1) := by decide +kernel
theorem dX5_many_8 : decode cX5_many 8 = .ok (.getfield 19, 3) := by decide +kernel
theorem dX5_many_11 : decode cX5_many 11 = .ok (.i2l, 1) := by decide +kernel
theorem dX5_many_12 : decode cX5_many 12 = .ok (.goto 10, 3) := by decide +kernel
theorem dX5_many_15 : decode cX5_many 15 = .ok (.aload_n 0, 1) := by decide +kernel
theorem dX5_many_16 : decode cX5_many 16 = .ok (.getfield 15, 3) := by decide +kernel
theorem dX5_many_19 : decode cX5_many 19 = .ok (.getfield 27, 3) := by decide +kernel
theorem dX5_many_22 : decode cX5_many 22 = .ok (.lreturn, 1) := by decide +kernel
theorem dX5_numberAt_0 : decode cX5_numberAt 0 = .ok (.aload_n 0, 1) := by decide +kernel
theorem dX5_numberAt_1 : decode cX5_numberAt 1 = .ok (.getfield 15, 3) := by decide +kernel
theorem dX5_numberAt_4 : decode cX5_numberAt 4 = .ok (.ifnull 12, 3) := by decide +kernel
theorem dX5_numberAt_7 : decode cX5_numberAt 7 = .ok (.aload_n 0, 1) := by decide +kernel
theorem dX5_numberAt_8 : decode cX5_numberAt 8 = .ok (.getfield 15, 3) := by decide +kernel
theorem dX5_numberAt_11 : decode cX5_numberAt 11 = .ok (.lload_n 1, 1) := by decide +kernel
theorem dX5_numberAt_12 : decode cX5_numberAt 12 = .ok (.invokevirtual 32, 3) := by decide +kernel
theorem dX5_numberAt_15 : decode cX5_numberAt 15 = .ok (.lreturn, 1) := by decide +kernel
theorem dX5_numberAt_16 : decode cX5_numberAt 16 = .ok (.lload_n 1, 1) := by decide +kernel
theorem dX5_numberAt_17 : decode cX5_numberAt 17 = .ok (.lconst 0, 1) := by decide +kernel
theorem dX5_numberAt_18 : decode cX5_numberAt 18 = .ok (.lcmp, 1) := by decide +kernel
theorem dX5_numberAt_19 : decode cX5_numberAt 19 = .ok (.ifCond .lt 13, 3) := by decide +kernel
theorem dX5_numberAt_22 : decode cX5_numberAt 22 = .ok (.lload_n 1, 1) := by decide +kernel
theorem dX5_numberAt_23 : decode cX5_numberAt 23 = .ok (.aload_n 0, 1) := by decide +kernel
theorem dX5_numberAt_24 : decode cX5_numberAt 24 = .ok (.getfield 19, 3) := by decide +kernel
theorem dX5_numberAt_27 : decode cX5_numberAt 27 = .ok (.i2l, 1) := by decide +kernel
theorem dX5_numberAt_28 : decode cX5_numberAt 28 = .ok (.lcmp, 1) := by decide +kernel
theorem dX5_numberAt_29 : decode cX5_numberAt 29 = .ok (.ifCond .lt 7, 3) := by decide +kernel
theorem dX5_numberAt_32 : decode cX5_numberAt 32 = .ok (.lconst 0, 1) := by decide +kernel
theorem dX5_numberAt_33 : decode cX5_numberAt 33 = .ok (.goto 10, 3) := by decide +kernel
theorem dX5_numberAt_36 : decode cX5_numberAt 36 = .ok (.aload_n 0, 1) := by decide +kernel
theorem dX5_numberAt_37 : decode cX5_numberAt 37 = .ok (.getfield 9, 3) := by decide +kernel
theorem dX5_numberAt_40 : decode cX5_numberAt 40 = .ok (.lload_n 1, 1) := by decide +kernel
theorem dX5_numberAt_41 : decode cX5_numberAt 41 = .ok (.l2i, 1) := by decide +kernel
theorem dX5_numberAt_42 : decode cX5_numberAt 42 = .ok (.laload, 1) := by decide +kernel
theorem dX5_numberAt_43 : decode cX5_numberAt 43 = .ok (.lreturn, 1) := by decide +kernel
theorem dX5_indexOf_0 : decode cX5_indexOf 0 = .ok (.aload_n 0, 1) := by decide +kernel
theorem dX5_indexOf_1 : decode cX5_indexOf 1 = .ok (.getfield 15, 3) := by decide +kernel
theorem dX5_indexOf_4 : decode cX5_indexOf 4 = .ok (.ifnonnull 20, 3) := by decide +kernel
theorem dX5_indexOf_7 : decode cX5_indexOf 7 = .ok (.aload_n 0, 1) := by decide +kernel
theorem dX5_indexOf_8 : decode cX5_indexOf 8 = .ok (.getfield 9, 3) := by decide +kernel
theorem dX5_indexOf_11 : decode cX5_indexOf 11 = .ok (.iconst 0, 1) := by decide +kernel
theorem dX5_indexOf_12 : decode cX5_indexOf 12 = .ok (.aload_n 0, 1) := by decide +kernel
theorem dX5_indexOf_13 : decode cX5_indexOf 13 = .ok (.getfield 19, 3) := by decide +kernel
theorem dX5_indexOf_16 : decode cX5_indexOf 16 = .ok (.lload_n 1, 1) := by decide +kernel
theorem dX5_indexOf_17 : decode cX5_indexOf 17 = .ok (.invokestatic 23, 3) := by decide +kernel
theorem dX5_indexOf_20 : decode cX5_indexOf 20 = .ok (.i2l, 1) := by decide +kernel
theorem dX5_indexOf_21 : decode cX5_indexOf 21 = .ok (.goto 11, 3) := by decide +kernel
theorem dX5_indexOf_24 : decode cX5_indexOf 24 = .ok (.aload_n 0, 1) := by decide +kernel
theorem dX5_indexOf_25 : decode cX5_indexOf 25 = .ok (.getfield 15, 3) := by decide +kernel
theorem dX5_indexOf_28 : decode cX5_indexOf 28 = .ok (.lload_n 1, 1) := by decide +kernel
theorem dX5_indexOf_29 : decode cX5_indexOf 29 = .ok (.invokevirtual 36, 3) := by decide +kernel
theorem dX5_indexOf_32 : decode cX5_indexOf 32 = .ok (.lreturn, 1) := by decide +kernel
theorem dX6_init_0 : decode cX6_init 0 = .ok (.aload_n 0, 1) := by decide +kernel
theorem dX6_init_1 : decode cX6_init 1 = .ok (.invokespecial 3, 3) := by decide +kernel
theorem dX6_init_4 : decode cX6_init 4 = .ok (.aload_n 0, 1) := by decide +kernel
theorem dX6_init_5 : decode cX6_init 5 = .ok (.bipush 12, 2) := by decide +kernel
theorem dX6_init_7 : decode cX6_init 7 = .ok (.newarray .long, 2) := by decide +kernel
theorem dX6_init_9 : decode cX6_init 9 = .ok (.putfield 9, 3) := by decide +kernel
theorem dX6_init_12 : decode cX6_init 12 = .ok (.aload_n 0, 1) := by decide +kernel
theorem dX6_init_13 : decode cX6_init 13 = .ok (.iconst 0, 1) := by decide +kernel
theorem dX6_init_14 : decode cX6_init 14 = .ok (.putfield 15, 3) := by decide +kernel
theorem dX6_init_17 : decode cX6_init 17 = .ok (.return_, 1) := by decide +kernel
theorem dX6_hold_0 : decode cX6_hold 0 = .ok (.aload_n 0, 1) := by decide +kernel
theorem dX6_hold_1 : decode cX6_hold 1 = .ok (.iload_n 1, 1) := by decide +kernel
theorem dX6_hold_2 : decode cX6_hold 2 = .ok (.putfield 15, 3) := by decide +kernel
theorem dX6_hold_5 : decode cX6_hold 5 = .ok (.aload_n 0, 1) := by decide +kernel
theorem dX6_hold_6 : decode cX6_hold 6 = .ok (.iload_n 1, 1) := by decide +kernel
theorem dX6_hold_7 : decode cX6_hold 7 = .ok (.iconst 1, 1) := by decide +kernel
theorem dX6_hold_8 : decode cX6_hold 8 = .ok (.if_icmp .eq 8, 3) := by decide +kernel
theorem dX6_hold_11 : decode cX6_hold 11 = .ok (.iload_n 1, 1) := by decide +kernel
theorem dX6_hold_12 : decode cX6_hold 12 = .ok (.iconst 2, 1) := by decide +kernel
theorem dX6_hold_13 : decode cX6_hold 13 = .ok (.if_icmp .ne 7, 3) := by decide +kernel
theorem dX6_hold_16 : decode cX6_hold 16 = .ok (.iload_n 2, 1) := by decide +kernel
theorem dX6_hold_17 : decode cX6_hold 17 = .ok (.goto 4, 3) := by decide +kernel
theorem dX6_hold_20 : decode cX6_hold 20 = .ok (.iconst 0, 1) := by decide +kernel
theorem dX6_hold_21 : decode cX6_hold 21 = .ok (.putfield 19, 3) := by decide +kernel
theorem dX6_hold_24 : decode cX6_hold 24 = .ok (.aload_n 0, 1) := by decide +kernel
theorem dX6_hold_25 : decode cX6_hold 25 = .ok (.iload_n 1, 1) := by decide +kernel
theorem dX6_hold_26 : decode cX6_hold 26 = .ok (.iconst 3, 1) := by decide +kernel
theorem dX6_hold_27 : decode cX6_hold 27 = .ok (.if_icmp .ne 7, 3) := by decide +kernel
theorem dX6_hold_30 : decode cX6_hold 30 = .ok (.iload_n 2, 1) := by decide +kernel
theorem dX6_hold_31 : decode cX6_hold 31 = .ok (.goto 4, 3) := by decide +kernel
theorem dX6_hold_34 : decode cX6_hold 34 = .ok (.iconst 0, 1) := by decide +kernel
theorem dX6_hold_35 : decode cX6_hold 35 = .ok (.putfield 22, 3) := by decide +kernel
theorem dX6_hold_38 : decode cX6_hold 38 = .ok (.aload_n 0, 1) := by decide +kernel
theorem dX6_hold_39 : decode cX6_hold 39 = .ok (.getfield 9, 3) := by decide +kernel
theorem dX6_hold_42 : decode cX6_hold 42 = .ok (.lconst 0, 1) := by decide +kernel
theorem dX6_hold_43 : decode cX6_hold 43 = .ok (.invokestatic 25, 3) := by decide +kernel
theorem dX6_hold_46 : decode cX6_hold 46 = .ok (.return_, 1) := by decide +kernel
theorem dX6_rowFailure_0 : decode cX6_rowFailure 0 = .ok (.aload_n 0, 1) := by decide +kernel
theorem dX6_rowFailure_1 : decode cX6_rowFailure 1 = .ok (.getfield 15, 3) := by decide +kernel
theorem dX6_rowFailure_4 : decode cX6_rowFailure 4 = .ok (.ifCond .ne 5, 3) := by decide +kernel
theorem dX6_rowFailure_7 : decode cX6_rowFailure 7 = .ok (.iconst 1, 1) := by decide +kernel
theorem dX6_rowFailure_8 : decode cX6_rowFailure 8 = .ok (.ireturn, 1) := by decide +kernel
theorem dX6_rowFailure_9 : decode cX6_rowFailure 9 = .ok (.aload_n 0, 1) := by decide +kernel
theorem dX6_rowFailure_10 : decode cX6_rowFailure 10 = .ok (.getfield 15, 3) := by decide +kernel
theorem dX6_rowFailure_13 : decode cX6_rowFailure 13 = .ok (.iconst 3, 1) := by decide +kernel
theorem dX6_rowFailure_14 : decode cX6_rowFailure 14 = .ok (.if_icmp .ne 7, 3) := by decide +kernel
theorem dX6_rowFailure_17 : decode cX6_rowFailure 17 = .ok (.iconst 5, 1) := by decide +kernel
theorem dX6_rowFailure_18 : decode cX6_rowFailure 18 = .ok (.goto 4, 3) := by decide +kernel
theorem dX6_rowFailure_21 : decode cX6_rowFailure 21 = .ok (.iconst 0, 1) := by decide +kernel
theorem dX6_rowFailure_22 : decode cX6_rowFailure 22 = .ok (.ireturn, 1) := by decide +kernel
theorem dX6_hasItem_0 : decode cX6_hasItem 0 = .ok (.lload_n 1, 1) := by decide +kernel
theorem dX6_hasItem_1 : decode cX6_hasItem 1 = .ok (.lconst 0, 1) := by decide +kernel
theorem dX6_hasItem_2 : decode cX6_hasItem 2 = .ok (.lcmp, 1) := by decide +kernel
theorem dX6_hasItem_3 : decode cX6_hasItem 3 = .ok (.ifCond .lt 25, 3) := by decide +kernel
theorem dX6_hasItem_6 : decode cX6_hasItem 6 = .ok (.lload_n 1, 1) := by decide +kernel
theorem dX6_hasItem_7 : decode cX6_hasItem 7 = .ok (.aload_n 0, 1) := by decide +kernel
theorem dX6_hasItem_8 : decode cX6_hasItem 8 = .ok (.getfield 19, 3) := by decide +kernel
theorem dX6_hasItem_11 : decode cX6_hasItem 11 = .ok (.i2l, 1) := by decide +kernel
theorem dX6_hasItem_12 : decode cX6_hasItem 12 = .ok (.lcmp, 1) := by decide +kernel
theorem dX6_hasItem_13 : decode cX6_hasItem 13 = .ok (.ifCond .ge 15, 3) := by decide +kernel
theorem dX6_hasItem_16 : decode cX6_hasItem 16 = .ok (.lload_n 1, 1) := by decide +kernel
theorem dX6_hasItem_17 : decode cX6_hasItem 17 = .ok (.ldc2_w 31, 3) := by decide +kernel
theorem dX6_hasItem_20 : decode cX6_hasItem 20 = .ok (.lcmp, 1) := by decide +kernel
theorem dX6_hasItem_21 : decode cX6_hasItem 21 = .ok (.ifCond .ge 7, 3) := by decide +kernel
theorem dX6_hasItem_24 : decode cX6_hasItem 24 = .ok (.iconst 1, 1) := by decide +kernel
theorem dX6_hasItem_25 : decode cX6_hasItem 25 = .ok (.goto 4, 3) := by decide +kernel
theorem dX6_hasItem_28 : decode cX6_hasItem 28 = .ok (.iconst 0, 1) := by decide +kernel
theorem dX6_hasItem_29 : decode cX6_hasItem 29 = .ok (.ireturn, 1) := by decide +kernel
theorem dX6_setItem_0 : decode cX6_setItem 0 = .ok (.aload_n 0, 1) := by decide +kernel
theorem dX6_setItem_1 : decode cX6_setItem 1 = .ok (.iload_n 1, 1) := by decide +kernel
theorem dX6_setItem_2 : decode cX6_setItem 2 = .ok (.i2l, 1) := by decide +kernel
theorem dX6_setItem_3 : decode cX6_setItem 3 = .ok (.invokevirtual 33, 3) := by decide +kernel
theorem dX6_setItem_6 : decode cX6_setItem 6 = .ok (.ifCond .eq 24, 3) := by decide +kernel
theorem dX6_setItem_9 : decode cX6_setItem 9 = .ok (.aload_n 0, 1) := by decide +kernel
theorem dX6_setItem_10 : decode cX6_setItem 10 = .ok (.getfield 9, 3) := by decide +kernel
theorem dX6_setItem_13 : decode cX6_setItem 13 = .ok (.iload_n 1, 1) := by decide +kernel
theorem dX6_setItem_14 : decode cX6_setItem 14 = .ok (.aload_n 0, 1) := by decide +kernel
theorem dX6_setItem_15 : decode cX6_setItem 15 = .ok (.getfield 15, 3) := by decide +kernel
theorem dX6_setItem_18 : decode cX6_setItem 18 = .ok (.iconst 2, 1) := by decide +kernel
theorem dX6_setItem_19 : decode cX6_setItem 19 = .ok (.if_icmp .ne 9, 3) := by decide +kernel
theorem dX6_setItem_22 : decode cX6_setItem 22 = .ok (.lload_n 2, 1) := by decide +kernel
theorem dX6_setItem_23 : decode cX6_setItem 23 = .ok (.l2i, 1) := by decide +kernel
theorem dX6_setItem_24 : decode cX6_setItem 24 = .ok (.i2l, 1) := by decide +kernel
theorem dX6_setItem_25 : decode cX6_setItem 25 = .ok (.goto 4, 3) := by decide +kernel
theorem dX6_setItem_28 : decode cX6_setItem 28 = .ok (.lload_n 2, 1) := by decide +kernel
theorem dX6_setItem_29 : decode cX6_setItem 29 = .ok (.lastore, 1) := by decide +kernel
theorem dX6_setItem_30 : decode cX6_setItem 30 = .ok (.return_, 1) := by decide +kernel
theorem dX6_append_0 : decode cX6_append 0 = .ok (.aload_n 0, 1) := by decide +kernel
theorem dX6_append_1 : decode cX6_append 1 = .ok (.getfield 19, 3) := by decide +kernel
theorem dX6_append_4 : decode cX6_append 4 = .ok (.ifCond .lt 12, 3) := by decide +kernel
theorem dX6_append_7 : decode cX6_append 7 = .ok (.aload_n 0, 1) := by decide +kernel
theorem dX6_append_8 : decode cX6_append 8 = .ok (.getfield 19, 3) := by decide +kernel
theorem dX6_append_11 : decode cX6_append 11 = .ok (.bipush 12, 2) := by decide +kernel
theorem dX6_append_13 : decode cX6_append 13 = .ok (.if_icmp .lt 5, 3) := by decide +kernel
theorem dX6_append_16 : decode cX6_append 16 = .ok (.iconst 0, 1) := by decide +kernel
theorem dX6_append_17 : decode cX6_append 17 = .ok (.ireturn, 1) := by decide +kernel
theorem dX6_append_18 : decode cX6_append 18 = .ok (.aload_n 0, 1) := by decide +kernel
theorem dX6_append_19 : decode cX6_append 19 = .ok (.getfield 9, 3) := by decide +kernel
theorem dX6_append_22 : decode cX6_append 22 = .ok (.aload_n 0, 1) := by decide +kernel
theorem dX6_append_23 : decode cX6_append 23 = .ok (.dup, 1) := by decide +kernel
theorem dX6_append_24 : decode cX6_append 24 = .ok (.getfield 19, 3) := by decide +kernel
theorem dX6_append_27 : decode cX6_append 27 = .ok (.dup_x1, 1) := by decide +kernel
theorem dX6_append_28 : decode cX6_append 28 = .ok (.iconst 1, 1) := by decide +kernel
theorem dX6_append_29 : decode cX6_append 29 = .ok (.iadd, 1) := by decide +kernel
theorem dX6_append_30 : decode cX6_append 30 = .ok (.putfield 19, 3) := by decide +kernel
theorem dX6_append_33 : decode cX6_append 33 = .ok (.lload_n 1, 1) := by decide +kernel
theorem dX6_append_34 : decode cX6_append 34 = .ok (.lastore, 1) := by decide +kernel
theorem dX6_append_35 : decode cX6_append 35 = .ok (.iconst 1, 1) := by decide +kernel
theorem dX6_append_36 : decode cX6_append 36 = .ok (.ireturn, 1) := by decide +kernel
theorem dX7_init_0 : decode cX7_init 0 = .ok (.aload_n 0, 1) := by decide +kernel
theorem dX7_init_1 : decode cX7_init 1 = .ok (.iload_n 1, 1) := by decide +kernel
theorem dX7_init_2 : decode cX7_init 2 = .ok (.iconst 1, 1) := by decide +kernel
theorem dX7_init_3 : decode cX7_init 3 = .ok (.invokespecial 3, 3) := by decide +kernel
theorem dX7_init_6 : decode cX7_init 6 = .ok (.aload_n 0, 1) := by decide +kernel
theorem dX7_init_7 : decode cX7_init 7 = .ok (.aload_n 2, 1) := by decide +kernel
theorem dX7_init_8 : decode cX7_init 8 = .ok (.putfield 9, 3) := by decide +kernel
theorem dX7_init_11 : decode cX7_init 11 = .ok (.aload_n 0, 1) := by decide +kernel
theorem dX7_init_12 : decode cX7_init 12 = .ok (.iload_n 3, 1) := by decide +kernel
theorem dX7_init_13 : decode cX7_init 13 = .ok (.putfield 15, 3) := by decide +kernel
theorem dX7_init_16 : decode cX7_init 16 = .ok (.aload_n 0, 1) := by decide +kernel
theorem dX7_init_17 : decode cX7_init 17 = .ok (.lload 4, 2) := by decide +kernel
theorem dX7_init_19 : decode cX7_init 19 = .ok (.putfield 19, 3) := by decide +kernel
theorem dX7_init_22 : decode cX7_init 22 = .ok (.return_, 1) := by decide +kernel
theorem dX7_judge_0 : decode cX7_judge 0 = .ok (.aload_n 0, 1) := by decide +kernel
theorem dX7_judge_1 : decode cX7_judge 1 = .ok (.getfield 9, 3) := by decide +kernel
theorem dX7_judge_4 : decode cX7_judge 4 = .ok (.getfield 23, 3) := by decide +kernel
theorem dX7_judge_7 : decode cX7_judge 7 = .ok (.ifCond .ne 13, 3) := by decide +kernel
theorem dX7_judge_10 : decode cX7_judge 10 = .ok (.aload_n 3, 1) := by decide +kernel
theorem dX7_judge_11 : decode cX7_judge 11 = .ok (.iconst 1, 1) := by decide +kernel
theorem dX7_judge_12 : decode cX7_judge 12 = .ok (.aload_n 0, 1) := by decide +kernel
theorem dX7_judge_13 : decode cX7_judge 13 = .ok (.getfield 28, 3) := by decide +kernel
theorem dX7_judge_16 : decode cX7_judge 16 = .ok (.invokevirtual 31, 3) := by decide +kernel
theorem dX7_judge_19 : decode cX7_judge 19 = .ok (.ireturn, 1) := by decide +kernel
theorem dX7_judge_20 : decode cX7_judge 20 = .ok (.aload_n 0, 1) := by decide +kernel
theorem dX7_judge_21 : decode cX7_judge 21 = .ok (.getfield 9, 3) := by decide +kernel
theorem dX7_judge_24 : decode cX7_judge 24 = .ok (.getfield 23, 3) := by decide +kernel
theorem dX7_judge_27 : decode cX7_judge 27 = .ok (.aload_n 0, 1) := by decide +kernel
theorem dX7_judge_28 : decode cX7_judge 28 = .ok (.getfield 15, 3) := by decide +kernel
theorem dX7_judge_31 : decode cX7_judge 31 = .ok (.if_icmp .eq 13, 3) := by decide +kernel
theorem dX7_judge_34 : decode cX7_judge 34 = .ok (.aload_n 3, 1) := by decide +kernel
theorem dX7_judge_35 : decode cX7_judge 35 = .ok (.iconst 5, 1) := by decide +kernel
theorem dX7_judge_36 : decode cX7_judge 36 = .ok (.aload_n 0, 1) := by decide +kernel
theorem dX7_judge_37 : decode cX7_judge 37 = .ok (.getfield 28, 3) := by decide +kernel
theorem dX7_judge_40 : decode cX7_judge 40 = .ok (.invokevirtual 31, 3) := by decide +kernel
theorem dX7_judge_43 : decode cX7_judge 43 = .ok (.ireturn, 1) := by decide +kernel
theorem dX7_judge_44 : decode cX7_judge 44 = .ok (.aload_n 0, 1) := by decide +kernel
theorem dX7_judge_45 : decode cX7_judge 45 = .ok (.getfield 15, 3) := by decide +kernel
theorem dX7_judge_48 : decode cX7_judge 48 = .ok (.iconst 3, 1) := by decide +kernel
theorem dX7_judge_49 : decode cX7_judge 49 = .ok (.if_icmp .ne 25, 3) := by decide +kernel
theorem dX7_judge_52 : decode cX7_judge 52 = .ok (.lload_n 1, 1) := by decide +kernel
theorem dX7_judge_53 : decode cX7_judge 53 = .ok (.aload_n 0, 1) := by decide +kernel
theorem dX7_judge_54 : decode cX7_judge 54 = .ok (.getfield 9, 3) := by decide +kernel
theorem dX7_judge_57 : decode cX7_judge 57 = .ok (.getfield 37, 3) := by decide +kernel
theorem dX7_judge_60 : decode cX7_judge 60 = .ok (.i2l, 1) := by decide +kernel
theorem dX7_judge_61 : decode cX7_judge 61 = .ok (.lcmp, 1) := by decide +kernel
theorem dX7_judge_62 : decode cX7_judge 62 = .ok (.ifCond .le 7, 3) := by decide +kernel
theorem dX7_judge_65 : decode cX7_judge 65 = .ok (.iconst 1, 1) := by decide +kernel
theorem dX7_judge_66 : decode cX7_judge 66 = .ok (.goto 4, 3) := by decide +kernel
theorem dX7_judge_69 : decode cX7_judge 69 = .ok (.iconst 0, 1) := by decide +kernel
theorem dX7_judge_70 : decode cX7_judge 70 = .ok (.invokestatic 40, 3) := by decide +kernel
theorem dX7_judge_73 : decode cX7_judge 73 = .ok (.ireturn, 1) := by decide +kernel
theorem dX7_judge_74 : decode cX7_judge 74 = .ok (.aload_n 0, 1) := by decide +kernel
theorem dX7_judge_75 : decode cX7_judge 75 = .ok (.getfield 9, 3) := by decide +kernel
theorem dX7_judge_78 : decode cX7_judge 78 = .ok (.lload_n 1, 1) := by decide +kernel
theorem dX7_judge_79 : decode cX7_judge 79 = .ok (.invokevirtual 44, 3) := by decide +kernel
theorem dX7_judge_82 : decode cX7_judge 82 = .ok (.ifCond .ne 13, 3) := by decide +kernel
theorem dX7_judge_85 : decode cX7_judge 85 = .ok (.aload_n 3, 1) := by decide +kernel
theorem dX7_judge_86 : decode cX7_judge 86 = .ok (.iconst 2, 1) := by decide +kernel
theorem dX7_judge_87 : decode cX7_judge 87 = .ok (.aload_n 0, 1) := by decide +kernel
theorem dX7_judge_88 : decode cX7_judge 88 = .ok (.getfield 28, 3) := by decide +kernel
theorem dX7_judge_91 : decode cX7_judge 91 = .ok (.invokevirtual 31, 3) := by decide +kernel
theorem dX7_judge_94 : decode cX7_judge 94 = .ok (.ireturn, 1) := by decide +kernel
theorem dX7_judge_95 : decode cX7_judge 95 = .ok (.aload_n 0, 1) := by decide +kernel
theorem dX7_judge_96 : decode cX7_judge 96 = .ok (.getfield 9, 3) := by decide +kernel
theorem dX7_judge_99 : decode cX7_judge 99 = .ok (.getfield 48, 3) := by decide +kernel
theorem dX7_judge_102 : decode cX7_judge 102 = .ok (.lload_n 1, 1) := by decide +kernel
theorem dX7_judge_103 : decode cX7_judge 103 = .ok (.l2i, 1) := by decide +kernel
theorem dX7_judge_104 : decode cX7_judge 104 = .ok (.laload, 1) := by decide +kernel
theorem dX7_judge_105 : decode cX7_judge 105 = .ok (.aload_n 0, 1) := by decide +kernel
theorem dX7_judge_106 : decode cX7_judge 106 = .ok (.getfield 19, 3) := by decide +kernel
theorem dX7_judge_109 : decode cX7_judge 109 = .ok (.lcmp, 1) := by decide +kernel
theorem dX7_judge_110 : decode cX7_judge 110 = .ok (.ifCond .le 7, 3) := by decide +kernel
theorem dX7_judge_113 : decode cX7_judge 113 = .ok (.iconst 1, 1) := by decide +kernel
theorem dX7_judge_114 : decode cX7_judge 114 = .ok (.goto 4, 3) := by decide +kernel
theorem dX7_judge_117 : decode cX7_judge 117 = .ok (.iconst 0, 1) := by decide +kernel
theorem dX7_judge_118 : decode cX7_judge 118 = .ok (.invokestatic 40, 3) := by decide +kernel
theorem dX7_judge_121 : decode cX7_judge 121 = .ok (.ireturn, 1) := by decide +kernel
theorem dX8_init_0 : decode cX8_init 0 = .ok (.aload_n 0, 1) := by decide +kernel
theorem dX8_init_1 : decode cX8_init 1 = .ok (.invokespecial 3, 3) := by decide +kernel
theorem dX8_init_4 : decode cX8_init 4 = .ok (.aload_n 0, 1) := by decide +kernel
theorem dX8_init_5 : decode cX8_init 5 = .ok (.iconst 0, 1) := by decide +kernel
theorem dX8_init_6 : decode cX8_init 6 = .ok (.putfield 11, 3) := by decide +kernel
theorem dX8_init_9 : decode cX8_init 9 = .ok (.aload_n 0, 1) := by decide +kernel
theorem dX8_init_10 : decode cX8_init 10 = .ok (.iconst 1, 1) := by decide +kernel
theorem dX8_init_11 : decode cX8_init 11 = .ok (.putfield 15, 3) := by decide +kernel
theorem dX8_init_14 : decode cX8_init 14 = .ok (.aload_n 0, 1) := by decide +kernel
theorem dX8_init_15 : decode cX8_init 15 = .ok (.aload_n 1, 1) := by decide +kernel
theorem dX8_init_16 : decode cX8_init 16 = .ok (.putfield 18, 3) := by decide +kernel
theorem dX8_init_19 : decode cX8_init 19 = .ok (.aload_n 0, 1) := by decide +kernel
theorem dX8_init_20 : decode cX8_init 20 = .ok (.aconst_null, 1) := by decide +kernel
theorem dX8_init_21 : decode cX8_init 21 = .ok (.putfield 22, 3) := by decide +kernel
theorem dX8_init_24 : decode cX8_init 24 = .ok (.aload_n 0, 1) := by decide +kernel
theorem dX8_init_25 : decode cX8_init 25 = .ok (.aconst_null, 1) := by decide +kernel
theorem dX8_init_26 : decode cX8_init 26 = .ok (.putfield 26, 3) := by decide +kernel
theorem dX8_init_29 : decode cX8_init 29 = .ok (.aload_n 0, 1) := by decide +kernel
theorem dX8_init_30 : decode cX8_init 30 = .ok (.aconst_null, 1) := by decide +kernel
theorem dX8_init_31 : decode cX8_init 31 = .ok (.putfield 30, 3) := by decide +kernel
theorem dX8_init_34 : decode cX8_init 34 = .ok (.aload_n 0, 1) := by decide +kernel
theorem dX8_init_35 : decode cX8_init 35 = .ok (.aconst_null, 1) := by decide +kernel
theorem dX8_init_36 : decode cX8_init 36 = .ok (.putfield 33, 3) := by decide +kernel
theorem dX8_init_39 : decode cX8_init 39 = .ok (.aload_n 0, 1) := by decide +kernel
theorem dX8_init_40 : decode cX8_init 40 = .ok (.iconst 0, 1) := by decide +kernel
theorem dX8_init_41 : decode cX8_init 41 = .ok (.putfield 37, 3) := by decide +kernel
theorem dX8_init_44 : decode cX8_init 44 = .ok (.aload_n 0, 1) := by decide +kernel
theorem dX8_init_45 : decode cX8_init 45 = .ok (.lconst 0, 1) := by decide +kernel
theorem dX8_init_46 : decode cX8_init 46 = .ok (.putfield 40, 3) := by decide +kernel
theorem dX8_init_49 : decode cX8_init 49 = .ok (.return_, 1) := by decide +kernel
theorem dX8_init__0 : decode cX8_init_ 0 = .ok (.aload_n 0, 1) := by decide +kernel
theorem dX8_init__1 : decode cX8_init_ 1 = .ok (.invokespecial 3, 3) := by decide +kernel
theorem dX8_init__4 : decode cX8_init_ 4 = .ok (.aload_n 0, 1) := by decide +kernel
theorem dX8_init__5 : decode cX8_init_ 5 = .ok (.iload_n 1, 1) := by decide +kernel
theorem dX8_init__6 : decode cX8_init_ 6 = .ok (.putfield 11, 3) := by decide +kernel
theorem dX8_init__9 : decode cX8_init_ 9 = .ok (.aload_n 0, 1) := by decide +kernel
theorem dX8_init__10 : decode cX8_init_ 10 = .ok (.aload_n 2, 1) := by decide +kernel
theorem dX8_init__11 : decode cX8_init_ 11 = .ok (.aload_n 3, 1) := by decide +kernel
theorem dX8_init__12 : decode cX8_init_ 12 = .ok (.invokestatic 44, 3) := by decide +kernel
theorem dX8_init__15 : decode cX8_init_ 15 = .ok (.putfield 15, 3) := by decide +kernel
theorem dX8_init__18 : decode cX8_init_ 18 = .ok (.aload_n 0, 1) := by decide +kernel
theorem dX8_init__19 : decode cX8_init_ 19 = .ok (.iload_n 1, 1) := by decide +kernel
theorem dX8_init__20 : decode cX8_init_ 20 = .ok (.aload_n 2, 1) := by decide +kernel
theorem dX8_init__21 : decode cX8_init_ 21 = .ok (.iload 6, 2) := by decide +kernel
theorem dX8_init__23 : decode cX8_init_ 23 = .ok (.invokestatic 48, 3) := by decide +kernel
theorem dX8_init__26 : decode cX8_init_ 26 = .ok (.putfield 18, 3) := by decide +kernel
theorem dX8_init__29 : decode cX8_init_ 29 = .ok (.aload_n 0, 1) := by decide +kernel
theorem dX8_init__30 : decode cX8_init_ 30 = .ok (.aload 5, 2) := by decide +kernel
theorem dX8_init__32 : decode cX8_init_ 32 = .ok (.putfield 22, 3) := by decide +kernel
theorem dX8_init__35 : decode cX8_init_ 35 = .ok (.aload_n 0, 1) := by decide +kernel
theorem dX8_init__36 : decode cX8_init_ 36 = .ok (.aload_n 2, 1) := by decide +kernel
theorem dX8_init__37 : decode cX8_init_ 37 = .ok (.putfield 26, 3) := by decide +kernel
theorem dX8_init__40 : decode cX8_init_ 40 = .ok (.aload_n 0, 1) := by decide +kernel
theorem dX8_init__41 : decode cX8_init_ 41 = .ok (.aload_n 3, 1) := by decide +kernel
theorem dX8_init__42 : decode cX8_init_ 42 = .ok (.putfield 30, 3) := by decide +kernel
theorem dX8_init__45 : decode cX8_init_ 45 = .ok (.aload_n 0, 1) := by decide +kernel
theorem dX8_init__46 : decode cX8_init_ 46 = .ok (.aload 4, 2) := by decide +kernel
theorem dX8_init__48 : decode cX8_init_ 48 = .ok (.putfield 33, 3) := by decide +kernel
theorem dX8_init__51 : decode cX8_init_ 51 = .ok (.aload_n 0, 1) := by decide +kernel
theorem dX8_init__52 : decode cX8_init_ 52 = .ok (.iload 6, 2) := by decide +kernel
theorem dX8_init__54 : decode cX8_init_ 54 = .ok (.putfield 37, 3) := by decide +kernel
theorem dX8_init__57 : decode cX8_init_ 57 = .ok (.aload_n 0, 1) := by decide +kernel
theorem dX8_init__58 : decode cX8_init_ 58 = .ok (.lload 7, 2) := by decide +kernel
theorem dX8_init__60 : decode cX8_init_ 60 = .ok (.putfield 40, 3) := by decide +kernel
theorem dX8_init__63 : decode cX8_init_ 63 = .ok (.return_, 1) := by decide +kernel
theorem dX8_depthOver_0 : decode cX8_depthOver 0 = .ok (.iconst 1, 1) := by decide +kernel
theorem dX8_depthOver_1 : decode cX8_depthOver 1 = .ok (.aload_n 0, 1) := by decide +kernel
theorem dX8_depthOver_2 : decode cX8_depthOver 2 = .ok (.ifnonnull 7, 3) := by decide +kernel
theorem dX8_depthOver_5 : decode cX8_depthOver 5 = .ok (.iconst 0, 1) := by decide +kernel
theorem dX8_depthOver_6 : decode cX8_depthOver 6 = .ok (.goto 7, 3) := by decide +kernel
theorem dX8_depthOver_9 : decode cX8_depthOver 9 = .ok (.aload_n 0, 1) := by decide +kernel
theorem dX8_depthOver_10 : decode cX8_depthOver 10 = .ok (.getfield 15, 3) := by decide +kernel
theorem dX8_depthOver_13 : decode cX8_depthOver 13 = .ok (.aload_n 1, 1) := by decide +kernel
theorem dX8_depthOver_14 : decode cX8_depthOver 14 = .ok (.ifnonnull 7, 3) := by decide +kernel
theorem dX8_depthOver_17 : decode cX8_depthOver 17 = .ok (.iconst 0, 1) := by decide +kernel
theorem dX8_depthOver_18 : decode cX8_depthOver 18 = .ok (.goto 7, 3) := by decide +kernel
theorem dX8_depthOver_21 : decode cX8_depthOver 21 = .ok (.aload_n 1, 1) := by decide +kernel
theorem dX8_depthOver_22 : decode cX8_depthOver 22 = .ok (.getfield 15, 3) := by decide +kernel
theorem dX8_depthOver_25 : decode cX8_depthOver 25 = .ok (.invokestatic 52, 3) := by decide +kernel
theorem dX8_depthOver_28 : decode cX8_depthOver 28 = .ok (.iadd, 1) := by decide +kernel
theorem dX8_depthOver_29 : decode cX8_depthOver 29 = .ok (.ireturn, 1) := by decide +kernel
theorem dX8_plainOver_0 : decode cX8_plainOver 0 = .ok (.aload_n 1, 1) := by decide +kernel
theorem dX8_plainOver_1 : decode cX8_plainOver 1 = .ok (.ifnull 10, 3) := by decide +kernel
theorem dX8_plainOver_4 : decode cX8_plainOver 4 = .ok (.aload_n 1, 1) := by decide +kernel
theorem dX8_plainOver_5 : decode cX8_plainOver 5 = .ok (.getfield 18, 3) := by decide +kernel
theorem dX8_plainOver_8 : decode cX8_plainOver 8 = .ok (.ifnonnull 5, 3) := by decide +kernel
theorem dX8_plainOver_11 : decode cX8_plainOver 11 = .ok (.aconst_null, 1) := by decide +kernel
theorem dX8_plainOver_12 : decode cX8_plainOver 12 = .ok (.areturn, 1) := by decide +kernel
theorem dX8_plainOver_13 : decode cX8_plainOver 13 = .ok (.iload_n 0, 1) := by decide +kernel
theorem dX8_plainOver_14 : decode cX8_plainOver 14 = .ok (.lookupswitch 43 #[(5, 26), (8, 34)], 26) := by decide +kernel
theorem dX8_plainOver_40 : decode cX8_plainOver 40 = .ok (.aload_n 1, 1) := by decide +kernel
theorem dX8_plainOver_41 : decode cX8_plainOver 41 = .ok (.getfield 18, 3) := by decide +kernel
theorem dX8_plainOver_44 : decode cX8_plainOver 44 = .ok (.invokevirtual 58, 3) := by decide +kernel
theorem dX8_plainOver_47 : decode cX8_plainOver 47 = .ok (.areturn, 1) := by decide +kernel
theorem dX8_plainOver_48 : decode cX8_plainOver 48 = .ok (.aload_n 1, 1) := by decide +kernel
theorem dX8_plainOver_49 : decode cX8_plainOver 49 = .ok (.getfield 18, 3) := by decide +kernel
theorem dX8_plainOver_52 : decode cX8_plainOver 52 = .ok (.iload_n 2, 1) := by decide +kernel
theorem dX8_plainOver_53 : decode cX8_plainOver 53 = .ok (.invokevirtual 64, 3) := by decide +kernel
theorem dX8_plainOver_56 : decode cX8_plainOver 56 = .ok (.areturn, 1) := by decide +kernel
theorem dX8_plainOver_57 : decode cX8_plainOver 57 = .ok (.aconst_null, 1) := by decide +kernel
theorem dX8_plainOver_58 : decode cX8_plainOver 58 = .ok (.areturn, 1) := by decide +kernel
theorem dX8_gather_0 : decode cX8_gather 0 = .ok (.iload_n 2, 1) := by decide +kernel
theorem dX8_gather_1 : decode cX8_gather 1 = .ok (.ifCond .lt 13, 3) := by decide +kernel
theorem dX8_gather_4 : decode cX8_gather 4 = .ok (.iload_n 2, 1) := by decide +kernel
theorem dX8_gather_5 : decode cX8_gather 5 = .ok (.aload_n 1, 1) := by decide +kernel
theorem dX8_gather_6 : decode cX8_gather 6 = .ok (.arraylength, 1) := by decide +kernel
theorem dX8_gather_7 : decode cX8_gather 7 = .ok (.sipush 200, 3) := by decide +kernel
theorem dX8_gather_10 : decode cX8_gather 10 = .ok (.isub, 1) := by decide +kernel
theorem dX8_gather_11 : decode cX8_gather 11 = .ok (.if_icmp .le 6, 3) := by decide +kernel
theorem dX8_gather_14 : decode cX8_gather 14 = .ok (.bipush (-4), 2) := by decide +kernel
theorem dX8_gather_16 : decode cX8_gather 16 = .ok (.ireturn, 1) := by decide +kernel
theorem dX8_gather_17 : decode cX8_gather 17 = .ok (.aload_n 0, 1) := by decide +kernel
theorem dX8_gather_18 : decode cX8_gather 18 = .ok (.getfield 18, 3) := by decide +kernel
theorem dX8_gather_21 : decode cX8_gather 21 = .ok (.ifnull 10, 3) := by decide +kernel
theorem dX8_gather_24 : decode cX8_gather 24 = .ok (.aload_n 0, 1) := by decide +kernel
theorem dX8_gather_25 : decode cX8_gather 25 = .ok (.aload_n 1, 1) := by decide +kernel
theorem dX8_gather_26 : decode cX8_gather 26 = .ok (.iload_n 2, 1) := by decide +kernel
theorem dX8_gather_27 : decode cX8_gather 27 = .ok (.invokevirtual 68, 3) := by decide +kernel
theorem dX8_gather_30 : decode cX8_gather 30 = .ok (.ireturn, 1) := by decide +kernel
theorem dX8_gather_31 : decode cX8_gather 31 = .ok (.aload_n 0, 1) := by decide +kernel
theorem dX8_gather_32 : decode cX8_gather 32 = .ok (.getfield 26, 3) := by decide +kernel
theorem dX8_gather_35 : decode cX8_gather 35 = .ok (.ifnonnull 11, 3) := by decide +kernel
theorem dX8_gather_38 : decode cX8_gather 38 = .ok (.aload_n 0, 1) := by decide +kernel
theorem dX8_gather_39 : decode cX8_gather 39 = .ok (.aload_n 1, 1) := by decide +kernel
theorem dX8_gather_40 : decode cX8_gather 40 = .ok (.iload_n 2, 1) := by decide +kernel
theorem dX8_gather_41 : decode cX8_gather 41 = .ok (.aload_n 3, 1) := by decide +kernel
theorem dX8_gather_42 : decode cX8_gather 42 = .ok (.invokevirtual 72, 3) := by decide +kernel
theorem dX8_gather_45 : decode cX8_gather 45 = .ok (.ireturn, 1) := by decide +kernel
theorem dX8_gather_46 : decode cX8_gather 46 = .ok (.aload_n 0, 1) := by decide +kernel
theorem dX8_gather_47 : decode cX8_gather 47 = .ok (.getfield 26, 3) := by decide +kernel
theorem dX8_gather_50 : decode cX8_gather 50 = .ok (.aload_n 1, 1) := by decide +kernel
theorem dX8_gather_51 : decode cX8_gather 51 = .ok (.iload_n 2, 1) := by decide +kernel
theorem dX8_gather_52 : decode cX8_gather 52 = .ok (.aload_n 3, 1) := by decide +kernel
theorem dX8_gather_53 : decode cX8_gather 53 = .ok (.invokevirtual 76, 3) := by decide +kernel
theorem dX8_gather_56 : decode cX8_gather 56 = .ok (.istore 4, 2) := by decide +kernel
theorem dX8_gather_58 : decode cX8_gather 58 = .ok (.iload 4, 2) := by decide +kernel
theorem dX8_gather_60 : decode cX8_gather 60 = .ok (.ifCond .ge 6, 3) := by decide +kernel
theorem dX8_gather_63 : decode cX8_gather 63 = .ok (.iload 4, 2) := by decide +kernel
theorem dX8_gather_65 : decode cX8_gather 65 = .ok (.ireturn, 1) := by decide +kernel
theorem dX8_gather_66 : decode cX8_gather 66 = .ok (.aload_n 0, 1) := by decide +kernel
theorem dX8_gather_67 : decode cX8_gather 67 = .ok (.getfield 30, 3) := by decide +kernel
theorem dX8_gather_70 : decode cX8_gather 70 = .ok (.ifnonnull 15, 3) := by decide +kernel
theorem dX8_gather_73 : decode cX8_gather 73 = .ok (.aload_n 0, 1) := by decide +kernel
theorem dX8_gather_74 : decode cX8_gather 74 = .ok (.aload_n 1, 1) := by decide +kernel
theorem dX8_gather_75 : decode cX8_gather 75 = .ok (.iload_n 2, 1) := by decide +kernel
theorem dX8_gather_76 : decode cX8_gather 76 = .ok (.iload_n 2, 1) := by decide +kernel
theorem dX8_gather_77 : decode cX8_gather 77 = .ok (.iload 4, 2) := by decide +kernel
theorem dX8_gather_79 : decode cX8_gather 79 = .ok (.iadd, 1) := by decide +kernel
theorem dX8_gather_80 : decode cX8_gather 80 = .ok (.aload_n 3, 1) := by decide +kernel
theorem dX8_gather_81 : decode cX8_gather 81 = .ok (.invokevirtual 79, 3) := by decide +kernel
theorem dX8_gather_84 : decode cX8_gather 84 = .ok (.ireturn, 1) := by decide +kernel
theorem dX8_gather_85 : decode cX8_gather 85 = .ok (.aload_n 0, 1) := by decide +kernel
theorem dX8_gather_86 : decode cX8_gather 86 = .ok (.getfield 30, 3) := by decide +kernel
theorem dX8_gather_89 : decode cX8_gather 89 = .ok (.aload_n 1, 1) := by decide +kernel
theorem dX8_gather_90 : decode cX8_gather 90 = .ok (.iload_n 2, 1) := by decide +kernel
theorem dX8_gather_91 : decode cX8_gather 91 = .ok (.iload 4, 2) := by decide +kernel
theorem dX8_gather_93 : decode cX8_gather 93 = .ok (.iadd, 1) := by decide +kernel
theorem dX8_gather_94 : decode cX8_gather 94 = .ok (.aload_n 3, 1) := by decide +kernel
theorem dX8_gather_95 : decode cX8_gather 95 = .ok (.invokevirtual 76, 3) := by decide +kernel
theorem dX8_gather_98 : decode cX8_gather 98 = .ok (.istore 5, 2) := by decide +kernel
theorem dX8_gather_100 : decode cX8_gather 100 = .ok (.iload 5, 2) := by decide +kernel
theorem dX8_gather_102 : decode cX8_gather 102 = .ok (.ifCond .ge 8, 3) := by decide +kernel
theorem dX8_gather_105 : decode cX8_gather 105 = .ok (.iload 5, 2) := by decide +kernel
theorem dX8_gather_107 : decode cX8_gather 107 = .ok (.goto 20, 3) := by decide +kernel
theorem dX8_gather_110 : decode cX8_gather 110 = .ok (.aload_n 0, 1) := by decide +kernel
theorem dX8_gather_111 : decode cX8_gather 111 = .ok (.aload_n 1, 1) := by decide +kernel
theorem dX8_gather_112 : decode cX8_gather 112 = .ok (.iload_n 2, 1) := by decide +kernel
theorem dX8_gather_113 : decode cX8_gather 113 = .ok (.iload_n 2, 1) := by decide +kernel
theorem dX8_gather_114 : decode cX8_gather 114 = .ok (.iload 4, 2) := by decide +kernel
theorem dX8_gather_116 : decode cX8_gather 116 = .ok (.iadd, 1) := by decide +kernel
theorem dX8_gather_117 : decode cX8_gather 117 = .ok (.iload_n 2, 1) := by decide +kernel
theorem dX8_gather_118 : decode cX8_gather 118 = .ok (.iload 4, 2) := by decide +kernel
theorem dX8_gather_120 : decode cX8_gather 120 = .ok (.iadd, 1) := by decide +kernel
theorem dX8_gather_121 : decode cX8_gather 121 = .ok (.iload 5, 2) := by decide +kernel
theorem dX8_gather_123 : decode cX8_gather 123 = .ok (.iadd, 1) := by decide +kernel
theorem dX8_gather_124 : decode cX8_gather 124 = .ok (.invokevirtual 83, 3) := by decide +kernel
theorem dX8_gather_127 : decode cX8_gather 127 = .ok (.ireturn, 1) := by decide +kernel
theorem dX8_gatherPlain_0 : decode cX8_gatherPlain 0 = .ok (.aload_n 0, 1) := by decide +kernel
theorem dX8_gatherPlain_1 : decode cX8_gatherPlain 1 = .ok (.getfield 18, 3) := by decide +kernel
theorem dX8_gatherPlain_4 : decode cX8_gatherPlain 4 = .ok (.getfield 87, 3) := by decide +kernel
theorem dX8_gatherPlain_7 : decode cX8_gatherPlain 7 = .ok (.ldc2_w 90, 3) := by decide +kernel
theorem dX8_gatherPlain_10 : decode cX8_gatherPlain 10 = .ok (.lcmp, 1) := by decide +kernel
theorem dX8_gatherPlain_11 : decode cX8_gatherPlain 11 = .ok (.ifCond .le 6, 3) := by decide +kernel
theorem dX8_gatherPlain_14 : decode cX8_gatherPlain 14 = .ok (.bipush (-4), 2) := by decide +kernel
theorem dX8_gatherPlain_16 : decode cX8_gatherPlain 16 = .ok (.ireturn, 1) := by decide +kernel
theorem dX8_gatherPlain_17 : decode cX8_gatherPlain 17 = .ok (.aload_n 0, 1) := by decide +kernel
theorem dX8_gatherPlain_18 : decode cX8_gatherPlain 18 = .ok (.getfield 18, 3) := by decide +kernel
theorem dX8_gatherPlain_21 : decode cX8_gatherPlain 21 = .ok (.getfield 87, 3) := by decide +kernel
theorem dX8_gatherPlain_24 : decode cX8_gatherPlain 24 = .ok (.l2i, 1) := by decide +kernel
theorem dX8_gatherPlain_25 : decode cX8_gatherPlain 25 = .ok (.istore_n 3, 1) := by decide +kernel
theorem dX8_gatherPlain_26 : decode cX8_gatherPlain 26 = .ok (.iconst 0, 1) := by decide +kernel
theorem dX8_gatherPlain_27 : decode cX8_gatherPlain 27 = .ok (.istore 4, 2) := by decide +kernel
theorem dX8_gatherPlain_29 : decode cX8_gatherPlain 29 = .ok (.iload 4, 2) := by decide +kernel
theorem dX8_gatherPlain_31 : decode cX8_gatherPlain 31 = .ok (.iload_n 3, 1) := by decide +kernel
theorem dX8_gatherPlain_32 : decode cX8_gatherPlain 32 = .ok (.if_icmp .ge 25, 3) := by decide +kernel
theorem dX8_gatherPlain_35 : decode cX8_gatherPlain 35 = .ok (.aload_n 1, 1) := by decide +kernel
theorem dX8_gatherPlain_36 : decode cX8_gatherPlain 36 = .ok (.iload_n 2, 1) := by decide +kernel
theorem dX8_gatherPlain_37 : decode cX8_gatherPlain 37 = .ok (.iload 4, 2) := by decide +kernel
theorem dX8_gatherPlain_39 : decode cX8_gatherPlain 39 = .ok (.iadd, 1) := by decide +kernel
theorem dX8_gatherPlain_40 : decode cX8_gatherPlain 40 = .ok (.aload_n 0, 1) := by decide +kernel
theorem dX8_gatherPlain_41 : decode cX8_gatherPlain 41 = .ok (.getfield 18, 3) := by decide +kernel
theorem dX8_gatherPlain_44 : decode cX8_gatherPlain 44 = .ok (.iload 4, 2) := by decide +kernel
theorem dX8_gatherPlain_46 : decode cX8_gatherPlain 46 = .ok (.i2l, 1) := by decide +kernel
theorem dX8_gatherPlain_47 : decode cX8_gatherPlain 47 = .ok (.invokevirtual 92, 3) := by decide +kernel
theorem dX8_gatherPlain_50 : decode cX8_gatherPlain 50 = .ok (.lastore, 1) := by decide +kernel
theorem dX8_gatherPlain_51 : decode cX8_gatherPlain 51 = .ok (.iinc 4 1, 3) := by decide +kernel
theorem dX8_gatherPlain_54 : decode cX8_gatherPlain 54 = .ok (.goto (-25), 3) := by decide +kernel
theorem dX8_gatherPlain_57 : decode cX8_gatherPlain 57 = .ok (.iload_n 3, 1) := by decide +kernel
theorem dX8_gatherPlain_58 : decode cX8_gatherPlain 58 = .ok (.ireturn, 1) := by decide +kernel
theorem dX8_gatherRow_0 : decode cX8_gatherRow 0 = .ok (.aload_n 0, 1) := by decide +kernel
theorem dX8_gatherRow_1 : decode cX8_gatherRow 1 = .ok (.getfield 22, 3) := by decide +kernel
theorem dX8_gatherRow_4 : decode cX8_gatherRow 4 = .ok (.ifnonnull 5, 3) := by decide +kernel
theorem dX8_gatherRow_7 : decode cX8_gatherRow 7 = .ok (.iconst 0, 1) := by decide +kernel
theorem dX8_gatherRow_8 : decode cX8_gatherRow 8 = .ok (.ireturn, 1) := by decide +kernel
theorem dX8_gatherRow_9 : decode cX8_gatherRow 9 = .ok (.aload_n 0, 1) := by decide +kernel
theorem dX8_gatherRow_10 : decode cX8_gatherRow 10 = .ok (.getfield 22, 3) := by decide +kernel
theorem dX8_gatherRow_13 : decode cX8_gatherRow 13 = .ok (.invokevirtual 96, 3) := by decide +kernel
theorem dX8_gatherRow_16 : decode cX8_gatherRow 16 = .ok (.istore 4, 2) := by decide +kernel
theorem dX8_gatherRow_18 : decode cX8_gatherRow 18 = .ok (.iload 4, 2) := by decide +kernel
theorem dX8_gatherRow_20 : decode cX8_gatherRow 20 = .ok (.ifCond .eq 11, 3) := by decide +kernel
theorem dX8_gatherRow_23 : decode cX8_gatherRow 23 = .ok (.aload_n 3, 1) := by decide +kernel
theorem dX8_gatherRow_24 : decode cX8_gatherRow 24 = .ok (.iload 4, 2) := by decide +kernel
theorem dX8_gatherRow_26 : decode cX8_gatherRow 26 = .ok (.iconst (-1), 1) := by decide +kernel
theorem dX8_gatherRow_27 : decode cX8_gatherRow 27 = .ok (.invokevirtual 102, 3) := by decide +kernel
theorem dX8_gatherRow_30 : decode cX8_gatherRow 30 = .ok (.ireturn, 1) := by decide +kernel
theorem dX8_gatherRow_31 : decode cX8_gatherRow 31 = .ok (.iconst 0, 1) := by decide +kernel
theorem dX8_gatherRow_32 : decode cX8_gatherRow 32 = .ok (.istore 5, 2) := by decide +kernel
theorem dX8_gatherRow_34 : decode cX8_gatherRow 34 = .ok (.iload 5, 2) := by decide +kernel
theorem dX8_gatherRow_36 : decode cX8_gatherRow 36 = .ok (.aload_n 0, 1) := by decide +kernel
theorem dX8_gatherRow_37 : decode cX8_gatherRow 37 = .ok (.getfield 22, 3) := by decide +kernel
theorem dX8_gatherRow_40 : decode cX8_gatherRow 40 = .ok (.getfield 107, 3) := by decide +kernel
theorem dX8_gatherRow_43 : decode cX8_gatherRow 43 = .ok (.if_icmp .ge 25, 3) := by decide +kernel
theorem dX8_gatherRow_46 : decode cX8_gatherRow 46 = .ok (.aload_n 1, 1) := by decide +kernel
theorem dX8_gatherRow_47 : decode cX8_gatherRow 47 = .ok (.iload_n 2, 1) := by decide +kernel
theorem dX8_gatherRow_48 : decode cX8_gatherRow 48 = .ok (.iload 5, 2) := by decide +kernel
theorem dX8_gatherRow_50 : decode cX8_gatherRow 50 = .ok (.iadd, 1) := by decide +kernel
theorem dX8_gatherRow_51 : decode cX8_gatherRow 51 = .ok (.aload_n 0, 1) := by decide +kernel
theorem dX8_gatherRow_52 : decode cX8_gatherRow 52 = .ok (.getfield 22, 3) := by decide +kernel
theorem dX8_gatherRow_55 : decode cX8_gatherRow 55 = .ok (.getfield 109, 3) := by decide +kernel
theorem dX8_gatherRow_58 : decode cX8_gatherRow 58 = .ok (.iload 5, 2) := by decide +kernel
theorem dX8_gatherRow_60 : decode cX8_gatherRow 60 = .ok (.laload, 1) := by decide +kernel
theorem dX8_gatherRow_61 : decode cX8_gatherRow 61 = .ok (.lastore, 1) := by decide +kernel
theorem dX8_gatherRow_62 : decode cX8_gatherRow 62 = .ok (.iinc 5 1, 3) := by decide +kernel
theorem dX8_gatherRow_65 : decode cX8_gatherRow 65 = .ok (.goto (-31), 3) := by decide +kernel
theorem dX8_gatherRow_68 : decode cX8_gatherRow 68 = .ok (.aload_n 0, 1) := by decide +kernel
theorem dX8_gatherRow_69 : decode cX8_gatherRow 69 = .ok (.getfield 22, 3) := by decide +kernel
theorem dX8_gatherRow_72 : decode cX8_gatherRow 72 = .ok (.getfield 107, 3) := by decide +kernel
theorem dX8_gatherRow_75 : decode cX8_gatherRow 75 = .ok (.ireturn, 1) := by decide +kernel
theorem dX8_keepOfOne_0 : decode cX8_keepOfOne 0 = .ok (.aload_n 0, 1) := by decide +kernel
theorem dX8_keepOfOne_1 : decode cX8_keepOfOne 1 = .ok (.getfield 11, 3) := by decide +kernel
theorem dX8_keepOfOne_4 : decode cX8_keepOfOne 4 = .ok (.tableswitch 68 5 8 #[32, 42, 68, 60], 32) := by decide +kernel
theorem dX8_keepOfOne_36 : decode cX8_keepOfOne 36 = .ok (.aload_n 1, 1) := by decide +kernel
theorem dX8_keepOfOne_37 : decode cX8_keepOfOne 37 = .ok (.iload_n 2, 1) := by decide +kernel
theorem dX8_keepOfOne_38 : decode cX8_keepOfOne 38 = .ok (.iload_n 3, 1) := by decide +kernel
theorem dX8_keepOfOne_39 : decode cX8_keepOfOne 39 = .ok (.invokestatic 113, 3) := by decide +kernel
theorem dX8_keepOfOne_42 : decode cX8_keepOfOne 42 = .ok (.iload_n 3, 1) := by decide +kernel
theorem dX8_keepOfOne_43 : decode cX8_keepOfOne 43 = .ok (.iload_n 2, 1) := by decide +kernel
theorem dX8_keepOfOne_44 : decode cX8_keepOfOne 44 = .ok (.isub, 1) := by decide +kernel
theorem dX8_keepOfOne_45 : decode cX8_keepOfOne 45 = .ok (.ireturn, 1) := by decide +kernel
theorem dX8_keepOfOne_46 : decode cX8_keepOfOne 46 = .ok (.aload_n 0, 1) := by decide +kernel
theorem dX8_keepOfOne_47 : decode cX8_keepOfOne 47 = .ok (.aload_n 1, 1) := by decide +kernel
theorem dX8_keepOfOne_48 : decode cX8_keepOfOne 48 = .ok (.iload_n 2, 1) := by decide +kernel
theorem dX8_keepOfOne_49 : decode cX8_keepOfOne 49 = .ok (.iload_n 3, 1) := by decide +kernel
theorem dX8_keepOfOne_50 : decode cX8_keepOfOne 50 = .ok (.invokevirtual 117, 3) := by decide +kernel
theorem dX8_keepOfOne_53 : decode cX8_keepOfOne 53 = .ok (.aload_n 0, 1) := by decide +kernel
theorem dX8_keepOfOne_54 : decode cX8_keepOfOne 54 = .ok (.getfield 37, 3) := by decide +kernel
theorem dX8_keepOfOne_57 : decode cX8_keepOfOne 57 = .ok (.iload_n 3, 1) := by decide +kernel
theorem dX8_keepOfOne_58 : decode cX8_keepOfOne 58 = .ok (.iload_n 2, 1) := by decide +kernel
theorem dX8_keepOfOne_59 : decode cX8_keepOfOne 59 = .ok (.isub, 1) := by decide +kernel
theorem dX8_keepOfOne_60 : decode cX8_keepOfOne 60 = .ok (.invokestatic 120, 3) := by decide +kernel
theorem dX8_keepOfOne_63 : decode cX8_keepOfOne 63 = .ok (.ireturn, 1) := by decide +kernel
theorem dX8_keepOfOne_64 : decode cX8_keepOfOne 64 = .ok (.aload_n 0, 1) := by decide +kernel
theorem dX8_keepOfOne_65 : decode cX8_keepOfOne 65 = .ok (.aload_n 1, 1) := by decide +kernel
theorem dX8_keepOfOne_66 : decode cX8_keepOfOne 66 = .ok (.iload_n 2, 1) := by decide +kernel
theorem dX8_keepOfOne_67 : decode cX8_keepOfOne 67 = .ok (.iload_n 3, 1) := by decide +kernel
theorem dX8_keepOfOne_68 : decode cX8_keepOfOne 68 = .ok (.invokevirtual 123, 3) := by decide +kernel
theorem dX8_keepOfOne_71 : decode cX8_keepOfOne 71 = .ok (.ireturn, 1) := by decide +kernel
theorem dX8_keepOfOne_72 : decode cX8_keepOfOne 72 = .ok (.aload_n 0, 1) := by decide +kernel
theorem dX8_keepOfOne_73 : decode cX8_keepOfOne 73 = .ok (.aload_n 1, 1) := by decide +kernel
theorem dX8_keepOfOne_74 : decode cX8_keepOfOne 74 = .ok (.iload_n 2, 1) := by decide +kernel
theorem dX8_keepOfOne_75 : decode cX8_keepOfOne 75 = .ok (.iload_n 3, 1) := by decide +kernel
theorem dX8_keepOfOne_76 : decode cX8_keepOfOne 76 = .ok (.aload 4, 2) := by decide +kernel
theorem dX8_keepOfOne_78 : decode cX8_keepOfOne 78 = .ok (.invokevirtual 127, 3) := by decide +kernel
theorem dX8_keepOfOne_81 : decode cX8_keepOfOne 81 = .ok (.ireturn, 1) := by decide +kernel
theorem dX8_turn_0 : decode cX8_turn 0 = .ok (.iload_n 1, 1) := by decide +kernel
theorem dX8_turn_1 : decode cX8_turn 1 = .ok (.istore_n 3, 1) := by decide +kernel
theorem dX8_turn_2 : decode cX8_turn 2 = .ok (.iload_n 2, 1) := by decide +kernel
theorem dX8_turn_3 : decode cX8_turn 3 = .ok (.iconst 1, 1) := by decide +kernel
theorem dX8_turn_4 : decode cX8_turn 4 = .ok (.isub, 1) := by decide +kernel
theorem dX8_turn_5 : decode cX8_turn 5 = .ok (.istore 4, 2) := by decide +kernel
theorem dX8_turn_7 : decode cX8_turn 7 = .ok (.iload_n 3, 1) := by decide +kernel
theorem dX8_turn_8 : decode cX8_turn 8 = .ok (.iload 4, 2) := by decide +kernel
theorem dX8_turn_10 : decode cX8_turn 10 = .ok (.if_icmp .ge 30, 3) := by decide +kernel
theorem dX8_turn_13 : decode cX8_turn 13 = .ok (.aload_n 0, 1) := by decide +kernel
theorem dX8_turn_14 : decode cX8_turn 14 = .ok (.iload_n 3, 1) := by decide +kernel
theorem dX8_turn_15 : decode cX8_turn 15 = .ok (.laload, 1) := by decide +kernel
theorem dX8_turn_16 : decode cX8_turn 16 = .ok (.lstore 5, 2) := by decide +kernel
theorem dX8_turn_18 : decode cX8_turn 18 = .ok (.aload_n 0, 1) := by decide +kernel
theorem dX8_turn_19 : decode cX8_turn 19 = .ok (.iload_n 3, 1) := by decide +kernel
theorem dX8_turn_20 : decode cX8_turn 20 = .ok (.aload_n 0, 1) := by decide +kernel
theorem dX8_turn_21 : decode cX8_turn 21 = .ok (.iload 4, 2) := by decide +kernel
theorem dX8_turn_23 : decode cX8_turn 23 = .ok (.laload, 1) := by decide +kernel
theorem dX8_turn_24 : decode cX8_turn 24 = .ok (.lastore, 1) := by decide +kernel
theorem dX8_turn_25 : decode cX8_turn 25 = .ok (.aload_n 0, 1) := by decide +kernel
theorem dX8_turn_26 : decode cX8_turn 26 = .ok (.iload 4, 2) := by decide +kernel
theorem dX8_turn_28 : decode cX8_turn 28 = .ok (.lload 5, 2) := by decide +kernel
theorem dX8_turn_30 : decode cX8_turn 30 = .ok (.lastore, 1) := by decide +kernel
theorem dX8_turn_31 : decode cX8_turn 31 = .ok (.iinc 3 1, 3) := by decide +kernel
theorem dX8_turn_34 : decode cX8_turn 34 = .ok (.iinc 4 (-1), 3) := by decide +kernel
theorem dX8_turn_37 : decode cX8_turn 37 = .ok (.goto (-30), 3) := by decide +kernel
theorem dX8_turn_40 : decode cX8_turn 40 = .ok (.return_, 1) := by decide +kernel
theorem dX8_sortByNearness_0 : decode cX8_sortByNearness 0 = .ok (.iload_n 2, 1) := by decide +kernel
theorem dX8_sortByNearness_1 : decode cX8_sortByNearness 1 = .ok (.iconst 1, 1) := by decide +kernel
theorem dX8_sortByNearness_2 : decode cX8_sortByNearness 2 = .ok (.iadd, 1) := by decide +kernel
theorem dX8_sortByNearness_3 : decode cX8_sortByNearness 3 = .ok (.istore 4, 2) := by decide +kernel
theorem dX8_sortByNearness_5 : decode cX8_sortByNearness 5 = .ok (.iload 4, 2) := by decide +kernel
theorem dX8_sortByNearness_7 : decode cX8_sortByNearness 7 = .ok (.iload_n 3, 1) := by decide +kernel
theorem dX8_sortByNearness_8 : decode cX8_sortByNearness 8 = .ok (.if_icmp .ge 62, 3) := by decide +kernel
theorem dX8_sortByNearness_11 : decode cX8_sortByNearness 11 = .ok (.aload_n 1, 1) := by decide +kernel
theorem dX8_sortByNearness_12 : decode cX8_sortByNearness 12 = .ok (.iload 4, 2) := by decide +kernel
theorem dX8_sortByNearness_14 : decode cX8_sortByNearness 14 = .ok (.laload, 1) := by decide +kernel
theorem dX8_sortByNearness_15 : decode cX8_sortByNearness 15 = .ok (.lstore 5, 2) := by decide +kernel
theorem dX8_sortByNearness_17 : decode cX8_sortByNearness 17 = .ok (.iload 4, 2) := by decide +kernel
theorem dX8_sortByNearness_19 : decode cX8_sortByNearness 19 = .ok (.istore 7, 2) := by decide +kernel
theorem dX8_sortByNearness_21 : decode cX8_sortByNearness 21 = .ok (.iload 7, 2) := by decide +kernel
theorem dX8_sortByNearness_23 : decode cX8_sortByNearness 23 = .ok (.iload_n 2, 1) := by decide +kernel
theorem dX8_sortByNearness_24 : decode cX8_sortByNearness 24 = .ok (.if_icmp .le 34, 3) := by decide +kernel
theorem dX8_sortByNearness_27 : decode cX8_sortByNearness 27 = .ok (.aload_n 0, 1) := by decide +kernel
theorem dX8_sortByNearness_28 : decode cX8_sortByNearness 28 = .ok (.lload 5, 2) := by decide +kernel
theorem dX8_sortByNearness_30 : decode cX8_sortByNearness 30 = .ok (.aload_n 1, 1) := by decide +kernel
theorem dX8_sortByNearness_31 : decode cX8_sortByNearness 31 = .ok (.iload 7, 2) := by decide +kernel
theorem dX8_sortByNearness_33 : decode cX8_sortByNearness 33 = .ok (.iconst 1, 1) := by decide +kernel
theorem dX8_sortByNearness_34 : decode cX8_sortByNearness 34 = .ok (.isub, 1) := by decide +kernel
theorem dX8_sortByNearness_35 : decode cX8_sortByNearness 35 = .ok (.laload, 1) := by decide +kernel
theorem dX8_sortByNearness_36 : decode cX8_sortByNearness 36 = .ok (.invokevirtual 130, 3) := by decide +kernel
theorem dX8_sortByNearness_39 : decode cX8_sortByNearness 39 = .ok (.ifCond .eq 19, 3) := by decide +kernel
theorem dX8_sortByNearness_42 : decode cX8_sortByNearness 42 = .ok (.aload_n 1, 1) := by decide +kernel
theorem dX8_sortByNearness_43 : decode cX8_sortByNearness 43 = .ok (.iload 7, 2) := by decide +kernel
theorem dX8_sortByNearness_45 : decode cX8_sortByNearness 45 = .ok (.aload_n 1, 1) := by decide +kernel
theorem dX8_sortByNearness_46 : decode cX8_sortByNearness 46 = .ok (.iload 7, 2) := by decide +kernel
theorem dX8_sortByNearness_48 : decode cX8_sortByNearness 48 = .ok (.iconst 1, 1) := by decide +kernel
theorem dX8_sortByNearness_49 : decode cX8_sortByNearness 49 = .ok (.isub, 1) := by decide +kernel
theorem dX8_sortByNearness_50 : decode cX8_sortByNearness 50 = .ok (.laload, 1) := by decide +kernel
theorem dX8_sortByNearness_51 : decode cX8_sortByNearness 51 = .ok (.lastore, 1) := by decide +kernel
theorem dX8_sortByNearness_52 : decode cX8_sortByNearness 52 = .ok (.iinc 7 (-1), 3) := by decide +kernel
theorem dX8_sortByNearness_55 : decode cX8_sortByNearness 55 = .ok (.goto (-34), 3) := by decide +kernel
theorem dX8_sortByNearness_58 : decode cX8_sortByNearness 58 = .ok (.aload_n 1, 1) := by decide +kernel
theorem dX8_sortByNearness_59 : decode cX8_sortByNearness 59 = .ok (.iload 7, 2) := by decide +kernel
theorem dX8_sortByNearness_61 : decode cX8_sortByNearness 61 = .ok (.lload 5, 2) := by decide +kernel
theorem dX8_sortByNearness_63 : decode cX8_sortByNearness 63 = .ok (.lastore, 1) := by decide +kernel
theorem dX8_sortByNearness_64 : decode cX8_sortByNearness 64 = .ok (.iinc 4 1, 3) := by decide +kernel
theorem dX8_sortByNearness_67 : decode cX8_sortByNearness 67 = .ok (.goto (-62), 3) := by decide +kernel
theorem dX8_sortByNearness_70 : decode cX8_sortByNearness 70 = .ok (.return_, 1) := by decide +kernel
theorem dX8_isNearer_0 : decode cX8_isNearer 0 = .ok (.lload_n 1, 1) := by decide +kernel
theorem dX8_isNearer_1 : decode cX8_isNearer 1 = .ok (.aload_n 0, 1) := by decide +kernel
theorem dX8_isNearer_2 : decode cX8_isNearer 2 = .ok (.getfield 40, 3) := by decide +kernel
theorem dX8_isNearer_5 : decode cX8_isNearer 5 = .ok (.invokestatic 134, 3) := by decide +kernel
theorem dX8_isNearer_8 : decode cX8_isNearer 8 = .ok (.lstore 5, 2) := by decide +kernel
theorem dX8_isNearer_10 : decode cX8_isNearer 10 = .ok (.lload_n 3, 1) := by decide +kernel
theorem dX8_isNearer_11 : decode cX8_isNearer 11 = .ok (.aload_n 0, 1) := by decide +kernel
theorem dX8_isNearer_12 : decode cX8_isNearer 12 = .ok (.getfield 40, 3) := by decide +kernel
theorem dX8_isNearer_15 : decode cX8_isNearer 15 = .ok (.invokestatic 134, 3) := by decide +kernel
theorem dX8_isNearer_18 : decode cX8_isNearer 18 = .ok (.lstore 7, 2) := by decide +kernel
theorem dX8_isNearer_20 : decode cX8_isNearer 20 = .ok (.lload 5, 2) := by decide +kernel
theorem dX8_isNearer_22 : decode cX8_isNearer 22 = .ok (.lload 7, 2) := by decide +kernel
theorem dX8_isNearer_24 : decode cX8_isNearer 24 = .ok (.invokestatic 138, 3) := by decide +kernel
theorem dX8_isNearer_27 : decode cX8_isNearer 27 = .ok (.ifCond .ne 17, 3) := by decide +kernel
theorem dX8_isNearer_30 : decode cX8_isNearer 30 = .ok (.lload 5, 2) := by decide +kernel
theorem dX8_isNearer_32 : decode cX8_isNearer 32 = .ok (.lload 7, 2) := by decide +kernel
theorem dX8_isNearer_34 : decode cX8_isNearer 34 = .ok (.lcmp, 1) := by decide +kernel
theorem dX8_isNearer_35 : decode cX8_isNearer 35 = .ok (.ifCond .ne 13, 3) := by decide +kernel
theorem dX8_isNearer_38 : decode cX8_isNearer 38 = .ok (.lload_n 1, 1) := by decide +kernel
theorem dX8_isNearer_39 : decode cX8_isNearer 39 = .ok (.lload_n 3, 1) := by decide +kernel
theorem dX8_isNearer_40 : decode cX8_isNearer 40 = .ok (.lcmp, 1) := by decide +kernel
theorem dX8_isNearer_41 : decode cX8_isNearer 41 = .ok (.ifCond .ge 7, 3) := by decide +kernel
theorem dX8_isNearer_44 : decode cX8_isNearer 44 = .ok (.iconst 1, 1) := by decide +kernel
theorem dX8_isNearer_45 : decode cX8_isNearer 45 = .ok (.goto 4, 3) := by decide +kernel
theorem dX8_isNearer_48 : decode cX8_isNearer 48 = .ok (.iconst 0, 1) := by decide +kernel
theorem dX8_isNearer_49 : decode cX8_isNearer 49 = .ok (.ireturn, 1) := by decide +kernel
theorem dX8_keepEvery_0 : decode cX8_keepEvery 0 = .ok (.iconst 0, 1) := by decide +kernel
theorem dX8_keepEvery_1 : decode cX8_keepEvery 1 = .ok (.istore 4, 2) := by decide +kernel
theorem dX8_keepEvery_3 : decode cX8_keepEvery 3 = .ok (.iload_n 2, 1) := by decide +kernel
theorem dX8_keepEvery_4 : decode cX8_keepEvery 4 = .ok (.istore 5, 2) := by decide +kernel
theorem dX8_keepEvery_6 : decode cX8_keepEvery 6 = .ok (.iload 5, 2) := by decide +kernel
theorem dX8_keepEvery_8 : decode cX8_keepEvery 8 = .ok (.iload_n 3, 1) := by decide +kernel
theorem dX8_keepEvery_9 : decode cX8_keepEvery 9 = .ok (.if_icmp .ge 35, 3) := by decide +kernel
theorem dX8_keepEvery_12 : decode cX8_keepEvery 12 = .ok (.aload_n 0, 1) := by decide +kernel
theorem dX8_keepEvery_13 : decode cX8_keepEvery 13 = .ok (.getfield 37, 3) := by decide +kernel
theorem dX8_keepEvery_16 : decode cX8_keepEvery 16 = .ok (.ifCond .le 28, 3) := by decide +kernel
theorem dX8_keepEvery_19 : decode cX8_keepEvery 19 = .ok (.aload_n 1, 1) := by decide +kernel
theorem dX8_keepEvery_20 : decode cX8_keepEvery 20 = .ok (.iload_n 2, 1) := by decide +kernel
theorem dX8_keepEvery_21 : decode cX8_keepEvery 21 = .ok (.iload 4, 2) := by decide +kernel
theorem dX8_keepEvery_23 : decode cX8_keepEvery 23 = .ok (.iadd, 1) := by decide +kernel
theorem dX8_keepEvery_24 : decode cX8_keepEvery 24 = .ok (.aload_n 1, 1) := by decide +kernel
theorem dX8_keepEvery_25 : decode cX8_keepEvery 25 = .ok (.iload 5, 2) := by decide +kernel
theorem dX8_keepEvery_27 : decode cX8_keepEvery 27 = .ok (.laload, 1) := by decide +kernel
theorem dX8_keepEvery_28 : decode cX8_keepEvery 28 = .ok (.lastore, 1) := by decide +kernel
theorem dX8_keepEvery_29 : decode cX8_keepEvery 29 = .ok (.iinc 4 1, 3) := by decide +kernel
theorem dX8_keepEvery_32 : decode cX8_keepEvery 32 = .ok (.iload 5, 2) := by decide +kernel
theorem dX8_keepEvery_34 : decode cX8_keepEvery 34 = .ok (.aload_n 0, 1) := by decide +kernel
theorem dX8_keepEvery_35 : decode cX8_keepEvery 35 = .ok (.getfield 37, 3) := by decide +kernel
theorem dX8_keepEvery_38 : decode cX8_keepEvery 38 = .ok (.iadd, 1) := by decide +kernel
theorem dX8_keepEvery_39 : decode cX8_keepEvery 39 = .ok (.istore 5, 2) := by decide +kernel
theorem dX8_keepEvery_41 : decode cX8_keepEvery 41 = .ok (.goto (-35), 3) := by decide +kernel
theorem dX8_keepEvery_44 : decode cX8_keepEvery 44 = .ok (.iload 4, 2) := by decide +kernel
theorem dX8_keepEvery_46 : decode cX8_keepEvery 46 = .ok (.ireturn, 1) := by decide +kernel
theorem dX8_keepPassing_0 : decode cX8_keepPassing 0 = .ok (.iconst 0, 1) := by decide +kernel
theorem dX8_keepPassing_1 : decode cX8_keepPassing 1 = .ok (.istore 5, 2) := by decide +kernel
theorem dX8_keepPassing_3 : decode cX8_keepPassing 3 = .ok (.iload_n 2, 1) := by decide +kernel
theorem dX8_keepPassing_4 : decode cX8_keepPassing 4 = .ok (.istore 6, 2) := by decide +kernel
theorem dX8_keepPassing_6 : decode cX8_keepPassing 6 = .ok (.iload 6, 2) := by decide +kernel
theorem dX8_keepPassing_8 : decode cX8_keepPassing 8 = .ok (.iload_n 3, 1) := by decide +kernel
theorem dX8_keepPassing_9 : decode cX8_keepPassing 9 = .ok (.if_icmp .ge 83, 3) := by decide +kernel
theorem dX8_keepPassing_12 : decode cX8_keepPassing 12 = .ok (.aload_n 0, 1) := by decide +kernel
theorem dX8_keepPassing_13 : decode cX8_keepPassing 13 = .ok (.getfield 33, 3) := by decide +kernel
theorem dX8_keepPassing_16 : decode cX8_keepPassing 16 = .ok (.ifnull 76, 3) := by decide +kernel
theorem dX8_keepPassing_19 : decode cX8_keepPassing 19 = .ok (.aload_n 0, 1) := by decide +kernel
theorem dX8_keepPassing_20 : decode cX8_keepPassing 20 = .ok (.getfield 33, 3) := by decide +kernel
theorem dX8_keepPassing_23 : decode cX8_keepPassing 23 = .ok (.aload_n 1, 1) := by decide +kernel
theorem dX8_keepPassing_24 : decode cX8_keepPassing 24 = .ok (.iload 6, 2) := by decide +kernel
theorem dX8_keepPassing_26 : decode cX8_keepPassing 26 = .ok (.laload, 1) := by decide +kernel
theorem dX8_keepPassing_27 : decode cX8_keepPassing 27 = .ok (.aload 4, 2) := by decide +kernel
theorem dX8_keepPassing_29 : decode cX8_keepPassing 29 = .ok (.invokevirtual 141, 3) := by decide +kernel
theorem dX8_keepPassing_32 : decode cX8_keepPassing 32 = .ok (.istore 7, 2) := by decide +kernel
theorem dX8_keepPassing_34 : decode cX8_keepPassing 34 = .ok (.iload 7, 2) := by decide +kernel
theorem dX8_keepPassing_36 : decode cX8_keepPassing 36 = .ok (.iconst 1, 1) := by decide +kernel
theorem dX8_keepPassing_37 : decode cX8_keepPassing 37 = .ok (.if_icmp .ne 19, 3) := by decide +kernel
theorem dX8_keepPassing_40 : decode cX8_keepPassing 40 = .ok (.aload_n 1, 1) := by decide +kernel
theorem dX8_keepPassing_41 : decode cX8_keepPassing 41 = .ok (.iload_n 2, 1) := by decide +kernel
theorem dX8_keepPassing_42 : decode cX8_keepPassing 42 = .ok (.iload 5, 2) := by decide +kernel
theorem dX8_keepPassing_44 : decode cX8_keepPassing 44 = .ok (.iadd, 1) := by decide +kernel
theorem dX8_keepPassing_45 : decode cX8_keepPassing 45 = .ok (.aload_n 1, 1) := by decide +kernel
theorem dX8_keepPassing_46 : decode cX8_keepPassing 46 = .ok (.iload 6, 2) := by decide +kernel
theorem dX8_keepPassing_48 : decode cX8_keepPassing 48 = .ok (.laload, 1) := by decide +kernel
theorem dX8_keepPassing_49 : decode cX8_keepPassing 49 = .ok (.lastore, 1) := by decide +kernel
theorem dX8_keepPassing_50 : decode cX8_keepPassing 50 = .ok (.iinc 5 1, 3) := by decide +kernel
theorem dX8_keepPassing_53 : decode cX8_keepPassing 53 = .ok (.goto 33, 3) := by decide +kernel
theorem dX8_keepPassing_56 : decode cX8_keepPassing 56 = .ok (.iload 7, 2) := by decide +kernel
theorem dX8_keepPassing_58 : decode cX8_keepPassing 58 = .ok (.invokestatic 147, 3) := by decide +kernel
theorem dX8_keepPassing_61 : decode cX8_keepPassing 61 = .ok (.ifCond .eq 17, 3) := by decide +kernel
theorem dX8_keepPassing_64 : decode cX8_keepPassing 64 = .ok (.aload 4, 2) := by decide +kernel
theorem dX8_keepPassing_66 : decode cX8_keepPassing 66 = .ok (.aload_n 1, 1) := by decide +kernel
theorem dX8_keepPassing_67 : decode cX8_keepPassing 67 = .ok (.iload 6, 2) := by decide +kernel
theorem dX8_keepPassing_69 : decode cX8_keepPassing 69 = .ok (.laload, 1) := by decide +kernel
theorem dX8_keepPassing_70 : decode cX8_keepPassing 70 = .ok (.iload 7, 2) := by decide +kernel
theorem dX8_keepPassing_72 : decode cX8_keepPassing 72 = .ok (.invokevirtual 151, 3) := by decide +kernel
theorem dX8_keepPassing_75 : decode cX8_keepPassing 75 = .ok (.goto 11, 3) := by decide +kernel
theorem dX8_keepPassing_78 : decode cX8_keepPassing 78 = .ok (.iload 7, 2) := by decide +kernel
theorem dX8_keepPassing_80 : decode cX8_keepPassing 80 = .ok (.ifCond .ge 6, 3) := by decide +kernel
theorem dX8_keepPassing_83 : decode cX8_keepPassing 83 = .ok (.iload 7, 2) := by decide +kernel
theorem dX8_keepPassing_85 : decode cX8_keepPassing 85 = .ok (.ireturn, 1) := by decide +kernel
theorem dX8_keepPassing_86 : decode cX8_keepPassing 86 = .ok (.iinc 6 1, 3) := by decide +kernel
theorem dX8_keepPassing_89 : decode cX8_keepPassing 89 = .ok (.goto (-83), 3) := by decide +kernel
theorem dX8_keepPassing_92 : decode cX8_keepPassing 92 = .ok (.iload 5, 2) := by decide +kernel
theorem dX8_keepPassing_94 : decode cX8_keepPassing 94 = .ok (.ireturn, 1) := by decide +kernel
theorem dX8_keepOfTwo_0 : decode cX8_keepOfTwo 0 = .ok (.aload_n 0, 1) := by decide +kernel
theorem dX8_keepOfTwo_1 : decode cX8_keepOfTwo 1 = .ok (.getfield 11, 3) := by decide +kernel
theorem dX8_keepOfTwo_4 : decode cX8_keepOfTwo 4 = .ok (.iconst 2, 1) := by decide +kernel
theorem dX8_keepOfTwo_5 : decode cX8_keepOfTwo 5 = .ok (.if_icmp .ne 23, 3) := by decide +kernel
theorem dX8_keepOfTwo_8 : decode cX8_keepOfTwo 8 = .ok (.iload 4, 2) := by decide +kernel
theorem dX8_keepOfTwo_10 : decode cX8_keepOfTwo 10 = .ok (.iload_n 2, 1) := by decide +kernel
theorem dX8_keepOfTwo_11 : decode cX8_keepOfTwo 11 = .ok (.isub, 1) := by decide +kernel
theorem dX8_keepOfTwo_12 : decode cX8_keepOfTwo 12 = .ok (.sipush 200, 3) := by decide +kernel
theorem dX8_keepOfTwo_15 : decode cX8_keepOfTwo 15 = .ok (.if_icmp .le 8, 3) := by decide +kernel
theorem dX8_keepOfTwo_18 : decode cX8_keepOfTwo 18 = .ok (.bipush (-4), 2) := by decide +kernel
theorem dX8_keepOfTwo_20 : decode cX8_keepOfTwo 20 = .ok (.goto 7, 3) := by decide +kernel
theorem dX8_keepOfTwo_23 : decode cX8_keepOfTwo 23 = .ok (.iload 4, 2) := by decide +kernel
theorem dX8_keepOfTwo_25 : decode cX8_keepOfTwo 25 = .ok (.iload_n 2, 1) := by decide +kernel
theorem dX8_keepOfTwo_26 : decode cX8_keepOfTwo 26 = .ok (.isub, 1) := by decide +kernel
theorem dX8_keepOfTwo_27 : decode cX8_keepOfTwo 27 = .ok (.ireturn, 1) := by decide +kernel
theorem dX8_keepOfTwo_28 : decode cX8_keepOfTwo 28 = .ok (.iconst 0, 1) := by decide +kernel
theorem dX8_keepOfTwo_29 : decode cX8_keepOfTwo 29 = .ok (.istore 5, 2) := by decide +kernel
theorem dX8_keepOfTwo_31 : decode cX8_keepOfTwo 31 = .ok (.iload_n 2, 1) := by decide +kernel
theorem dX8_keepOfTwo_32 : decode cX8_keepOfTwo 32 = .ok (.istore 6, 2) := by decide +kernel
theorem dX8_keepOfTwo_34 : decode cX8_keepOfTwo 34 = .ok (.iload 6, 2) := by decide +kernel
theorem dX8_keepOfTwo_36 : decode cX8_keepOfTwo 36 = .ok (.iload_n 3, 1) := by decide +kernel
theorem dX8_keepOfTwo_37 : decode cX8_keepOfTwo 37 = .ok (.if_icmp .ge 61, 3) := by decide +kernel
theorem dX8_keepOfTwo_40 : decode cX8_keepOfTwo 40 = .ok (.aload_n 1, 1) := by decide +kernel
theorem dX8_keepOfTwo_41 : decode cX8_keepOfTwo 41 = .ok (.iload_n 3, 1) := by decide +kernel
theorem dX8_keepOfTwo_42 : decode cX8_keepOfTwo 42 = .ok (.iload 4, 2) := by decide +kernel
theorem dX8_keepOfTwo_44 : decode cX8_keepOfTwo 44 = .ok (.aload_n 1, 1) := by decide +kernel
theorem dX8_keepOfTwo_45 : decode cX8_keepOfTwo 45 = .ok (.iload 6, 2) := by decide +kernel
theorem dX8_keepOfTwo_47 : decode cX8_keepOfTwo 47 = .ok (.laload, 1) := by decide +kernel
theorem dX8_keepOfTwo_48 : decode cX8_keepOfTwo 48 = .ok (.invokestatic 155, 3) := by decide +kernel
theorem dX8_keepOfTwo_51 : decode cX8_keepOfTwo 51 = .ok (.ifCond .lt 7, 3) := by decide +kernel
theorem dX8_keepOfTwo_54 : decode cX8_keepOfTwo 54 = .ok (.iconst 1, 1) := by decide +kernel
theorem dX8_keepOfTwo_55 : decode cX8_keepOfTwo 55 = .ok (.goto 4, 3) := by decide +kernel
theorem dX8_keepOfTwo_58 : decode cX8_keepOfTwo 58 = .ok (.iconst 0, 1) := by decide +kernel
theorem dX8_keepOfTwo_59 : decode cX8_keepOfTwo 59 = .ok (.istore 7, 2) := by decide +kernel
theorem dX8_keepOfTwo_61 : decode cX8_keepOfTwo 61 = .ok (.iload 7, 2) := by decide +kernel
theorem dX8_keepOfTwo_63 : decode cX8_keepOfTwo 63 = .ok (.aload_n 0, 1) := by decide +kernel
theorem dX8_keepOfTwo_64 : decode cX8_keepOfTwo 64 = .ok (.getfield 11, 3) := by decide +kernel
theorem dX8_keepOfTwo_67 : decode cX8_keepOfTwo 67 = .ok (.iconst 3, 1) := by decide +kernel
theorem dX8_keepOfTwo_68 : decode cX8_keepOfTwo 68 = .ok (.if_icmp .ne 7, 3) := by decide +kernel
theorem dX8_keepOfTwo_71 : decode cX8_keepOfTwo 71 = .ok (.iconst 1, 1) := by decide +kernel
theorem dX8_keepOfTwo_72 : decode cX8_keepOfTwo 72 = .ok (.goto 4, 3) := by decide +kernel
theorem dX8_keepOfTwo_75 : decode cX8_keepOfTwo 75 = .ok (.iconst 0, 1) := by decide +kernel
theorem dX8_keepOfTwo_76 : decode cX8_keepOfTwo 76 = .ok (.if_icmp .ne 16, 3) := by decide +kernel
theorem dX8_keepOfTwo_79 : decode cX8_keepOfTwo 79 = .ok (.aload_n 1, 1) := by decide +kernel
theorem dX8_keepOfTwo_80 : decode cX8_keepOfTwo 80 = .ok (.iload_n 2, 1) := by decide +kernel
theorem dX8_keepOfTwo_81 : decode cX8_keepOfTwo 81 = .ok (.iload 5, 2) := by decide +kernel
theorem dX8_keepOfTwo_83 : decode cX8_keepOfTwo 83 = .ok (.iadd, 1) := by decide +kernel
theorem dX8_keepOfTwo_84 : decode cX8_keepOfTwo 84 = .ok (.aload_n 1, 1) := by decide +kernel
theorem dX8_keepOfTwo_85 : decode cX8_keepOfTwo 85 = .ok (.iload 6, 2) := by decide +kernel
theorem dX8_keepOfTwo_87 : decode cX8_keepOfTwo 87 = .ok (.laload, 1) := by decide +kernel
theorem dX8_keepOfTwo_88 : decode cX8_keepOfTwo 88 = .ok (.lastore, 1) := by decide +kernel
theorem dX8_keepOfTwo_89 : decode cX8_keepOfTwo 89 = .ok (.iinc 5 1, 3) := by decide +kernel
theorem dX8_keepOfTwo_92 : decode cX8_keepOfTwo 92 = .ok (.iinc 6 1, 3) := by decide +kernel
theorem dX8_keepOfTwo_95 : decode cX8_keepOfTwo 95 = .ok (.goto (-61), 3) := by decide +kernel
theorem dX8_keepOfTwo_98 : decode cX8_keepOfTwo 98 = .ok (.iload 5, 2) := by decide +kernel
theorem dX8_keepOfTwo_100 : decode cX8_keepOfTwo 100 = .ok (.ireturn, 1) := by decide +kernel
theorem dX9_init_0 : decode cX9_init 0 = .ok (.aload_n 0, 1) := by decide +kernel
theorem dX9_init_1 : decode cX9_init 1 = .ok (.invokespecial 1, 3) := by decide +kernel
theorem dX9_init_4 : decode cX9_init 4 = .ok (.aload_n 0, 1) := by decide +kernel
theorem dX9_init_5 : decode cX9_init 5 = .ok (.lload_n 1, 1) := by decide +kernel
theorem dX9_init_6 : decode cX9_init 6 = .ok (.putfield 7, 3) := by decide +kernel
theorem dX9_init_9 : decode cX9_init 9 = .ok (.aload_n 0, 1) := by decide +kernel
theorem dX9_init_10 : decode cX9_init 10 = .ok (.lload_n 3, 1) := by decide +kernel
theorem dX9_init_11 : decode cX9_init 11 = .ok (.putfield 13, 3) := by decide +kernel
theorem dX9_init_14 : decode cX9_init 14 = .ok (.aload_n 0, 1) := by decide +kernel
theorem dX9_init_15 : decode cX9_init 15 = .ok (.iload 5, 2) := by decide +kernel
theorem dX9_init_17 : decode cX9_init 17 = .ok (.putfield 16, 3) := by decide +kernel
theorem dX9_init_20 : decode cX9_init 20 = .ok (.aload_n 0, 1) := by decide +kernel
theorem dX9_init_21 : decode cX9_init 21 = .ok (.lload 6, 2) := by decide +kernel
theorem dX9_init_23 : decode cX9_init 23 = .ok (.putfield 20, 3) := by decide +kernel
theorem dX9_init_26 : decode cX9_init 26 = .ok (.return_, 1) := by decide +kernel
theorem dX9_numberAt_0 : decode cX9_numberAt 0 = .ok (.aload_n 0, 1) := by decide +kernel
theorem dX9_numberAt_1 : decode cX9_numberAt 1 = .ok (.getfield 16, 3) := by decide +kernel
theorem dX9_numberAt_4 : decode cX9_numberAt 4 = .ok (.ifCond .eq 17, 3) := by decide +kernel
theorem dX9_numberAt_7 : decode cX9_numberAt 7 = .ok (.aload_n 0, 1) := by decide +kernel
theorem dX9_numberAt_8 : decode cX9_numberAt 8 = .ok (.getfield 7, 3) := by decide +kernel
theorem dX9_numberAt_11 : decode cX9_numberAt 11 = .ok (.lload_n 1, 1) := by decide +kernel
theorem dX9_numberAt_12 : decode cX9_numberAt 12 = .ok (.aload_n 0, 1) := by decide +kernel
theorem dX9_numberAt_13 : decode cX9_numberAt 13 = .ok (.getfield 13, 3) := by decide +kernel
theorem dX9_numberAt_16 : decode cX9_numberAt 16 = .ok (.lmul, 1) := by decide +kernel
theorem dX9_numberAt_17 : decode cX9_numberAt 17 = .ok (.lsub, 1) := by decide +kernel
theorem dX9_numberAt_18 : decode cX9_numberAt 18 = .ok (.goto 14, 3) := by decide +kernel
theorem dX9_numberAt_21 : decode cX9_numberAt 21 = .ok (.aload_n 0, 1) := by decide +kernel
theorem dX9_numberAt_22 : decode cX9_numberAt 22 = .ok (.getfield 7, 3) := by decide +kernel
theorem dX9_numberAt_25 : decode cX9_numberAt 25 = .ok (.lload_n 1, 1) := by decide +kernel
theorem dX9_numberAt_26 : decode cX9_numberAt 26 = .ok (.aload_n 0, 1) := by decide +kernel
theorem dX9_numberAt_27 : decode cX9_numberAt 27 = .ok (.getfield 13, 3) := by decide +kernel
theorem dX9_numberAt_30 : decode cX9_numberAt 30 = .ok (.lmul, 1) := by decide +kernel
theorem dX9_numberAt_31 : decode cX9_numberAt 31 = .ok (.ladd, 1) := by decide +kernel
theorem dX9_numberAt_32 : decode cX9_numberAt 32 = .ok (.lreturn, 1) := by decide +kernel
theorem dX9_indexOf_0 : decode cX9_indexOf 0 = .ok (.aload_n 0, 1) := by decide +kernel
theorem dX9_indexOf_1 : decode cX9_indexOf 1 = .ok (.getfield 20, 3) := by decide +kernel
theorem dX9_indexOf_4 : decode cX9_indexOf 4 = .ok (.lconst 1, 1) := by decide +kernel
theorem dX9_indexOf_5 : decode cX9_indexOf 5 = .ok (.lcmp, 1) := by decide +kernel
theorem dX9_indexOf_6 : decode cX9_indexOf 6 = .ok (.ifCond .lt 31, 3) := by decide +kernel
theorem dX9_indexOf_9 : decode cX9_indexOf 9 = .ok (.aload_n 0, 1) := by decide +kernel
theorem dX9_indexOf_10 : decode cX9_indexOf 10 = .ok (.getfield 16, 3) := by decide +kernel
theorem dX9_indexOf_13 : decode cX9_indexOf 13 = .ok (.ifCond .eq 15, 3) := by decide +kernel
theorem dX9_indexOf_16 : decode cX9_indexOf 16 = .ok (.lload_n 1, 1) := by decide +kernel
theorem dX9_indexOf_17 : decode cX9_indexOf 17 = .ok (.aload_n 0, 1) := by decide +kernel
theorem dX9_indexOf_18 : decode cX9_indexOf 18 = .ok (.getfield 7, 3) := by decide +kernel
theorem dX9_indexOf_21 : decode cX9_indexOf 21 = .ok (.lcmp, 1) := by decide +kernel
theorem dX9_indexOf_22 : decode cX9_indexOf 22 = .ok (.ifCond .le 19, 3) := by decide +kernel
theorem dX9_indexOf_25 : decode cX9_indexOf 25 = .ok (.goto 12, 3) := by decide +kernel
theorem dX9_indexOf_28 : decode cX9_indexOf 28 = .ok (.lload_n 1, 1) := by decide +kernel
theorem dX9_indexOf_29 : decode cX9_indexOf 29 = .ok (.aload_n 0, 1) := by decide +kernel
theorem dX9_indexOf_30 : decode cX9_indexOf 30 = .ok (.getfield 7, 3) := by decide +kernel
theorem dX9_indexOf_33 : decode cX9_indexOf 33 = .ok (.lcmp, 1) := by decide +kernel
theorem dX9_indexOf_34 : decode cX9_indexOf 34 = .ok (.ifCond .ge 7, 3) := by decide +kernel
theorem dX9_indexOf_37 : decode cX9_indexOf 37 = .ok (.ldc2_w 23, 3) := by decide +kernel
theorem dX9_indexOf_40 : decode cX9_indexOf 40 = .ok (.lreturn, 1) := by decide +kernel
theorem dX9_indexOf_41 : decode cX9_indexOf 41 = .ok (.lload_n 1, 1) := by decide +kernel
theorem dX9_indexOf_42 : decode cX9_indexOf 42 = .ok (.aload_n 0, 1) := by decide +kernel
theorem dX9_indexOf_43 : decode cX9_indexOf 43 = .ok (.getfield 7, 3) := by decide +kernel
theorem dX9_indexOf_46 : decode cX9_indexOf 46 = .ok (.lcmp, 1) := by decide +kernel
theorem dX9_indexOf_47 : decode cX9_indexOf 47 = .ok (.ifCond .ne 5, 3) := by decide +kernel
theorem dX9_indexOf_50 : decode cX9_indexOf 50 = .ok (.lconst 0, 1) := by decide +kernel
theorem dX9_indexOf_51 : decode cX9_indexOf 51 = .ok (.lreturn, 1) := by decide +kernel
theorem dX9_indexOf_52 : decode cX9_indexOf 52 = .ok (.aload_n 0, 1) := by decide +kernel
theorem dX9_indexOf_53 : decode cX9_indexOf 53 = .ok (.getfield 7, 3) := by decide +kernel
theorem dX9_indexOf_56 : decode cX9_indexOf 56 = .ok (.lload_n 1, 1) := by decide +kernel
theorem dX9_indexOf_57 : decode cX9_indexOf 57 = .ok (.invokestatic 25, 3) := by decide +kernel
theorem dX9_indexOf_60 : decode cX9_indexOf 60 = .ok (.lstore_n 3, 1) := by decide +kernel
theorem dX9_indexOf_61 : decode cX9_indexOf 61 = .ok (.aload_n 0, 1) := by decide +kernel
theorem dX9_indexOf_62 : decode cX9_indexOf 62 = .ok (.getfield 20, 3) := by decide +kernel
theorem dX9_indexOf_65 : decode cX9_indexOf 65 = .ok (.lconst 1, 1) := by decide +kernel
theorem dX9_indexOf_66 : decode cX9_indexOf 66 = .ok (.lcmp, 1) := by decide +kernel
theorem dX9_indexOf_67 : decode cX9_indexOf 67 = .ok (.ifCond .eq 25, 3) := by decide +kernel
theorem dX9_indexOf_70 : decode cX9_indexOf 70 = .ok (.aload_n 0, 1) := by decide +kernel
theorem dX9_indexOf_71 : decode cX9_indexOf 71 = .ok (.getfield 13, 3) := by decide +kernel
theorem dX9_indexOf_74 : decode cX9_indexOf 74 = .ok (.lconst 0, 1) := by decide +kernel
theorem dX9_indexOf_75 : decode cX9_indexOf 75 = .ok (.lcmp, 1) := by decide +kernel
theorem dX9_indexOf_76 : decode cX9_indexOf 76 = .ok (.ifCond .eq 16, 3) := by decide +kernel
theorem dX9_indexOf_79 : decode cX9_indexOf 79 = .ok (.lload_n 3, 1) := by decide +kernel
theorem dX9_indexOf_80 : decode cX9_indexOf 80 = .ok (.aload_n 0, 1) := by decide +kernel
theorem dX9_indexOf_81 : decode cX9_indexOf 81 = .ok (.getfield 13, 3) := by decide +kernel
theorem dX9_indexOf_84 : decode cX9_indexOf 84 = .ok (.invokestatic 31, 3) := by decide +kernel
theorem dX9_indexOf_87 : decode cX9_indexOf 87 = .ok (.lconst 0, 1) := by decide +kernel
theorem dX9_indexOf_88 : decode cX9_indexOf 88 = .ok (.lcmp, 1) := by decide +kernel
theorem dX9_indexOf_89 : decode cX9_indexOf 89 = .ok (.ifCond .eq 7, 3) := by decide +kernel
theorem dX9_indexOf_92 : decode cX9_indexOf 92 = .ok (.ldc2_w 23, 3) := by decide +kernel
theorem dX9_indexOf_95 : decode cX9_indexOf 95 = .ok (.lreturn, 1) := by decide +kernel
theorem dX9_indexOf_96 : decode cX9_indexOf 96 = .ok (.lload_n 3, 1) := by decide +kernel
theorem dX9_indexOf_97 : decode cX9_indexOf 97 = .ok (.aload_n 0, 1) := by decide +kernel
theorem dX9_indexOf_98 : decode cX9_indexOf 98 = .ok (.getfield 13, 3) := by decide +kernel
theorem dX9_indexOf_101 : decode cX9_indexOf 101 = .ok (.invokestatic 34, 3) := by decide +kernel
theorem dX9_indexOf_104 : decode cX9_indexOf 104 = .ok (.lstore 5, 2) := by decide +kernel
theorem dX9_indexOf_106 : decode cX9_indexOf 106 = .ok (.lload 5, 2) := by decide +kernel
theorem dX9_indexOf_108 : decode cX9_indexOf 108 = .ok (.lconst 0, 1) := by decide +kernel
theorem dX9_indexOf_109 : decode cX9_indexOf 109 = .ok (.lcmp, 1) := by decide +kernel
theorem dX9_indexOf_110 : decode cX9_indexOf 110 = .ok (.ifCond .le 18, 3) := by decide +kernel
theorem dX9_indexOf_113 : decode cX9_indexOf 113 = .ok (.lload 5, 2) := by decide +kernel
theorem dX9_indexOf_115 : decode cX9_indexOf 115 = .ok (.aload_n 0, 1) := by decide +kernel
theorem dX9_indexOf_116 : decode cX9_indexOf 116 = .ok (.getfield 20, 3) := by decide +kernel
theorem dX9_indexOf_119 : decode cX9_indexOf 119 = .ok (.lcmp, 1) := by decide +kernel
theorem dX9_indexOf_120 : decode cX9_indexOf 120 = .ok (.ifCond .ge 8, 3) := by decide +kernel
theorem dX9_indexOf_123 : decode cX9_indexOf 123 = .ok (.lload 5, 2) := by decide +kernel
theorem dX9_indexOf_125 : decode cX9_indexOf 125 = .ok (.goto 6, 3) := by decide +kernel
theorem dX9_indexOf_128 : decode cX9_indexOf 128 = .ok (.ldc2_w 23, 3) := by decide +kernel
theorem dX9_indexOf_131 : decode cX9_indexOf 131 = .ok (.lreturn, 1) := by decide +kernel
theorem dX9_turned_0 : decode cX9_turned 0 = .ok (.aload_n 0, 1) := by decide +kernel
theorem dX9_turned_1 : decode cX9_turned 1 = .ok (.getfield 20, 3) := by decide +kernel
theorem dX9_turned_4 : decode cX9_turned 4 = .ok (.lconst 1, 1) := by decide +kernel
theorem dX9_turned_5 : decode cX9_turned 5 = .ok (.lcmp, 1) := by decide +kernel
theorem dX9_turned_6 : decode cX9_turned 6 = .ok (.ifCond .ge 7, 3) := by decide +kernel
theorem dX9_turned_9 : decode cX9_turned 9 = .ok (.aload_n 0, 1) := by decide +kernel
theorem dX9_turned_10 : decode cX9_turned 10 = .ok (.goto 40, 3) := by decide +kernel
theorem dX9_turned_13 : decode cX9_turned 13 = .ok (.new 8, 3) := by decide +kernel
theorem dX9_turned_16 : decode cX9_turned 16 = .ok (.dup, 1) := by decide +kernel
theorem dX9_turned_17 : decode cX9_turned 17 = .ok (.aload_n 0, 1) := by decide +kernel
theorem dX9_turned_18 : decode cX9_turned 18 = .ok (.aload_n 0, 1) := by decide +kernel
theorem dX9_turned_19 : decode cX9_turned 19 = .ok (.getfield 20, 3) := by decide +kernel
theorem dX9_turned_22 : decode cX9_turned 22 = .ok (.lconst 1, 1) := by decide +kernel
theorem dX9_turned_23 : decode cX9_turned 23 = .ok (.lsub, 1) := by decide +kernel
theorem dX9_turned_24 : decode cX9_turned 24 = .ok (.invokevirtual 37, 3) := by decide +kernel
theorem dX9_turned_27 : decode cX9_turned 27 = .ok (.aload_n 0, 1) := by decide +kernel
theorem dX9_turned_28 : decode cX9_turned 28 = .ok (.getfield 13, 3) := by decide +kernel
theorem dX9_turned_31 : decode cX9_turned 31 = .ok (.aload_n 0, 1) := by decide +kernel
theorem dX9_turned_32 : decode cX9_turned 32 = .ok (.getfield 16, 3) := by decide +kernel
theorem dX9_turned_35 : decode cX9_turned 35 = .ok (.ifCond .ne 7, 3) := by decide +kernel
theorem dX9_turned_38 : decode cX9_turned 38 = .ok (.iconst 1, 1) := by decide +kernel
theorem dX9_turned_39 : decode cX9_turned 39 = .ok (.goto 4, 3) := by decide +kernel
theorem dX9_turned_42 : decode cX9_turned 42 = .ok (.iconst 0, 1) := by decide +kernel
theorem dX9_turned_43 : decode cX9_turned 43 = .ok (.aload_n 0, 1) := by decide +kernel
theorem dX9_turned_44 : decode cX9_turned 44 = .ok (.getfield 20, 3) := by decide +kernel
theorem dX9_turned_47 : decode cX9_turned 47 = .ok (.invokespecial 41, 3) := by decide +kernel
theorem dX9_turned_50 : decode cX9_turned 50 = .ok (.areturn, 1) := by decide +kernel
theorem dX9_every_0 : decode cX9_every 0 = .ok (.aload_n 0, 1) := by decide +kernel
theorem dX9_every_1 : decode cX9_every 1 = .ok (.getfield 20, 3) := by decide +kernel
theorem dX9_every_4 : decode cX9_every 4 = .ok (.lconst 1, 1) := by decide +kernel
theorem dX9_every_5 : decode cX9_every 5 = .ok (.lcmp, 1) := by decide +kernel
theorem dX9_every_6 : decode cX9_every 6 = .ok (.ifCond .lt 8, 3) := by decide +kernel
theorem dX9_every_9 : decode cX9_every 9 = .ok (.iload_n 1, 1) := by decide +kernel
theorem dX9_every_10 : decode cX9_every 10 = .ok (.iconst 1, 1) := by decide +kernel
theorem dX9_every_11 : decode cX9_every 11 = .ok (.if_icmp .ge 7, 3) := by decide +kernel
theorem dX9_every_14 : decode cX9_every 14 = .ok (.aload_n 0, 1) := by decide +kernel
theorem dX9_every_15 : decode cX9_every 15 = .ok (.goto 36, 3) := by decide +kernel
theorem dX9_every_18 : decode cX9_every 18 = .ok (.new 8, 3) := by decide +kernel
theorem dX9_every_21 : decode cX9_every 21 = .ok (.dup, 1) := by decide +kernel
theorem dX9_every_22 : decode cX9_every 22 = .ok (.aload_n 0, 1) := by decide +kernel
theorem dX9_every_23 : decode cX9_every 23 = .ok (.getfield 7, 3) := by decide +kernel
theorem dX9_every_26 : decode cX9_every 26 = .ok (.aload_n 0, 1) := by decide +kernel
theorem dX9_every_27 : decode cX9_every 27 = .ok (.getfield 13, 3) := by decide +kernel
theorem dX9_every_30 : decode cX9_every 30 = .ok (.iload_n 1, 1) := by decide +kernel
theorem dX9_every_31 : decode cX9_every 31 = .ok (.i2l, 1) := by decide +kernel
theorem dX9_every_32 : decode cX9_every 32 = .ok (.lmul, 1) := by decide +kernel
theorem dX9_every_33 : decode cX9_every 33 = .ok (.aload_n 0, 1) := by decide +kernel
theorem dX9_every_34 : decode cX9_every 34 = .ok (.getfield 16, 3) := by decide +kernel
theorem dX9_every_37 : decode cX9_every 37 = .ok (.aload_n 0, 1) := by decide +kernel
theorem dX9_every_38 : decode cX9_every 38 = .ok (.getfield 20, 3) := by decide +kernel
theorem dX9_every_41 : decode cX9_every 41 = .ok (.lconst 1, 1) := by decide +kernel
theorem dX9_every_42 : decode cX9_every 42 = .ok (.lsub, 1) := by decide +kernel
theorem dX9_every_43 : decode cX9_every 43 = .ok (.iload_n 1, 1) := by decide +kernel
theorem dX9_every_44 : decode cX9_every 44 = .ok (.i2l, 1) := by decide +kernel
theorem dX9_every_45 : decode cX9_every 45 = .ok (.ldiv, 1) := by decide +kernel
theorem dX9_every_46 : decode cX9_every 46 = .ok (.lconst 1, 1) := by decide +kernel
theorem dX9_every_47 : decode cX9_every 47 = .ok (.ladd, 1) := by decide +kernel
theorem dX9_every_48 : decode cX9_every 48 = .ok (.invokespecial 41, 3) := by decide +kernel
theorem dX9_every_51 : decode cX9_every 51 = .ok (.areturn, 1) := by decide +kernel
theorem dX10_init_0 : decode cX10_init 0 = .ok (.aload_n 0, 1) := by decide +kernel
theorem dX10_init_1 : decode cX10_init 1 = .ok (.invokespecial 3, 3) := by decide +kernel
theorem dX10_init_4 : decode cX10_init 4 = .ok (.aload_n 0, 1) := by decide +kernel
theorem dX10_init_5 : decode cX10_init 5 = .ok (.bipush 20, 2) := by decide +kernel
theorem dX10_init_7 : decode cX10_init 7 = .ok (.newarray .long, 2) := by decide +kernel
theorem dX10_init_9 : decode cX10_init 9 = .ok (.putfield 9, 3) := by decide +kernel
theorem dX10_init_12 : decode cX10_init 12 = .ok (.aload_n 0, 1) := by decide +kernel
theorem dX10_init_13 : decode cX10_init 13 = .ok (.bipush 20, 2) := by decide +kernel
theorem dX10_init_15 : decode cX10_init 15 = .ok (.newarray .int, 2) := by decide +kernel
theorem dX10_init_17 : decode cX10_init 17 = .ok (.putfield 15, 3) := by decide +kernel
theorem dX10_init_20 : decode cX10_init 20 = .ok (.aload_n 0, 1) := by decide +kernel
theorem dX10_init_21 : decode cX10_init 21 = .ok (.bipush 20, 2) := by decide +kernel
theorem dX10_init_23 : decode cX10_init 23 = .ok (.newarray .int, 2) := by decide +kernel
theorem dX10_init_25 : decode cX10_init 25 = .ok (.putfield 19, 3) := by decide +kernel
theorem dX10_init_28 : decode cX10_init 28 = .ok (.aload_n 0, 1) := by decide +kernel
theorem dX10_init_29 : decode cX10_init 29 = .ok (.iconst (-1), 1) := by decide +kernel
theorem dX10_init_30 : decode cX10_init 30 = .ok (.putfield 22, 3) := by decide +kernel
theorem dX10_init_33 : decode cX10_init 33 = .ok (.return_, 1) := by decide +kernel
theorem dX10_beginAsk_0 : decode cX10_beginAsk 0 = .ok (.aload_n 0, 1) := by decide +kernel
theorem dX10_beginAsk_1 : decode cX10_beginAsk 1 = .ok (.iconst 0, 1) := by decide +kernel
theorem dX10_beginAsk_2 : decode cX10_beginAsk 2 = .ok (.putfield 26, 3) := by decide +kernel
theorem dX10_beginAsk_5 : decode cX10_beginAsk 5 = .ok (.return_, 1) := by decide +kernel
theorem dX10_beginRange_0 : decode cX10_beginRange 0 = .ok (.aload_n 0, 1) := by decide +kernel
theorem dX10_beginRange_1 : decode cX10_beginRange 1 = .ok (.iconst 0, 1) := by decide +kernel
theorem dX10_beginRange_2 : decode cX10_beginRange 2 = .ok (.putfield 26, 3) := by decide +kernel
theorem dX10_beginRange_5 : decode cX10_beginRange 5 = .ok (.aload_n 0, 1) := by decide +kernel
theorem dX10_beginRange_6 : decode cX10_beginRange 6 = .ok (.iconst 0, 1) := by decide +kernel
theorem dX10_beginRange_7 : decode cX10_beginRange 7 = .ok (.putfield 29, 3) := by decide +kernel
theorem dX10_beginRange_10 : decode cX10_beginRange 10 = .ok (.return_, 1) := by decide +kernel
theorem dX10_fail_0 : decode cX10_fail 0 = .ok (.aload_n 0, 1) := by decide +kernel
theorem dX10_fail_1 : decode cX10_fail 1 = .ok (.getfield 26, 3) := by decide +kernel
theorem dX10_fail_4 : decode cX10_fail 4 = .ok (.bipush 20, 2) := by decide +kernel
theorem dX10_fail_6 : decode cX10_fail 6 = .ok (.if_icmp .lt 6, 3) := by decide +kernel
theorem dX10_fail_9 : decode cX10_fail 9 = .ok (.bipush (-18), 2) := by decide +kernel
theorem dX10_fail_11 : decode cX10_fail 11 = .ok (.ireturn, 1) := by decide +kernel
theorem dX10_fail_12 : decode cX10_fail 12 = .ok (.aload_n 0, 1) := by decide +kernel
theorem dX10_fail_13 : decode cX10_fail 13 = .ok (.dup, 1) := by decide +kernel
theorem dX10_fail_14 : decode cX10_fail 14 = .ok (.getfield 26, 3) := by decide +kernel
theorem dX10_fail_17 : decode cX10_fail 17 = .ok (.iconst 1, 1) := by decide +kernel
theorem dX10_fail_18 : decode cX10_fail 18 = .ok (.iadd, 1) := by decide +kernel
theorem dX10_fail_19 : decode cX10_fail 19 = .ok (.putfield 26, 3) := by decide +kernel
theorem dX10_fail_22 : decode cX10_fail 22 = .ok (.aload_n 0, 1) := by decide +kernel
theorem dX10_fail_23 : decode cX10_fail 23 = .ok (.iload_n 2, 1) := by decide +kernel
theorem dX10_fail_24 : decode cX10_fail 24 = .ok (.putfield 22, 3) := by decide +kernel
theorem dX10_fail_27 : decode cX10_fail 27 = .ok (.bipush (-10), 2) := by decide +kernel
theorem dX10_fail_29 : decode cX10_fail 29 = .ok (.iload_n 1, 1) := by decide +kernel
theorem dX10_fail_30 : decode cX10_fail 30 = .ok (.isub, 1) := by decide +kernel
theorem dX10_fail_31 : decode cX10_fail 31 = .ok (.ireturn, 1) := by decide +kernel
theorem dX10_barByLatest_0 : decode cX10_barByLatest 0 = .ok (.aload_n 0, 1) := by decide +kernel
theorem dX10_barByLatest_1 : decode cX10_barByLatest 1 = .ok (.getfield 29, 3) := by decide +kernel
theorem dX10_barByLatest_4 : decode cX10_barByLatest 4 = .ok (.bipush 20, 2) := by decide +kernel
theorem dX10_barByLatest_6 : decode cX10_barByLatest 6 = .ok (.if_icmp .ge 49, 3) := by decide +kernel
theorem dX10_barByLatest_9 : decode cX10_barByLatest 9 = .ok (.aload_n 0, 1) := by decide +kernel
theorem dX10_barByLatest_10 : decode cX10_barByLatest 10 = .ok (.getfield 9, 3) := by decide +kernel
theorem dX10_barByLatest_13 : decode cX10_barByLatest 13 = .ok (.aload_n 0, 1) := by decide +kernel
theorem dX10_barByLatest_14 : decode cX10_barByLatest 14 = .ok (.getfield 29, 3) := by decide +kernel
theorem dX10_barByLatest_17 : decode cX10_barByLatest 17 = .ok (.lload_n 1, 1) := by decide +kernel
theorem dX10_barByLatest_18 : decode cX10_barByLatest 18 = .ok (.lastore, 1) := by decide +kernel
theorem dX10_barByLatest_19 : decode cX10_barByLatest 19 = .ok (.aload_n 0, 1) := by decide +kernel
theorem dX10_barByLatest_20 : decode cX10_barByLatest 20 = .ok (.getfield 15, 3) := by decide +kernel
theorem dX10_barByLatest_23 : decode cX10_barByLatest 23 = .ok (.aload_n 0, 1) := by decide +kernel
theorem dX10_barByLatest_24 : decode cX10_barByLatest 24 = .ok (.getfield 29, 3) := by decide +kernel
theorem dX10_barByLatest_27 : decode cX10_barByLatest 27 = .ok (.bipush (-10), 2) := by decide +kernel
theorem dX10_barByLatest_29 : decode cX10_barByLatest 29 = .ok (.iload_n 3, 1) := by decide +kernel
theorem dX10_barByLatest_30 : decode cX10_barByLatest 30 = .ok (.isub, 1) := by decide +kernel
theorem dX10_barByLatest_31 : decode cX10_barByLatest 31 = .ok (.iastore, 1) := by decide +kernel
theorem dX10_barByLatest_32 : decode cX10_barByLatest 32 = .ok (.aload_n 0, 1) := by decide +kernel
theorem dX10_barByLatest_33 : decode cX10_barByLatest 33 = .ok (.getfield 19, 3) := by decide +kernel
theorem dX10_barByLatest_36 : decode cX10_barByLatest 36 = .ok (.aload_n 0, 1) := by decide +kernel
theorem dX10_barByLatest_37 : decode cX10_barByLatest 37 = .ok (.getfield 29, 3) := by decide +kernel
theorem dX10_barByLatest_40 : decode cX10_barByLatest 40 = .ok (.aload_n 0, 1) := by decide +kernel
theorem dX10_barByLatest_41 : decode cX10_barByLatest 41 = .ok (.getfield 22, 3) := by decide +kernel
theorem dX10_barByLatest_44 : decode cX10_barByLatest 44 = .ok (.iastore, 1) := by decide +kernel
theorem dX10_barByLatest_45 : decode cX10_barByLatest 45 = .ok (.aload_n 0, 1) := by decide +kernel
theorem dX10_barByLatest_46 : decode cX10_barByLatest 46 = .ok (.dup, 1) := by decide +kernel
theorem dX10_barByLatest_47 : decode cX10_barByLatest 47 = .ok (.getfield 29, 3) := by decide +kernel
theorem dX10_barByLatest_50 : decode cX10_barByLatest 50 = .ok (.iconst 1, 1) := by decide +kernel
theorem dX10_barByLatest_51 : decode cX10_barByLatest 51 = .ok (.iadd, 1) := by decide +kernel
theorem dX10_barByLatest_52 : decode cX10_barByLatest 52 = .ok (.putfield 29, 3) := by decide +kernel
theorem dX10_barByLatest_55 : decode cX10_barByLatest 55 = .ok (.return_, 1) := by decide +kernel
theorem dX10_hasBarred_0 : decode cX10_hasBarred 0 = .ok (.iload_n 1, 1) := by decide +kernel
theorem dX10_hasBarred_1 : decode cX10_hasBarred 1 = .ok (.ifCond .lt 21, 3) := by decide +kernel
theorem dX10_hasBarred_4 : decode cX10_hasBarred 4 = .ok (.iload_n 1, 1) := by decide +kernel
theorem dX10_hasBarred_5 : decode cX10_hasBarred 5 = .ok (.aload_n 0, 1) := by decide +kernel
theorem dX10_hasBarred_6 : decode cX10_hasBarred 6 = .ok (.getfield 29, 3) := by decide +kernel
theorem dX10_hasBarred_9 : decode cX10_hasBarred 9 = .ok (.if_icmp .ge 13, 3) := by decide +kernel
theorem dX10_hasBarred_12 : decode cX10_hasBarred 12 = .ok (.iload_n 1, 1) := by decide +kernel
theorem dX10_hasBarred_13 : decode cX10_hasBarred 13 = .ok (.bipush 20, 2) := by decide +kernel
theorem dX10_hasBarred_15 : decode cX10_hasBarred 15 = .ok (.if_icmp .ge 7, 3) := by decide +kernel
theorem dX10_hasBarred_18 : decode cX10_hasBarred 18 = .ok (.iconst 1, 1) := by decide +kernel
theorem dX10_hasBarred_19 : decode cX10_hasBarred 19 = .ok (.goto 4, 3) := by decide +kernel
theorem dX10_hasBarred_22 : decode cX10_hasBarred 22 = .ok (.iconst 0, 1) := by decide +kernel
theorem dX10_hasBarred_23 : decode cX10_hasBarred 23 = .ok (.ireturn, 1) := by decide +kernel
theorem dX10_canBeMet_0 : decode cX10_canBeMet 0 = .ok (.iload_n 0, 1) := by decide +kernel
theorem dX10_canBeMet_1 : decode cX10_canBeMet 1 = .ok (.ifCond .ge 13, 3) := by decide +kernel
theorem dX10_canBeMet_4 : decode cX10_canBeMet 4 = .ok (.iload_n 0, 1) := by decide +kernel
theorem dX10_canBeMet_5 : decode cX10_canBeMet 5 = .ok (.bipush (-18), 2) := by decide +kernel
theorem dX10_canBeMet_7 : decode cX10_canBeMet 7 = .ok (.if_icmp .eq 7, 3) := by decide +kernel
theorem dX10_canBeMet_10 : decode cX10_canBeMet 10 = .ok (.iconst 1, 1) := by decide +kernel
theorem dX10_canBeMet_11 : decode cX10_canBeMet 11 = .ok (.goto 4, 3) := by decide +kernel
theorem dX10_canBeMet_14 : decode cX10_canBeMet 14 = .ok (.iconst 0, 1) := by decide +kernel
theorem dX10_canBeMet_15 : decode cX10_canBeMet 15 = .ok (.ireturn, 1) := by decide +kernel
theorem dX11_init_0 : decode cX11_init 0 = .ok (.aload_n 0, 1) := by decide +kernel
theorem dX11_init_1 : decode cX11_init 1 = .ok (.invokespecial 1, 3) := by decide +kernel
theorem dX11_init_4 : decode cX11_init 4 = .ok (.aload_n 0, 1) := by decide +kernel
theorem dX11_init_5 : decode cX11_init 5 = .ok (.bipush 6, 2) := by decide +kernel
theorem dX11_init_7 : decode cX11_init 7 = .ok (.anewarray 9, 3) := by decide +kernel
theorem dX11_init_10 : decode cX11_init 10 = .ok (.putfield 11, 3) := by decide +kernel
theorem dX11_init_13 : decode cX11_init 13 = .ok (.aload_n 0, 1) := by decide +kernel
theorem dX11_init_14 : decode cX11_init 14 = .ok (.iconst 3, 1) := by decide +kernel
theorem dX11_init_15 : decode cX11_init 15 = .ok (.anewarray 15, 3) := by decide +kernel
theorem dX11_init_18 : decode cX11_init 18 = .ok (.putfield 17, 3) := by decide +kernel
theorem dX11_init_21 : decode cX11_init 21 = .ok (.aload_n 0, 1) := by decide +kernel
theorem dX11_init_22 : decode cX11_init 22 = .ok (.bipush 20, 2) := by decide +kernel
theorem dX11_init_24 : decode cX11_init 24 = .ok (.anewarray 21, 3) := by decide +kernel
theorem dX11_init_27 : decode cX11_init 27 = .ok (.putfield 23, 3) := by decide +kernel
theorem dX11_init_30 : decode cX11_init 30 = .ok (.aload_n 0, 1) := by decide +kernel
theorem dX11_init_31 : decode cX11_init 31 = .ok (.bipush 20, 2) := by decide +kernel
theorem dX11_init_33 : decode cX11_init 33 = .ok (.anewarray 27, 3) := by decide +kernel
theorem dX11_init_36 : decode cX11_init 36 = .ok (.putfield 29, 3) := by decide +kernel
theorem dX11_init_39 : decode cX11_init 39 = .ok (.aload_n 0, 1) := by decide +kernel
theorem dX11_init_40 : decode cX11_init 40 = .ok (.new 33, 3) := by decide +kernel
theorem dX11_init_43 : decode cX11_init 43 = .ok (.dup, 1) := by decide +kernel
theorem dX11_init_44 : decode cX11_init 44 = .ok (.invokespecial 35, 3) := by decide +kernel
theorem dX11_init_47 : decode cX11_init 47 = .ok (.putfield 36, 3) := by decide +kernel
theorem dX11_init_50 : decode cX11_init 50 = .ok (.aload_n 0, 1) := by decide +kernel
theorem dX11_init_51 : decode cX11_init 51 = .ok (.new 40, 3) := by decide +kernel
theorem dX11_init_54 : decode cX11_init 54 = .ok (.dup, 1) := by decide +kernel
theorem dX11_init_55 : decode cX11_init 55 = .ok (.invokespecial 42, 3) := by decide +kernel
theorem dX11_init_58 : decode cX11_init 58 = .ok (.putfield 43, 3) := by decide +kernel
theorem dX11_init_61 : decode cX11_init 61 = .ok (.aload_n 0, 1) := by decide +kernel
theorem dX11_init_62 : decode cX11_init 62 = .ok (.sipush 1200, 3) := by decide +kernel
theorem dX11_init_65 : decode cX11_init 65 = .ok (.newarray .long, 2) := by decide +kernel
theorem dX11_init_67 : decode cX11_init 67 = .ok (.putfield 47, 3) := by decide +kernel
theorem dX11_init_70 : decode cX11_init 70 = .ok (.iconst 0, 1) := by decide +kernel
theorem dX11_init_71 : decode cX11_init 71 = .ok (.istore_n 1, 1) := by decide +kernel
theorem dX11_init_72 : decode cX11_init 72 = .ok (.iload_n 1, 1) := by decide +kernel
theorem dX11_init_73 : decode cX11_init 73 = .ok (.bipush 6, 2) := by decide +kernel
theorem dX11_init_75 : decode cX11_init 75 = .ok (.if_icmp .ge 22, 3) := by decide +kernel
theorem dX11_init_78 : decode cX11_init 78 = .ok (.aload_n 0, 1) := by decide +kernel
theorem dX11_init_79 : decode cX11_init 79 = .ok (.getfield 11, 3) := by decide +kernel
theorem dX11_init_82 : decode cX11_init 82 = .ok (.iload_n 1, 1) := by decide +kernel
theorem dX11_init_83 : decode cX11_init 83 = .ok (.new 9, 3) := by decide +kernel
theorem dX11_init_86 : decode cX11_init 86 = .ok (.dup, 1) := by decide +kernel
theorem dX11_init_87 : decode cX11_init 87 = .ok (.invokespecial 51, 3) := by decide +kernel
theorem dX11_init_90 : decode cX11_init 90 = .ok (.aastore, 1) := by decide +kernel
theorem dX11_init_91 : decode cX11_init 91 = .ok (.iinc 1 1, 3) := by decide +kernel
theorem dX11_init_94 : decode cX11_init 94 = .ok (.goto (-22), 3) := by decide +kernel
theorem dX11_init_97 : decode cX11_init 97 = .ok (.iconst 0, 1) := by decide +kernel
theorem dX11_init_98 : decode cX11_init 98 = .ok (.istore_n 1, 1) := by decide +kernel
theorem dX11_init_99 : decode cX11_init 99 = .ok (.iload_n 1, 1) := by decide +kernel
theorem dX11_init_100 : decode cX11_init 100 = .ok (.iconst 3, 1) := by decide +kernel
theorem dX11_init_101 : decode cX11_init 101 = .ok (.if_icmp .ge 23, 3) := by decide +kernel
theorem dX11_init_104 : decode cX11_init 104 = .ok (.aload_n 0, 1) := by decide +kernel
theorem dX11_init_105 : decode cX11_init 105 = .ok (.getfield 17, 3) := by decide +kernel
theorem dX11_init_108 : decode cX11_init 108 = .ok (.iload_n 1, 1) := by decide +kernel
theorem dX11_init_109 : decode cX11_init 109 = .ok (.new 15, 3) := by decide +kernel
theorem dX11_init_112 : decode cX11_init 112 = .ok (.dup, 1) := by decide +kernel
theorem dX11_init_113 : decode cX11_init 113 = .ok (.iload_n 1, 1) := by decide +kernel
theorem dX11_init_114 : decode cX11_init 114 = .ok (.invokespecial 52, 3) := by decide +kernel
theorem dX11_init_117 : decode cX11_init 117 = .ok (.aastore, 1) := by decide +kernel
theorem dX11_init_118 : decode cX11_init 118 = .ok (.iinc 1 1, 3) := by decide +kernel
theorem dX11_init_121 : decode cX11_init 121 = .ok (.goto (-22), 3) := by decide +kernel
theorem dX11_init_124 : decode cX11_init 124 = .ok (.return_, 1) := by decide +kernel
theorem dX11_shelf_0 : decode cX11_shelf 0 = .ok (.aload_n 0, 1) := by decide +kernel
theorem dX11_shelf_1 : decode cX11_shelf 1 = .ok (.iload_n 1, 1) := by decide +kernel
theorem dX11_shelf_2 : decode cX11_shelf 2 = .ok (.invokevirtual 55, 3) := by decide +kernel
theorem dX11_shelf_5 : decode cX11_shelf 5 = .ok (.astore 4, 2) := by decide +kernel
theorem dX11_shelf_7 : decode cX11_shelf 7 = .ok (.aload 4, 2) := by decide +kernel
theorem dX11_shelf_9 : decode cX11_shelf 9 = .ok (.ifnonnull 5, 3) := by decide +kernel
theorem dX11_shelf_12 : decode cX11_shelf 12 = .ok (.iconst (-1), 1) := by decide +kernel
theorem dX11_shelf_13 : decode cX11_shelf 13 = .ok (.ireturn, 1) := by decide +kernel
theorem dX11_shelf_14 : decode cX11_shelf 14 = .ok (.iload_n 2, 1) := by decide +kernel
theorem dX11_shelf_15 : decode cX11_shelf 15 = .ok (.ifCond .lt 8, 3) := by decide +kernel
theorem dX11_shelf_18 : decode cX11_shelf 18 = .ok (.iload_n 2, 1) := by decide +kernel
theorem dX11_shelf_19 : decode cX11_shelf 19 = .ok (.iconst 3, 1) := by decide +kernel
theorem dX11_shelf_20 : decode cX11_shelf 20 = .ok (.if_icmp .le 6, 3) := by decide +kernel
theorem dX11_shelf_23 : decode cX11_shelf 23 = .ok (.bipush (-2), 2) := by decide +kernel
theorem dX11_shelf_25 : decode cX11_shelf 25 = .ok (.ireturn, 1) := by decide +kernel
theorem dX11_shelf_26 : decode cX11_shelf 26 = .ok (.iload_n 2, 1) := by decide +kernel
theorem dX11_shelf_27 : decode cX11_shelf 27 = .ok (.iconst 1, 1) := by decide +kernel
theorem dX11_shelf_28 : decode cX11_shelf 28 = .ok (.if_icmp .eq 8, 3) := by decide +kernel
theorem dX11_shelf_31 : decode cX11_shelf 31 = .ok (.iload_n 2, 1) := by decide +kernel
theorem dX11_shelf_32 : decode cX11_shelf 32 = .ok (.iconst 2, 1) := by decide +kernel
theorem dX11_shelf_33 : decode cX11_shelf 33 = .ok (.if_icmp .ne 7, 3) := by decide +kernel
theorem dX11_shelf_36 : decode cX11_shelf 36 = .ok (.iconst 1, 1) := by decide +kernel
theorem dX11_shelf_37 : decode cX11_shelf 37 = .ok (.goto 4, 3) := by decide +kernel
theorem dX11_shelf_40 : decode cX11_shelf 40 = .ok (.iconst 0, 1) := by decide +kernel
theorem dX11_shelf_41 : decode cX11_shelf 41 = .ok (.istore 5, 2) := by decide +kernel
theorem dX11_shelf_43 : decode cX11_shelf 43 = .ok (.iload 5, 2) := by decide +kernel
theorem dX11_shelf_45 : decode cX11_shelf 45 = .ok (.ifCond .eq 16, 3) := by decide +kernel
theorem dX11_shelf_48 : decode cX11_shelf 48 = .ok (.iload_n 3, 1) := by decide +kernel
theorem dX11_shelf_49 : decode cX11_shelf 49 = .ok (.ifCond .lt 9, 3) := by decide +kernel
theorem dX11_shelf_52 : decode cX11_shelf 52 = .ok (.iload_n 3, 1) := by decide +kernel
theorem dX11_shelf_53 : decode cX11_shelf 53 = .ok (.bipush 12, 2) := by decide +kernel
theorem dX11_shelf_55 : decode cX11_shelf 55 = .ok (.if_icmp .le 6, 3) := by decide +kernel
theorem dX11_shelf_58 : decode cX11_shelf 58 = .ok (.bipush (-2), 2) := by decide +kernel
theorem dX11_shelf_60 : decode cX11_shelf 60 = .ok (.ireturn, 1) := by decide +kernel
theorem dX11_shelf_61 : decode cX11_shelf 61 = .ok (.aload 4, 2) := by decide +kernel
theorem dX11_shelf_63 : decode cX11_shelf 63 = .ok (.iload_n 2, 1) := by decide +kernel
theorem dX11_shelf_64 : decode cX11_shelf 64 = .ok (.iload_n 3, 1) := by decide +kernel
theorem dX11_shelf_65 : decode cX11_shelf 65 = .ok (.invokevirtual 59, 3) := by decide +kernel
theorem dX11_shelf_68 : decode cX11_shelf 68 = .ok (.iconst 1, 1) := by decide +kernel
theorem dX11_shelf_69 : decode cX11_shelf 69 = .ok (.ireturn, 1) := by decide +kernel
theorem dX11_item_0 : decode cX11_item 0 = .ok (.aload_n 0, 1) := by decide +kernel
theorem dX11_item_1 : decode cX11_item 1 = .ok (.iload_n 1, 1) := by decide +kernel
theorem dX11_item_2 : decode cX11_item 2 = .ok (.invokevirtual 55, 3) := by decide +kernel
theorem dX11_item_5 : decode cX11_item 5 = .ok (.astore 5, 2) := by decide +kernel
theorem dX11_item_7 : decode cX11_item 7 = .ok (.aload 5, 2) := by decide +kernel
theorem dX11_item_9 : decode cX11_item 9 = .ok (.ifnonnull 5, 3) := by decide +kernel
theorem dX11_item_12 : decode cX11_item 12 = .ok (.iconst (-1), 1) := by decide +kernel
theorem dX11_item_13 : decode cX11_item 13 = .ok (.ireturn, 1) := by decide +kernel
theorem dX11_item_14 : decode cX11_item 14 = .ok (.aload 5, 2) := by decide +kernel
theorem dX11_item_16 : decode cX11_item 16 = .ok (.invokevirtual 63, 3) := by decide +kernel
theorem dX11_item_19 : decode cX11_item 19 = .ok (.istore 6, 2) := by decide +kernel
theorem dX11_item_21 : decode cX11_item 21 = .ok (.iload 6, 2) := by decide +kernel
theorem dX11_item_23 : decode cX11_item 23 = .ok (.ifCond .ne 16, 3) := by decide +kernel
theorem dX11_item_26 : decode cX11_item 26 = .ok (.aload 5, 2) := by decide +kernel
theorem dX11_item_28 : decode cX11_item 28 = .ok (.iload_n 2, 1) := by decide +kernel
theorem dX11_item_29 : decode cX11_item 29 = .ok (.i2l, 1) := by decide +kernel
theorem dX11_item_30 : decode cX11_item 30 = .ok (.invokevirtual 67, 3) := by decide +kernel
theorem dX11_item_33 : decode cX11_item 33 = .ok (.ifCond .ne 6, 3) := by decide +kernel
theorem dX11_item_36 : decode cX11_item 36 = .ok (.iconst 2, 1) := by decide +kernel
theorem dX11_item_37 : decode cX11_item 37 = .ok (.istore 6, 2) := by decide +kernel
theorem dX11_item_39 : decode cX11_item 39 = .ok (.iload 6, 2) := by decide +kernel
theorem dX11_item_41 : decode cX11_item 41 = .ok (.ifCond .eq 9, 3) := by decide +kernel
theorem dX11_item_44 : decode cX11_item 44 = .ok (.bipush (-10), 2) := by decide +kernel
theorem dX11_item_46 : decode cX11_item 46 = .ok (.iload 6, 2) := by decide +kernel
theorem dX11_item_48 : decode cX11_item 48 = .ok (.isub, 1) := by decide +kernel
theorem dX11_item_49 : decode cX11_item 49 = .ok (.ireturn, 1) := by decide +kernel
theorem dX11_item_50 : decode cX11_item 50 = .ok (.aload 5, 2) := by decide +kernel
theorem dX11_item_52 : decode cX11_item 52 = .ok (.iload_n 2, 1) := by decide +kernel
theorem dX11_item_53 : decode cX11_item 53 = .ok (.lload_n 3, 1) := by decide +kernel
theorem dX11_item_54 : decode cX11_item 54 = .ok (.invokevirtual 71, 3) := by decide +kernel
theorem dX11_item_57 : decode cX11_item 57 = .ok (.iconst 1, 1) := by decide +kernel
theorem dX11_item_58 : decode cX11_item 58 = .ok (.ireturn, 1) := by decide +kernel
theorem dX11_box_0 : decode cX11_box 0 = .ok (.aload_n 0, 1) := by decide +kernel
theorem dX11_box_1 : decode cX11_box 1 = .ok (.iload_n 1, 1) := by decide +kernel
theorem dX11_box_2 : decode cX11_box 2 = .ok (.invokevirtual 75, 3) := by decide +kernel
theorem dX11_box_5 : decode cX11_box 5 = .ok (.astore_n 3, 1) := by decide +kernel
theorem dX11_box_6 : decode cX11_box 6 = .ok (.aload_n 3, 1) := by decide +kernel
theorem dX11_box_7 : decode cX11_box 7 = .ok (.ifnull 12, 3) := by decide +kernel
theorem dX11_box_10 : decode cX11_box 10 = .ok (.iload_n 2, 1) := by decide +kernel
theorem dX11_box_11 : decode cX11_box 11 = .ok (.ifCond .lt 8, 3) := by decide +kernel
theorem dX11_box_14 : decode cX11_box 14 = .ok (.iload_n 2, 1) := by decide +kernel
theorem dX11_box_15 : decode cX11_box 15 = .ok (.iconst 3, 1) := by decide +kernel
theorem dX11_box_16 : decode cX11_box 16 = .ok (.if_icmp .lt 5, 3) := by decide +kernel
theorem dX11_box_19 : decode cX11_box 19 = .ok (.iconst (-1), 1) := by decide +kernel
theorem dX11_box_20 : decode cX11_box 20 = .ok (.ireturn, 1) := by decide +kernel
theorem dX11_box_21 : decode cX11_box 21 = .ok (.aload_n 3, 1) := by decide +kernel
theorem dX11_box_22 : decode cX11_box 22 = .ok (.getfield 79, 3) := by decide +kernel
theorem dX11_box_25 : decode cX11_box 25 = .ok (.iload_n 2, 1) := by decide +kernel
theorem dX11_box_26 : decode cX11_box 26 = .ok (.iaload, 1) := by decide +kernel
theorem dX11_box_27 : decode cX11_box 27 = .ok (.ireturn, 1) := by decide +kernel
theorem dX11_filter_0 : decode cX11_filter 0 = .ok (.iload_n 1, 1) := by decide +kernel
theorem dX11_filter_1 : decode cX11_filter 1 = .ok (.ifCond .lt 9, 3) := by decide +kernel
theorem dX11_filter_4 : decode cX11_filter 4 = .ok (.iload_n 1, 1) := by decide +kernel
theorem dX11_filter_5 : decode cX11_filter 5 = .ok (.bipush 12, 2) := by decide +kernel
theorem dX11_filter_7 : decode cX11_filter 7 = .ok (.if_icmp .le 6, 3) := by decide +kernel
theorem dX11_filter_10 : decode cX11_filter 10 = .ok (.bipush (-2), 2) := by decide +kernel
theorem dX11_filter_12 : decode cX11_filter 12 = .ok (.ireturn, 1) := by decide +kernel
theorem dX11_filter_13 : decode cX11_filter 13 = .ok (.iload_n 1, 1) := by decide +kernel
theorem dX11_filter_14 : decode cX11_filter 14 = .ok (.bipush 7, 2) := by decide +kernel
theorem dX11_filter_16 : decode cX11_filter 16 = .ok (.if_icmp .lt 17, 3) := by decide +kernel
theorem dX11_filter_19 : decode cX11_filter 19 = .ok (.iload_n 1, 1) := by decide +kernel
theorem dX11_filter_20 : decode cX11_filter 20 = .ok (.bipush 11, 2) := by decide +kernel
theorem dX11_filter_22 : decode cX11_filter 22 = .ok (.if_icmp .gt 11, 3) := by decide +kernel
theorem dX11_filter_25 : decode cX11_filter 25 = .ok (.aload_n 0, 1) := by decide +kernel
theorem dX11_filter_26 : decode cX11_filter 26 = .ok (.iload_n 1, 1) := by decide +kernel
theorem dX11_filter_27 : decode cX11_filter 27 = .ok (.iload_n 2, 1) := by decide +kernel
theorem dX11_filter_28 : decode cX11_filter 28 = .ok (.iload_n 3, 1) := by decide +kernel
theorem dX11_filter_29 : decode cX11_filter 29 = .ok (.invokevirtual 83, 3) := by decide +kernel
theorem dX11_filter_32 : decode cX11_filter 32 = .ok (.ireturn, 1) := by decide +kernel
theorem dX11_filter_33 : decode cX11_filter 33 = .ok (.iload_n 1, 1) := by decide +kernel
theorem dX11_filter_34 : decode cX11_filter 34 = .ok (.iconst 3, 1) := by decide +kernel
theorem dX11_filter_35 : decode cX11_filter 35 = .ok (.if_icmp .eq 9, 3) := by decide +kernel
theorem dX11_filter_38 : decode cX11_filter 38 = .ok (.iload_n 1, 1) := by decide +kernel
theorem dX11_filter_39 : decode cX11_filter 39 = .ok (.bipush 12, 2) := by decide +kernel
theorem dX11_filter_41 : decode cX11_filter 41 = .ok (.if_icmp .ne 12, 3) := by decide +kernel
theorem dX11_filter_44 : decode cX11_filter 44 = .ok (.aload_n 0, 1) := by decide +kernel
theorem dX11_filter_45 : decode cX11_filter 45 = .ok (.iload_n 1, 1) := by decide +kernel
theorem dX11_filter_46 : decode cX11_filter 46 = .ok (.iload_n 2, 1) := by decide +kernel
theorem dX11_filter_47 : decode cX11_filter 47 = .ok (.lload 4, 2) := by decide +kernel
theorem dX11_filter_49 : decode cX11_filter 49 = .ok (.invokevirtual 87, 3) := by decide +kernel
theorem dX11_filter_52 : decode cX11_filter 52 = .ok (.ireturn, 1) := by decide +kernel
theorem dX11_filter_53 : decode cX11_filter 53 = .ok (.iload_n 1, 1) := by decide +kernel
theorem dX11_filter_54 : decode cX11_filter 54 = .ok (.iconst 5, 1) := by decide +kernel
theorem dX11_filter_55 : decode cX11_filter 55 = .ok (.if_icmp .ne 11, 3) := by decide +kernel
theorem dX11_filter_58 : decode cX11_filter 58 = .ok (.aload_n 0, 1) := by decide +kernel
theorem dX11_filter_59 : decode cX11_filter 59 = .ok (.iload_n 2, 1) := by decide +kernel
theorem dX11_filter_60 : decode cX11_filter 60 = .ok (.lload 4, 2) := by decide +kernel
theorem dX11_filter_62 : decode cX11_filter 62 = .ok (.invokevirtual 91, 3) := by decide +kernel
theorem dX11_filter_65 : decode cX11_filter 65 = .ok (.ireturn, 1) := by decide +kernel
theorem dX11_filter_66 : decode cX11_filter 66 = .ok (.aload_n 0, 1) := by decide +kernel
theorem dX11_filter_67 : decode cX11_filter 67 = .ok (.new 95, 3) := by decide +kernel
theorem dX11_filter_70 : decode cX11_filter 70 = .ok (.dup, 1) := by decide +kernel
theorem dX11_filter_71 : decode cX11_filter 71 = .ok (.aload_n 0, 1) := by decide +kernel
theorem dX11_filter_72 : decode cX11_filter 72 = .ok (.getfield 97, 3) := by decide +kernel
theorem dX11_filter_75 : decode cX11_filter 75 = .ok (.iload_n 1, 1) := by decide +kernel
theorem dX11_filter_76 : decode cX11_filter 76 = .ok (.iload_n 2, 1) := by decide +kernel
theorem dX11_filter_77 : decode cX11_filter 77 = .ok (.lload 4, 2) := by decide +kernel
theorem dX11_filter_79 : decode cX11_filter 79 = .ok (.invokespecial 101, 3) := by decide +kernel
theorem dX11_filter_82 : decode cX11_filter 82 = .ok (.invokevirtual 104, 3) := by decide +kernel
theorem dX11_filter_85 : decode cX11_filter 85 = .ok (.ireturn, 1) := by decide +kernel
theorem dX11_ask_0 : decode cX11_ask 0 = .ok (.aload_n 0, 1) := by decide +kernel
theorem dX11_ask_1 : decode cX11_ask 1 = .ok (.iload_n 1, 1) := by decide +kernel
theorem dX11_ask_2 : decode cX11_ask 2 = .ok (.invokevirtual 108, 3) := by decide +kernel
theorem dX11_ask_5 : decode cX11_ask 5 = .ok (.astore 4, 2) := by decide +kernel
theorem dX11_ask_7 : decode cX11_ask 7 = .ok (.aload 4, 2) := by decide +kernel
theorem dX11_ask_9 : decode cX11_ask 9 = .ok (.ifnonnull 5, 3) := by decide +kernel
theorem dX11_ask_12 : decode cX11_ask 12 = .ok (.iconst (-1), 1) := by decide +kernel
theorem dX11_ask_13 : decode cX11_ask 13 = .ok (.ireturn, 1) := by decide +kernel
theorem dX11_ask_14 : decode cX11_ask 14 = .ok (.aload_n 0, 1) := by decide +kernel
theorem dX11_ask_15 : decode cX11_ask 15 = .ok (.getfield 36, 3) := by decide +kernel
theorem dX11_ask_18 : decode cX11_ask 18 = .ok (.invokevirtual 112, 3) := by decide +kernel
theorem dX11_ask_21 : decode cX11_ask 21 = .ok (.aload 4, 2) := by decide +kernel
theorem dX11_ask_23 : decode cX11_ask 23 = .ok (.lload_n 2, 1) := by decide +kernel
theorem dX11_ask_24 : decode cX11_ask 24 = .ok (.aload_n 0, 1) := by decide +kernel
theorem dX11_ask_25 : decode cX11_ask 25 = .ok (.getfield 36, 3) := by decide +kernel
theorem dX11_ask_28 : decode cX11_ask 28 = .ok (.invokevirtual 115, 3) := by decide +kernel
theorem dX11_ask_31 : decode cX11_ask 31 = .ok (.ireturn, 1) := by decide +kernel
theorem dX11_asked_0 : decode cX11_asked 0 = .ok (.aload_n 0, 1) := by decide +kernel
theorem dX11_asked_1 : decode cX11_asked 1 = .ok (.iload_n 1, 1) := by decide +kernel
theorem dX11_asked_2 : decode cX11_asked 2 = .ok (.invokevirtual 108, 3) := by decide +kernel
theorem dX11_asked_5 : decode cX11_asked 5 = .ok (.astore_n 2, 1) := by decide +kernel
theorem dX11_asked_6 : decode cX11_asked 6 = .ok (.aload_n 2, 1) := by decide +kernel
theorem dX11_asked_7 : decode cX11_asked 7 = .ok (.ifnonnull 7, 3) := by decide +kernel
theorem dX11_asked_10 : decode cX11_asked 10 = .ok (.iconst (-1), 1) := by decide +kernel
theorem dX11_asked_11 : decode cX11_asked 11 = .ok (.goto 7, 3) := by decide +kernel
theorem dX11_asked_14 : decode cX11_asked 14 = .ok (.aload_n 2, 1) := by decide +kernel
theorem dX11_asked_15 : decode cX11_asked 15 = .ok (.invokevirtual 119, 3) := by decide +kernel
theorem dX11_asked_18 : decode cX11_asked 18 = .ok (.ireturn, 1) := by decide +kernel
theorem dX11_span_0 : decode cX11_span 0 = .ok (.lload 5, 2) := by decide +kernel
theorem dX11_span_2 : decode cX11_span 2 = .ok (.lconst 1, 1) := by decide +kernel
theorem dX11_span_3 : decode cX11_span 3 = .ok (.lcmp, 1) := by decide +kernel
theorem dX11_span_4 : decode cX11_span 4 = .ok (.ifCond .ge 6, 3) := by decide +kernel
theorem dX11_span_7 : decode cX11_span 7 = .ok (.bipush (-2), 2) := by decide +kernel
theorem dX11_span_9 : decode cX11_span 9 = .ok (.ireturn, 1) := by decide +kernel
theorem dX11_span_10 : decode cX11_span 10 = .ok (.lload_n 1, 1) := by decide +kernel
theorem dX11_span_11 : decode cX11_span 11 = .ok (.lload_n 3, 1) := by decide +kernel
theorem dX11_span_12 : decode cX11_span 12 = .ok (.lcmp, 1) := by decide +kernel
theorem dX11_span_13 : decode cX11_span 13 = .ok (.ifCond .le 27, 3) := by decide +kernel
theorem dX11_span_16 : decode cX11_span 16 = .ok (.aload_n 0, 1) := by decide +kernel
theorem dX11_span_17 : decode cX11_span 17 = .ok (.new 27, 3) := by decide +kernel
theorem dX11_span_20 : decode cX11_span 20 = .ok (.dup, 1) := by decide +kernel
theorem dX11_span_21 : decode cX11_span 21 = .ok (.new 122, 3) := by decide +kernel
theorem dX11_span_24 : decode cX11_span 24 = .ok (.dup, 1) := by decide +kernel
theorem dX11_span_25 : decode cX11_span 25 = .ok (.lload_n 1, 1) := by decide +kernel
theorem dX11_span_26 : decode cX11_span 26 = .ok (.lload 5, 2) := by decide +kernel
theorem dX11_span_28 : decode cX11_span 28 = .ok (.iconst 0, 1) := by decide +kernel
theorem dX11_span_29 : decode cX11_span 29 = .ok (.lconst 0, 1) := by decide +kernel
theorem dX11_span_30 : decode cX11_span 30 = .ok (.invokespecial 124, 3) := by decide +kernel
theorem dX11_span_33 : decode cX11_span 33 = .ok (.invokespecial 127, 3) := by decide +kernel
theorem dX11_span_36 : decode cX11_span 36 = .ok (.invokevirtual 130, 3) := by decide +kernel
theorem dX11_span_39 : decode cX11_span 39 = .ok (.ireturn, 1) := by decide +kernel
theorem dX11_span_40 : decode cX11_span 40 = .ok (.lload_n 3, 1) := by decide +kernel
theorem dX11_span_41 : decode cX11_span 41 = .ok (.lload_n 1, 1) := by decide +kernel
theorem dX11_span_42 : decode cX11_span 42 = .ok (.lsub, 1) := by decide +kernel
theorem dX11_span_43 : decode cX11_span 43 = .ok (.lload 5, 2) := by decide +kernel
theorem dX11_span_45 : decode cX11_span 45 = .ok (.invokestatic 134, 3) := by decide +kernel
theorem dX11_span_48 : decode cX11_span 48 = .ok (.lconst 1, 1) := by decide +kernel
theorem dX11_span_49 : decode cX11_span 49 = .ok (.ladd, 1) := by decide +kernel
theorem dX11_span_50 : decode cX11_span 50 = .ok (.lstore 7, 2) := by decide +kernel
theorem dX11_span_52 : decode cX11_span 52 = .ok (.lload 7, 2) := by decide +kernel
theorem dX11_span_54 : decode cX11_span 54 = .ok (.lconst 1, 1) := by decide +kernel
theorem dX11_span_55 : decode cX11_span 55 = .ok (.lcmp, 1) := by decide +kernel
theorem dX11_span_56 : decode cX11_span 56 = .ok (.ifCond .ge 6, 3) := by decide +kernel
theorem dX11_span_59 : decode cX11_span 59 = .ok (.bipush (-3), 2) := by decide +kernel
theorem dX11_span_61 : decode cX11_span 61 = .ok (.ireturn, 1) := by decide +kernel
theorem dX11_span_62 : decode cX11_span 62 = .ok (.aload_n 0, 1) := by decide +kernel
theorem dX11_span_63 : decode cX11_span 63 = .ok (.new 27, 3) := by decide +kernel
theorem dX11_span_66 : decode cX11_span 66 = .ok (.dup, 1) := by decide +kernel
theorem dX11_span_67 : decode cX11_span 67 = .ok (.new 122, 3) := by decide +kernel
theorem dX11_span_70 : decode cX11_span 70 = .ok (.dup, 1) := by decide +kernel
theorem dX11_span_71 : decode cX11_span 71 = .ok (.lload_n 1, 1) := by decide +kernel
theorem dX11_span_72 : decode cX11_span 72 = .ok (.lload 5, 2) := by decide +kernel
theorem dX11_span_74 : decode cX11_span 74 = .ok (.iconst 0, 1) := by decide +kernel
theorem dX11_span_75 : decode cX11_span 75 = .ok (.lload 7, 2) := by decide +kernel
theorem dX11_span_77 : decode cX11_span 77 = .ok (.invokespecial 124, 3) := by decide +kernel
theorem dX11_span_80 : decode cX11_span 80 = .ok (.invokespecial 127, 3) := by decide +kernel
theorem dX11_span_83 : decode cX11_span 83 = .ok (.invokevirtual 130, 3) := by decide +kernel
theorem dX11_span_86 : decode cX11_span 86 = .ok (.ireturn, 1) := by decide +kernel
theorem dX11_list_0 : decode cX11_list 0 = .ok (.new 9, 3) := by decide +kernel
theorem dX11_list_3 : decode cX11_list 3 = .ok (.dup, 1) := by decide +kernel
theorem dX11_list_4 : decode cX11_list 4 = .ok (.invokespecial 51, 3) := by decide +kernel
theorem dX11_list_7 : decode cX11_list 7 = .ok (.astore_n 1, 1) := by decide +kernel
theorem dX11_list_8 : decode cX11_list 8 = .ok (.aload_n 1, 1) := by decide +kernel
theorem dX11_list_9 : decode cX11_list 9 = .ok (.iconst 1, 1) := by decide +kernel
theorem dX11_list_10 : decode cX11_list 10 = .ok (.iconst 0, 1) := by decide +kernel
theorem dX11_list_11 : decode cX11_list 11 = .ok (.invokevirtual 59, 3) := by decide +kernel
theorem dX11_list_14 : decode cX11_list 14 = .ok (.aload_n 0, 1) := by decide +kernel
theorem dX11_list_15 : decode cX11_list 15 = .ok (.new 27, 3) := by decide +kernel
theorem dX11_list_18 : decode cX11_list 18 = .ok (.dup, 1) := by decide +kernel
theorem dX11_list_19 : decode cX11_list 19 = .ok (.iconst 1, 1) := by decide +kernel
theorem dX11_list_20 : decode cX11_list 20 = .ok (.aconst_null, 1) := by decide +kernel
theorem dX11_list_21 : decode cX11_list 21 = .ok (.aconst_null, 1) := by decide +kernel
theorem dX11_list_22 : decode cX11_list 22 = .ok (.aconst_null, 1) := by decide +kernel
theorem dX11_list_23 : decode cX11_list 23 = .ok (.aload_n 1, 1) := by decide +kernel
theorem dX11_list_24 : decode cX11_list 24 = .ok (.iconst 0, 1) := by decide +kernel
theorem dX11_list_25 : decode cX11_list 25 = .ok (.lconst 0, 1) := by decide +kernel
theorem dX11_list_26 : decode cX11_list 26 = .ok (.invokespecial 138, 3) := by decide +kernel
theorem dX11_list_29 : decode cX11_list 29 = .ok (.invokevirtual 130, 3) := by decide +kernel
theorem dX11_list_32 : decode cX11_list 32 = .ok (.ireturn, 1) := by decide +kernel
theorem dX11_add_0 : decode cX11_add 0 = .ok (.aload_n 0, 1) := by decide +kernel
theorem dX11_add_1 : decode cX11_add 1 = .ok (.iload_n 1, 1) := by decide +kernel
theorem dX11_add_2 : decode cX11_add 2 = .ok (.invokevirtual 141, 3) := by decide +kernel
theorem dX11_add_5 : decode cX11_add 5 = .ok (.astore 4, 2) := by decide +kernel
theorem dX11_add_7 : decode cX11_add 7 = .ok (.aload 4, 2) := by decide +kernel
theorem dX11_add_9 : decode cX11_add 9 = .ok (.ifnull 20, 3) := by decide +kernel
theorem dX11_add_12 : decode cX11_add 12 = .ok (.aload 4, 2) := by decide +kernel
theorem dX11_add_14 : decode cX11_add 14 = .ok (.getfield 145, 3) := by decide +kernel
theorem dX11_add_17 : decode cX11_add 17 = .ok (.iconst 1, 1) := by decide +kernel
theorem dX11_add_18 : decode cX11_add 18 = .ok (.if_icmp .ne 11, 3) := by decide +kernel
theorem dX11_add_21 : decode cX11_add 21 = .ok (.aload 4, 2) := by decide +kernel
theorem dX11_add_23 : decode cX11_add 23 = .ok (.getfield 148, 3) := by decide +kernel
theorem dX11_add_26 : decode cX11_add 26 = .ok (.ifnonnull 5, 3) := by decide +kernel
theorem dX11_add_29 : decode cX11_add 29 = .ok (.iconst (-1), 1) := by decide +kernel
theorem dX11_add_30 : decode cX11_add 30 = .ok (.ireturn, 1) := by decide +kernel
theorem dX11_add_31 : decode cX11_add 31 = .ok (.aload 4, 2) := by decide +kernel
theorem dX11_add_33 : decode cX11_add 33 = .ok (.getfield 148, 3) := by decide +kernel
theorem dX11_add_36 : decode cX11_add 36 = .ok (.lload_n 2, 1) := by decide +kernel
theorem dX11_add_37 : decode cX11_add 37 = .ok (.invokevirtual 152, 3) := by decide +kernel
theorem dX11_add_40 : decode cX11_add 40 = .ok (.ifCond .eq 14, 3) := by decide +kernel
theorem dX11_add_43 : decode cX11_add 43 = .ok (.aload 4, 2) := by decide +kernel
theorem dX11_add_45 : decode cX11_add 45 = .ok (.getfield 148, 3) := by decide +kernel
theorem dX11_add_48 : decode cX11_add 48 = .ok (.getfield 155, 3) := by decide +kernel
theorem dX11_add_51 : decode cX11_add 51 = .ok (.goto 5, 3) := by decide +kernel
theorem dX11_add_54 : decode cX11_add 54 = .ok (.bipush (-3), 2) := by decide +kernel
theorem dX11_add_56 : decode cX11_add 56 = .ok (.ireturn, 1) := by decide +kernel
theorem dX11_source_0 : decode cX11_source 0 = .ok (.iload_n 1, 1) := by decide +kernel
theorem dX11_source_1 : decode cX11_source 1 = .ok (.iconst 2, 1) := by decide +kernel
theorem dX11_source_2 : decode cX11_source 2 = .ok (.if_icmp .lt 18, 3) := by decide +kernel
theorem dX11_source_5 : decode cX11_source 5 = .ok (.iload_n 1, 1) := by decide +kernel
theorem dX11_source_6 : decode cX11_source 6 = .ok (.bipush 9, 2) := by decide +kernel
theorem dX11_source_8 : decode cX11_source 8 = .ok (.if_icmp .gt 12, 3) := by decide +kernel
theorem dX11_source_11 : decode cX11_source 11 = .ok (.iload_n 1, 1) := by decide +kernel
theorem dX11_source_12 : decode cX11_source 12 = .ok (.iload 5, 2) := by decide +kernel
theorem dX11_source_14 : decode cX11_source 14 = .ok (.invokestatic 158, 3) := by decide +kernel
theorem dX11_source_17 : decode cX11_source 17 = .ok (.ifCond .ne 6, 3) := by decide +kernel
theorem dX11_source_20 : decode cX11_source 20 = .ok (.bipush (-2), 2) := by decide +kernel
theorem dX11_source_22 : decode cX11_source 22 = .ok (.ireturn, 1) := by decide +kernel
theorem dX11_source_23 : decode cX11_source 23 = .ok (.iload_n 1, 1) := by decide +kernel
theorem dX11_source_24 : decode cX11_source 24 = .ok (.bipush 9, 2) := by decide +kernel
theorem dX11_source_26 : decode cX11_source 26 = .ok (.if_icmp .ne 10, 3) := by decide +kernel
theorem dX11_source_29 : decode cX11_source 29 = .ok (.aload_n 0, 1) := by decide +kernel
theorem dX11_source_30 : decode cX11_source 30 = .ok (.iload 4, 2) := by decide +kernel
theorem dX11_source_32 : decode cX11_source 32 = .ok (.invokevirtual 162, 3) := by decide +kernel
theorem dX11_source_35 : decode cX11_source 35 = .ok (.ireturn, 1) := by decide +kernel
theorem dX11_source_36 : decode cX11_source 36 = .ok (.aload_n 0, 1) := by decide +kernel
theorem dX11_source_37 : decode cX11_source 37 = .ok (.iload_n 2, 1) := by decide +kernel
theorem dX11_source_38 : decode cX11_source 38 = .ok (.invokevirtual 141, 3) := by decide +kernel
theorem dX11_source_41 : decode cX11_source 41 = .ok (.astore 8, 2) := by decide +kernel
theorem dX11_source_43 : decode cX11_source 43 = .ok (.iload_n 1, 1) := by decide +kernel
theorem dX11_source_44 : decode cX11_source 44 = .ok (.iconst 4, 1) := by decide +kernel
theorem dX11_source_45 : decode cX11_source 45 = .ok (.if_icmp .gt 11, 3) := by decide +kernel
theorem dX11_source_48 : decode cX11_source 48 = .ok (.aload_n 0, 1) := by decide +kernel
theorem dX11_source_49 : decode cX11_source 49 = .ok (.iload_n 3, 1) := by decide +kernel
theorem dX11_source_50 : decode cX11_source 50 = .ok (.invokevirtual 141, 3) := by decide +kernel
theorem dX11_source_53 : decode cX11_source 53 = .ok (.goto 4, 3) := by decide +kernel
theorem dX11_source_56 : decode cX11_source 56 = .ok (.aconst_null, 1) := by decide +kernel
theorem dX11_source_57 : decode cX11_source 57 = .ok (.astore 9, 2) := by decide +kernel
theorem dX11_source_59 : decode cX11_source 59 = .ok (.iload_n 1, 1) := by decide +kernel
theorem dX11_source_60 : decode cX11_source 60 = .ok (.bipush 7, 2) := by decide +kernel
theorem dX11_source_62 : decode cX11_source 62 = .ok (.if_icmp .ne 12, 3) := by decide +kernel
theorem dX11_source_65 : decode cX11_source 65 = .ok (.aload_n 0, 1) := by decide +kernel
theorem dX11_source_66 : decode cX11_source 66 = .ok (.iload 4, 2) := by decide +kernel
theorem dX11_source_68 : decode cX11_source 68 = .ok (.invokevirtual 108, 3) := by decide +kernel
theorem dX11_source_71 : decode cX11_source 71 = .ok (.goto 4, 3) := by decide +kernel
theorem dX11_source_74 : decode cX11_source 74 = .ok (.aconst_null, 1) := by decide +kernel
theorem dX11_source_75 : decode cX11_source 75 = .ok (.astore 10, 2) := by decide +kernel
theorem dX11_source_77 : decode cX11_source 77 = .ok (.iload_n 1, 1) := by decide +kernel
theorem dX11_source_78 : decode cX11_source 78 = .ok (.iconst 4, 1) := by decide +kernel
theorem dX11_source_79 : decode cX11_source 79 = .ok (.if_icmp .gt 12, 3) := by decide +kernel
theorem dX11_source_82 : decode cX11_source 82 = .ok (.aload 9, 2) := by decide +kernel
theorem dX11_source_84 : decode cX11_source 84 = .ok (.ifnonnull 7, 3) := by decide +kernel
theorem dX11_source_87 : decode cX11_source 87 = .ok (.iconst 1, 1) := by decide +kernel
theorem dX11_source_88 : decode cX11_source 88 = .ok (.goto 4, 3) := by decide +kernel
theorem dX11_source_91 : decode cX11_source 91 = .ok (.iconst 0, 1) := by decide +kernel
theorem dX11_source_92 : decode cX11_source 92 = .ok (.istore 11, 2) := by decide +kernel
theorem dX11_source_94 : decode cX11_source 94 = .ok (.iload_n 1, 1) := by decide +kernel
theorem dX11_source_95 : decode cX11_source 95 = .ok (.bipush 7, 2) := by decide +kernel
theorem dX11_source_97 : decode cX11_source 97 = .ok (.if_icmp .ne 12, 3) := by decide +kernel
theorem dX11_source_100 : decode cX11_source 100 = .ok (.aload 10, 2) := by decide +kernel
theorem dX11_source_102 : decode cX11_source 102 = .ok (.ifnonnull 7, 3) := by decide +kernel
theorem dX11_source_105 : decode cX11_source 105 = .ok (.iconst 1, 1) := by decide +kernel
theorem dX11_source_106 : decode cX11_source 106 = .ok (.goto 4, 3) := by decide +kernel
theorem dX11_source_109 : decode cX11_source 109 = .ok (.iconst 0, 1) := by decide +kernel
theorem dX11_source_110 : decode cX11_source 110 = .ok (.istore 12, 2) := by decide +kernel
theorem dX11_source_112 : decode cX11_source 112 = .ok (.aload 8, 2) := by decide +kernel
theorem dX11_source_114 : decode cX11_source 114 = .ok (.ifnull 13, 3) := by decide +kernel
theorem dX11_source_117 : decode cX11_source 117 = .ok (.iload 11, 2) := by decide +kernel
theorem dX11_source_119 : decode cX11_source 119 = .ok (.ifCond .ne 8, 3) := by decide +kernel
theorem dX11_source_122 : decode cX11_source 122 = .ok (.iload 12, 2) := by decide +kernel
theorem dX11_source_124 : decode cX11_source 124 = .ok (.ifCond .eq 5, 3) := by decide +kernel
theorem dX11_source_127 : decode cX11_source 127 = .ok (.iconst (-1), 1) := by decide +kernel
theorem dX11_source_128 : decode cX11_source 128 = .ok (.ireturn, 1) := by decide +kernel
theorem dX11_source_129 : decode cX11_source 129 = .ok (.aload_n 0, 1) := by decide +kernel
theorem dX11_source_130 : decode cX11_source 130 = .ok (.new 27, 3) := by decide +kernel
theorem dX11_source_133 : decode cX11_source 133 = .ok (.dup, 1) := by decide +kernel
theorem dX11_source_134 : decode cX11_source 134 = .ok (.iload_n 1, 1) := by decide +kernel
theorem dX11_source_135 : decode cX11_source 135 = .ok (.aload 8, 2) := by decide +kernel
theorem dX11_source_137 : decode cX11_source 137 = .ok (.aload 9, 2) := by decide +kernel
theorem dX11_source_139 : decode cX11_source 139 = .ok (.aload 10, 2) := by decide +kernel
theorem dX11_source_141 : decode cX11_source 141 = .ok (.aconst_null, 1) := by decide +kernel
theorem dX11_source_142 : decode cX11_source 142 = .ok (.iload 5, 2) := by decide +kernel
theorem dX11_source_144 : decode cX11_source 144 = .ok (.lload 6, 2) := by decide +kernel
theorem dX11_source_146 : decode cX11_source 146 = .ok (.invokespecial 138, 3) := by decide +kernel
theorem dX11_source_149 : decode cX11_source 149 = .ok (.invokevirtual 130, 3) := by decide +kernel
theorem dX11_source_152 : decode cX11_source 152 = .ok (.ireturn, 1) := by decide +kernel
theorem dX11_range_0 : decode cX11_range 0 = .ok (.aload_n 0, 1) := by decide +kernel
theorem dX11_range_1 : decode cX11_range 1 = .ok (.iload_n 1, 1) := by decide +kernel
theorem dX11_range_2 : decode cX11_range 2 = .ok (.invokevirtual 141, 3) := by decide +kernel
theorem dX11_range_5 : decode cX11_range 5 = .ok (.astore_n 2, 1) := by decide +kernel
theorem dX11_range_6 : decode cX11_range 6 = .ok (.aload_n 2, 1) := by decide +kernel
theorem dX11_range_7 : decode cX11_range 7 = .ok (.ifnonnull 5, 3) := by decide +kernel
theorem dX11_range_10 : decode cX11_range 10 = .ok (.iconst (-1), 1) := by decide +kernel
theorem dX11_range_11 : decode cX11_range 11 = .ok (.ireturn, 1) := by decide +kernel
theorem dX11_range_12 : decode cX11_range 12 = .ok (.aload_n 0, 1) := by decide +kernel
theorem dX11_range_13 : decode cX11_range 13 = .ok (.getfield 36, 3) := by decide +kernel
theorem dX11_range_16 : decode cX11_range 16 = .ok (.invokevirtual 166, 3) := by decide +kernel
theorem dX11_range_19 : decode cX11_range 19 = .ok (.aload_n 2, 1) := by decide +kernel
theorem dX11_range_20 : decode cX11_range 20 = .ok (.getfield 169, 3) := by decide +kernel
theorem dX11_range_23 : decode cX11_range 23 = .ok (.ifnull 16, 3) := by decide +kernel
theorem dX11_range_26 : decode cX11_range 26 = .ok (.aload_n 0, 1) := by decide +kernel
theorem dX11_range_27 : decode cX11_range 27 = .ok (.getfield 43, 3) := by decide +kernel
theorem dX11_range_30 : decode cX11_range 30 = .ok (.aload_n 2, 1) := by decide +kernel
theorem dX11_range_31 : decode cX11_range 31 = .ok (.getfield 169, 3) := by decide +kernel
theorem dX11_range_34 : decode cX11_range 34 = .ok (.invokevirtual 173, 3) := by decide +kernel
theorem dX11_range_37 : decode cX11_range 37 = .ok (.iconst 1, 1) := by decide +kernel
theorem dX11_range_38 : decode cX11_range 38 = .ok (.ireturn, 1) := by decide +kernel
theorem dX11_range_39 : decode cX11_range 39 = .ok (.aload_n 2, 1) := by decide +kernel
theorem dX11_range_40 : decode cX11_range 40 = .ok (.aload_n 0, 1) := by decide +kernel
theorem dX11_range_41 : decode cX11_range 41 = .ok (.getfield 47, 3) := by decide +kernel
theorem dX11_range_44 : decode cX11_range 44 = .ok (.iconst 0, 1) := by decide +kernel
theorem dX11_range_45 : decode cX11_range 45 = .ok (.aload_n 0, 1) := by decide +kernel
theorem dX11_range_46 : decode cX11_range 46 = .ok (.getfield 36, 3) := by decide +kernel
theorem dX11_range_49 : decode cX11_range 49 = .ok (.invokevirtual 176, 3) := by decide +kernel
theorem dX11_range_52 : decode cX11_range 52 = .ok (.istore_n 3, 1) := by decide +kernel
theorem dX11_range_53 : decode cX11_range 53 = .ok (.iload_n 3, 1) := by decide +kernel
theorem dX11_range_54 : decode cX11_range 54 = .ok (.ifCond .ge 5, 3) := by decide +kernel
theorem dX11_range_57 : decode cX11_range 57 = .ok (.iload_n 3, 1) := by decide +kernel
theorem dX11_range_58 : decode cX11_range 58 = .ok (.ireturn, 1) := by decide +kernel
theorem dX11_range_59 : decode cX11_range 59 = .ok (.aload_n 0, 1) := by decide +kernel
theorem dX11_range_60 : decode cX11_range 60 = .ok (.getfield 43, 3) := by decide +kernel
theorem dX11_range_63 : decode cX11_range 63 = .ok (.aload_n 0, 1) := by decide +kernel
theorem dX11_range_64 : decode cX11_range 64 = .ok (.getfield 47, 3) := by decide +kernel
theorem dX11_range_67 : decode cX11_range 67 = .ok (.iload_n 3, 1) := by decide +kernel
theorem dX11_range_68 : decode cX11_range 68 = .ok (.invokevirtual 180, 3) := by decide +kernel
theorem dX11_range_71 : decode cX11_range 71 = .ok (.iconst 1, 1) := by decide +kernel
theorem dX11_range_72 : decode cX11_range 72 = .ok (.ireturn, 1) := by decide +kernel
theorem dX11_size_0 : decode cX11_size 0 = .ok (.aload_n 0, 1) := by decide +kernel
theorem dX11_size_1 : decode cX11_size 1 = .ok (.getfield 43, 3) := by decide +kernel
theorem dX11_size_4 : decode cX11_size 4 = .ok (.invokevirtual 184, 3) := by decide +kernel
theorem dX11_size_7 : decode cX11_size 7 = .ok (.lreturn, 1) := by decide +kernel
theorem dX11_at_0 : decode cX11_at 0 = .ok (.lload_n 1, 1) := by decide +kernel
theorem dX11_at_1 : decode cX11_at 1 = .ok (.lconst 0, 1) := by decide +kernel
theorem dX11_at_2 : decode cX11_at 2 = .ok (.lcmp, 1) := by decide +kernel
theorem dX11_at_3 : decode cX11_at 3 = .ok (.ifCond .lt 15, 3) := by decide +kernel
theorem dX11_at_6 : decode cX11_at 6 = .ok (.lload_n 1, 1) := by decide +kernel
theorem dX11_at_7 : decode cX11_at 7 = .ok (.aload_n 0, 1) := by decide +kernel
theorem dX11_at_8 : decode cX11_at 8 = .ok (.getfield 43, 3) := by decide +kernel
theorem dX11_at_11 : decode cX11_at 11 = .ok (.invokevirtual 184, 3) := by decide +kernel
theorem dX11_at_14 : decode cX11_at 14 = .ok (.lcmp, 1) := by decide +kernel
theorem dX11_at_15 : decode cX11_at 15 = .ok (.ifCond .lt 13, 3) := by decide +kernel
theorem dX11_at_18 : decode cX11_at 18 = .ok (.new 188, 3) := by decide +kernel
theorem dX11_at_21 : decode cX11_at 21 = .ok (.dup, 1) := by decide +kernel
theorem dX11_at_22 : decode cX11_at 22 = .ok (.ldc 190, 2) := by decide +kernel
theorem dX11_at_24 : decode cX11_at 24 = .ok (.invokespecial 192, 3) := by decide +kernel
theorem dX11_at_27 : decode cX11_at 27 = .ok (.athrow, 1) := by decide +kernel
theorem dX11_at_28 : decode cX11_at 28 = .ok (.aload_n 0, 1) := by decide +kernel
theorem dX11_at_29 : decode cX11_at 29 = .ok (.getfield 43, 3) := by decide +kernel
theorem dX11_at_32 : decode cX11_at 32 = .ok (.lload_n 1, 1) := by decide +kernel
theorem dX11_at_33 : decode cX11_at 33 = .ok (.invokevirtual 195, 3) := by decide +kernel
theorem dX11_at_36 : decode cX11_at 36 = .ok (.lreturn, 1) := by decide +kernel
theorem dX11_place_0 : decode cX11_place 0 = .ok (.aload_n 0, 1) := by decide +kernel
theorem dX11_place_1 : decode cX11_place 1 = .ok (.getfield 43, 3) := by decide +kernel
theorem dX11_place_4 : decode cX11_place 4 = .ok (.lload_n 1, 1) := by decide +kernel
theorem dX11_place_5 : decode cX11_place 5 = .ok (.invokevirtual 199, 3) := by decide +kernel
theorem dX11_place_8 : decode cX11_place 8 = .ok (.lreturn, 1) := by decide +kernel
theorem dX11_draw_0 : decode cX11_draw 0 = .ok (.aload_n 0, 1) := by decide +kernel
theorem dX11_draw_1 : decode cX11_draw 1 = .ok (.getfield 43, 3) := by decide +kernel
theorem dX11_draw_4 : decode cX11_draw 4 = .ok (.invokevirtual 184, 3) := by decide +kernel
theorem dX11_draw_7 : decode cX11_draw 7 = .ok (.lstore_n 3, 1) := by decide +kernel
theorem dX11_draw_8 : decode cX11_draw 8 = .ok (.lload_n 3, 1) := by decide +kernel
theorem dX11_draw_9 : decode cX11_draw 9 = .ok (.lconst 0, 1) := by decide +kernel
theorem dX11_draw_10 : decode cX11_draw 10 = .ok (.lcmp, 1) := by decide +kernel
theorem dX11_draw_11 : decode cX11_draw 11 = .ok (.ifCond .gt 13, 3) := by decide +kernel
theorem dX11_draw_14 : decode cX11_draw 14 = .ok (.new 188, 3) := by decide +kernel
theorem dX11_draw_17 : decode cX11_draw 17 = .ok (.dup, 1) := by decide +kernel
theorem dX11_draw_18 : decode cX11_draw 18 = .ok (.ldc 202, 2) := by decide +kernel
theorem dX11_draw_20 : decode cX11_draw 20 = .ok (.invokespecial 192, 3) := by decide +kernel
theorem dX11_draw_23 : decode cX11_draw 23 = .ok (.athrow, 1) := by decide +kernel
theorem dX11_draw_24 : decode cX11_draw 24 = .ok (.aload_n 0, 1) := by decide +kernel
theorem dX11_draw_25 : decode cX11_draw 25 = .ok (.getfield 43, 3) := by decide +kernel
theorem dX11_draw_28 : decode cX11_draw 28 = .ok (.lload_n 1, 1) := by decide +kernel
theorem dX11_draw_29 : decode cX11_draw 29 = .ok (.lload_n 3, 1) := by decide +kernel
theorem dX11_draw_30 : decode cX11_draw 30 = .ok (.invokestatic 204, 3) := by decide +kernel
theorem dX11_draw_33 : decode cX11_draw 33 = .ok (.invokevirtual 195, 3) := by decide +kernel
theorem dX11_draw_36 : decode cX11_draw 36 = .ok (.lreturn, 1) := by decide +kernel
theorem dX11_barred_0 : decode cX11_barred 0 = .ok (.aload_n 0, 1) := by decide +kernel
theorem dX11_barred_1 : decode cX11_barred 1 = .ok (.getfield 36, 3) := by decide +kernel
theorem dX11_barred_4 : decode cX11_barred 4 = .ok (.getfield 207, 3) := by decide +kernel
theorem dX11_barred_7 : decode cX11_barred 7 = .ok (.ireturn, 1) := by decide +kernel
theorem dX11_bar_0 : decode cX11_bar 0 = .ok (.aload_n 0, 1) := by decide +kernel
theorem dX11_bar_1 : decode cX11_bar 1 = .ok (.getfield 36, 3) := by decide +kernel
theorem dX11_bar_4 : decode cX11_bar 4 = .ok (.iload_n 1, 1) := by decide +kernel
theorem dX11_bar_5 : decode cX11_bar 5 = .ok (.invokevirtual 210, 3) := by decide +kernel
theorem dX11_bar_8 : decode cX11_bar 8 = .ok (.ifCond .ne 5, 3) := by decide +kernel
theorem dX11_bar_11 : decode cX11_bar 11 = .ok (.iconst (-1), 1) := by decide +kernel
theorem dX11_bar_12 : decode cX11_bar 12 = .ok (.ireturn, 1) := by decide +kernel
theorem dX11_bar_13 : decode cX11_bar 13 = .ok (.iload_n 2, 1) := by decide +kernel
theorem dX11_bar_14 : decode cX11_bar 14 = .ok (.lookupswitch 46 #[(0, 26), (1, 36)], 26) := by decide +kernel
theorem dX11_bar_40 : decode cX11_bar 40 = .ok (.aload_n 0, 1) := by decide +kernel
theorem dX11_bar_41 : decode cX11_bar 41 = .ok (.getfield 36, 3) := by decide +kernel
theorem dX11_bar_44 : decode cX11_bar 44 = .ok (.getfield 214, 3) := by decide +kernel
theorem dX11_bar_47 : decode cX11_bar 47 = .ok (.iload_n 1, 1) := by decide +kernel
theorem dX11_bar_48 : decode cX11_bar 48 = .ok (.iaload, 1) := by decide +kernel
theorem dX11_bar_49 : decode cX11_bar 49 = .ok (.ireturn, 1) := by decide +kernel
theorem dX11_bar_50 : decode cX11_bar 50 = .ok (.aload_n 0, 1) := by decide +kernel
theorem dX11_bar_51 : decode cX11_bar 51 = .ok (.getfield 36, 3) := by decide +kernel
theorem dX11_bar_54 : decode cX11_bar 54 = .ok (.getfield 217, 3) := by decide +kernel
theorem dX11_bar_57 : decode cX11_bar 57 = .ok (.iload_n 1, 1) := by decide +kernel
theorem dX11_bar_58 : decode cX11_bar 58 = .ok (.iaload, 1) := by decide +kernel
theorem dX11_bar_59 : decode cX11_bar 59 = .ok (.ireturn, 1) := by decide +kernel
theorem dX11_bar_60 : decode cX11_bar 60 = .ok (.bipush (-2), 2) := by decide +kernel
theorem dX11_bar_62 : decode cX11_bar 62 = .ok (.ireturn, 1) := by decide +kernel
theorem dX11_barredAt_0 : decode cX11_barredAt 0 = .ok (.aload_n 0, 1) := by decide +kernel
theorem dX11_barredAt_1 : decode cX11_barredAt 1 = .ok (.getfield 36, 3) := by decide +kernel
theorem dX11_barredAt_4 : decode cX11_barredAt 4 = .ok (.iload_n 1, 1) := by decide +kernel
theorem dX11_barredAt_5 : decode cX11_barredAt 5 = .ok (.invokevirtual 210, 3) := by decide +kernel
theorem dX11_barredAt_8 : decode cX11_barredAt 8 = .ok (.ifCond .ne 13, 3) := by decide +kernel
theorem dX11_barredAt_11 : decode cX11_barredAt 11 = .ok (.new 188, 3) := by decide +kernel
theorem dX11_barredAt_14 : decode cX11_barredAt 14 = .ok (.dup, 1) := by decide +kernel
theorem dX11_barredAt_15 : decode cX11_barredAt 15 = .ok (.ldc 220, 2) := by decide +kernel
theorem dX11_barredAt_17 : decode cX11_barredAt 17 = .ok (.invokespecial 192, 3) := by decide +kernel
theorem dX11_barredAt_20 : decode cX11_barredAt 20 = .ok (.athrow, 1) := by decide +kernel
theorem dX11_barredAt_21 : decode cX11_barredAt 21 = .ok (.aload_n 0, 1) := by decide +kernel
theorem dX11_barredAt_22 : decode cX11_barredAt 22 = .ok (.getfield 36, 3) := by decide +kernel
theorem dX11_barredAt_25 : decode cX11_barredAt 25 = .ok (.getfield 222, 3) := by decide +kernel
theorem dX11_barredAt_28 : decode cX11_barredAt 28 = .ok (.iload_n 1, 1) := by decide +kernel
theorem dX11_barredAt_29 : decode cX11_barredAt 29 = .ok (.laload, 1) := by decide +kernel
theorem dX11_barredAt_30 : decode cX11_barredAt 30 = .ok (.lreturn, 1) := by decide +kernel
theorem dX11_distance_0 : decode cX11_distance 0 = .ok (.lload_n 1, 1) := by decide +kernel
theorem dX11_distance_1 : decode cX11_distance 1 = .ok (.lload_n 3, 1) := by decide +kernel
theorem dX11_distance_2 : decode cX11_distance 2 = .ok (.invokestatic 225, 3) := by decide +kernel
theorem dX11_distance_5 : decode cX11_distance 5 = .ok (.lreturn, 1) := by decide +kernel
theorem dX11_told_0 : decode cX11_told 0 = .ok (.iload_n 1, 1) := by decide +kernel
theorem dX11_told_1 : decode cX11_told 1 = .ok (.tableswitch 65 0 3 #[31, 36, 41, 49], 31) := by decide +kernel
theorem dX11_told_32 : decode cX11_told 32 = .ok (.aload_n 0, 1) := by decide +kernel
theorem dX11_told_33 : decode cX11_told 33 = .ok (.getfield 97, 3) := by decide +kernel
theorem dX11_told_36 : decode cX11_told 36 = .ok (.ireturn, 1) := by decide +kernel
theorem dX11_told_37 : decode cX11_told 37 = .ok (.aload_n 0, 1) := by decide +kernel
theorem dX11_told_38 : decode cX11_told 38 = .ok (.getfield 228, 3) := by decide +kernel
theorem dX11_told_41 : decode cX11_told 41 = .ok (.ireturn, 1) := by decide +kernel
theorem dX11_told_42 : decode cX11_told 42 = .ok (.aload_n 0, 1) := by decide +kernel
theorem dX11_told_43 : decode cX11_told 43 = .ok (.getfield 36, 3) := by decide +kernel
theorem dX11_told_46 : decode cX11_told 46 = .ok (.getfield 231, 3) := by decide +kernel
theorem dX11_told_49 : decode cX11_told 49 = .ok (.ireturn, 1) := by decide +kernel
theorem dX11_told_50 : decode cX11_told 50 = .ok (.aload_n 0, 1) := by decide +kernel
theorem dX11_told_51 : decode cX11_told 51 = .ok (.getfield 43, 3) := by decide +kernel
theorem dX11_told_54 : decode cX11_told 54 = .ok (.getfield 234, 3) := by decide +kernel
theorem dX11_told_57 : decode cX11_told 57 = .ok (.ifnonnull 7, 3) := by decide +kernel
theorem dX11_told_60 : decode cX11_told 60 = .ok (.iconst 0, 1) := by decide +kernel
theorem dX11_told_61 : decode cX11_told 61 = .ok (.goto 4, 3) := by decide +kernel
theorem dX11_told_64 : decode cX11_told 64 = .ok (.iconst 1, 1) := by decide +kernel
theorem dX11_told_65 : decode cX11_told 65 = .ok (.ireturn, 1) := by decide +kernel
theorem dX11_told_66 : decode cX11_told 66 = .ok (.bipush (-2), 2) := by decide +kernel
theorem dX11_told_68 : decode cX11_told 68 = .ok (.ireturn, 1) := by decide +kernel
theorem dX11_shelfAt_0 : decode cX11_shelfAt 0 = .ok (.iload_n 1, 1) := by decide +kernel
theorem dX11_shelfAt_1 : decode cX11_shelfAt 1 = .ok (.ifCond .lt 9, 3) := by decide +kernel
theorem dX11_shelfAt_4 : decode cX11_shelfAt 4 = .ok (.iload_n 1, 1) := by decide +kernel
theorem dX11_shelfAt_5 : decode cX11_shelfAt 5 = .ok (.bipush 6, 2) := by decide +kernel
theorem dX11_shelfAt_7 : decode cX11_shelfAt 7 = .ok (.if_icmp .lt 7, 3) := by decide +kernel
theorem dX11_shelfAt_10 : decode cX11_shelfAt 10 = .ok (.aconst_null, 1) := by decide +kernel
theorem dX11_shelfAt_11 : decode cX11_shelfAt 11 = .ok (.goto 9, 3) := by decide +kernel
theorem dX11_shelfAt_14 : decode cX11_shelfAt 14 = .ok (.aload_n 0, 1) := by decide +kernel
theorem dX11_shelfAt_15 : decode cX11_shelfAt 15 = .ok (.getfield 11, 3) := by decide +kernel
theorem dX11_shelfAt_18 : decode cX11_shelfAt 18 = .ok (.iload_n 1, 1) := by decide +kernel
theorem dX11_shelfAt_19 : decode cX11_shelfAt 19 = .ok (.aaload, 1) := by decide +kernel
theorem dX11_shelfAt_20 : decode cX11_shelfAt 20 = .ok (.areturn, 1) := by decide +kernel
theorem dX11_boxAt_0 : decode cX11_boxAt 0 = .ok (.iload_n 1, 1) := by decide +kernel
theorem dX11_boxAt_1 : decode cX11_boxAt 1 = .ok (.ifCond .lt 8, 3) := by decide +kernel
theorem dX11_boxAt_4 : decode cX11_boxAt 4 = .ok (.iload_n 1, 1) := by decide +kernel
theorem dX11_boxAt_5 : decode cX11_boxAt 5 = .ok (.iconst 3, 1) := by decide +kernel
theorem dX11_boxAt_6 : decode cX11_boxAt 6 = .ok (.if_icmp .lt 7, 3) := by decide +kernel
theorem dX11_boxAt_9 : decode cX11_boxAt 9 = .ok (.aconst_null, 1) := by decide +kernel
theorem dX11_boxAt_10 : decode cX11_boxAt 10 = .ok (.goto 9, 3) := by decide +kernel
theorem dX11_boxAt_13 : decode cX11_boxAt 13 = .ok (.aload_n 0, 1) := by decide +kernel
theorem dX11_boxAt_14 : decode cX11_boxAt 14 = .ok (.getfield 17, 3) := by decide +kernel
theorem dX11_boxAt_17 : decode cX11_boxAt 17 = .ok (.iload_n 1, 1) := by decide +kernel
theorem dX11_boxAt_18 : decode cX11_boxAt 18 = .ok (.aaload, 1) := by decide +kernel
theorem dX11_boxAt_19 : decode cX11_boxAt 19 = .ok (.areturn, 1) := by decide +kernel
theorem dX11_filterAt_0 : decode cX11_filterAt 0 = .ok (.iload_n 1, 1) := by decide +kernel
theorem dX11_filterAt_1 : decode cX11_filterAt 1 = .ok (.ifCond .lt 11, 3) := by decide +kernel
theorem dX11_filterAt_4 : decode cX11_filterAt 4 = .ok (.iload_n 1, 1) := by decide +kernel
theorem dX11_filterAt_5 : decode cX11_filterAt 5 = .ok (.aload_n 0, 1) := by decide +kernel
theorem dX11_filterAt_6 : decode cX11_filterAt 6 = .ok (.getfield 97, 3) := by decide +kernel
theorem dX11_filterAt_9 : decode cX11_filterAt 9 = .ok (.if_icmp .lt 7, 3) := by decide +kernel
theorem dX11_filterAt_12 : decode cX11_filterAt 12 = .ok (.aconst_null, 1) := by decide +kernel
theorem dX11_filterAt_13 : decode cX11_filterAt 13 = .ok (.goto 9, 3) := by decide +kernel
theorem dX11_filterAt_16 : decode cX11_filterAt 16 = .ok (.aload_n 0, 1) := by decide +kernel
theorem dX11_filterAt_17 : decode cX11_filterAt 17 = .ok (.getfield 23, 3) := by decide +kernel
theorem dX11_filterAt_20 : decode cX11_filterAt 20 = .ok (.iload_n 1, 1) := by decide +kernel
theorem dX11_filterAt_21 : decode cX11_filterAt 21 = .ok (.aaload, 1) := by decide +kernel
theorem dX11_filterAt_22 : decode cX11_filterAt 22 = .ok (.areturn, 1) := by decide +kernel
theorem dX11_sourceAt_0 : decode cX11_sourceAt 0 = .ok (.iload_n 1, 1) := by decide +kernel
theorem dX11_sourceAt_1 : decode cX11_sourceAt 1 = .ok (.ifCond .lt 11, 3) := by decide +kernel
theorem dX11_sourceAt_4 : decode cX11_sourceAt 4 = .ok (.iload_n 1, 1) := by decide +kernel
theorem dX11_sourceAt_5 : decode cX11_sourceAt 5 = .ok (.aload_n 0, 1) := by decide +kernel
theorem dX11_sourceAt_6 : decode cX11_sourceAt 6 = .ok (.getfield 228, 3) := by decide +kernel
theorem dX11_sourceAt_9 : decode cX11_sourceAt 9 = .ok (.if_icmp .lt 7, 3) := by decide +kernel
theorem dX11_sourceAt_12 : decode cX11_sourceAt 12 = .ok (.aconst_null, 1) := by decide +kernel
theorem dX11_sourceAt_13 : decode cX11_sourceAt 13 = .ok (.goto 9, 3) := by decide +kernel
theorem dX11_sourceAt_16 : decode cX11_sourceAt 16 = .ok (.aload_n 0, 1) := by decide +kernel
theorem dX11_sourceAt_17 : decode cX11_sourceAt 17 = .ok (.getfield 29, 3) := by decide +kernel
theorem dX11_sourceAt_20 : decode cX11_sourceAt 20 = .ok (.iload_n 1, 1) := by decide +kernel
theorem dX11_sourceAt_21 : decode cX11_sourceAt 21 = .ok (.aaload, 1) := by decide +kernel
theorem dX11_sourceAt_22 : decode cX11_sourceAt 22 = .ok (.areturn, 1) := by decide +kernel
theorem dX11_filterOfFilters_0 : decode cX11_filterOfFilters 0 = .ok (.iload_n 1, 1) := by decide +kernel
theorem dX11_filterOfFilters_1 : decode cX11_filterOfFilters 1 = .ok (.bipush 8, 2) := by decide +kernel
theorem dX11_filterOfFilters_3 : decode cX11_filterOfFilters 3 = .ok (.if_icmp .eq 15, 3) := by decide +kernel
theorem dX11_filterOfFilters_6 : decode cX11_filterOfFilters 6 = .ok (.iload_n 1, 1) := by decide +kernel
theorem dX11_filterOfFilters_7 : decode cX11_filterOfFilters 7 = .ok (.bipush 9, 2) := by decide +kernel
theorem dX11_filterOfFilters_9 : decode cX11_filterOfFilters 9 = .ok (.if_icmp .eq 9, 3) := by decide +kernel
theorem dX11_filterOfFilters_12 : decode cX11_filterOfFilters 12 = .ok (.iload_n 1, 1) := by decide +kernel
theorem dX11_filterOfFilters_13 : decode cX11_filterOfFilters 13 = .ok (.bipush 10, 2) := by decide +kernel
theorem dX11_filterOfFilters_15 : decode cX11_filterOfFilters 15 = .ok (.if_icmp .ne 7, 3) := by decide +kernel
theorem dX11_filterOfFilters_18 : decode cX11_filterOfFilters 18 = .ok (.iconst 1, 1) := by decide +kernel
theorem dX11_filterOfFilters_19 : decode cX11_filterOfFilters 19 = .ok (.goto 4, 3) := by decide +kernel
theorem dX11_filterOfFilters_22 : decode cX11_filterOfFilters 22 = .ok (.iconst 0, 1) := by decide +kernel
theorem dX11_filterOfFilters_23 : decode cX11_filterOfFilters 23 = .ok (.istore 4, 2) := by decide +kernel
theorem dX11_filterOfFilters_25 : decode cX11_filterOfFilters 25 = .ok (.aload_n 0, 1) := by decide +kernel
theorem dX11_filterOfFilters_26 : decode cX11_filterOfFilters 26 = .ok (.iload_n 2, 1) := by decide +kernel
theorem dX11_filterOfFilters_27 : decode cX11_filterOfFilters 27 = .ok (.invokevirtual 108, 3) := by decide +kernel
theorem dX11_filterOfFilters_30 : decode cX11_filterOfFilters 30 = .ok (.astore 5, 2) := by decide +kernel
theorem dX11_filterOfFilters_32 : decode cX11_filterOfFilters 32 = .ok (.iload 4, 2) := by decide +kernel
theorem dX11_filterOfFilters_34 : decode cX11_filterOfFilters 34 = .ok (.ifCond .eq 11, 3) := by decide +kernel
theorem dX11_filterOfFilters_37 : decode cX11_filterOfFilters 37 = .ok (.aload_n 0, 1) := by decide +kernel
theorem dX11_filterOfFilters_38 : decode cX11_filterOfFilters 38 = .ok (.iload_n 3, 1) := by decide +kernel
theorem dX11_filterOfFilters_39 : decode cX11_filterOfFilters 39 = .ok (.invokevirtual 108, 3) := by decide +kernel
theorem dX11_filterOfFilters_42 : decode cX11_filterOfFilters 42 = .ok (.goto 4, 3) := by decide +kernel
theorem dX11_filterOfFilters_45 : decode cX11_filterOfFilters 45 = .ok (.aconst_null, 1) := by decide +kernel
theorem dX11_filterOfFilters_46 : decode cX11_filterOfFilters 46 = .ok (.astore 6, 2) := by decide +kernel
theorem dX11_filterOfFilters_48 : decode cX11_filterOfFilters 48 = .ok (.aload 5, 2) := by decide +kernel
theorem dX11_filterOfFilters_50 : decode cX11_filterOfFilters 50 = .ok (.ifnull 13, 3) := by decide +kernel
theorem dX11_filterOfFilters_53 : decode cX11_filterOfFilters 53 = .ok (.iload 4, 2) := by decide +kernel
theorem dX11_filterOfFilters_55 : decode cX11_filterOfFilters 55 = .ok (.ifCond .eq 10, 3) := by decide +kernel
theorem dX11_filterOfFilters_58 : decode cX11_filterOfFilters 58 = .ok (.aload 6, 2) := by decide +kernel
theorem dX11_filterOfFilters_60 : decode cX11_filterOfFilters 60 = .ok (.ifnonnull 5, 3) := by decide +kernel
theorem dX11_filterOfFilters_63 : decode cX11_filterOfFilters 63 = .ok (.iconst (-1), 1) := by decide +kernel
theorem dX11_filterOfFilters_64 : decode cX11_filterOfFilters 64 = .ok (.ireturn, 1) := by decide +kernel
theorem dX11_filterOfFilters_65 : decode cX11_filterOfFilters 65 = .ok (.aload_n 0, 1) := by decide +kernel
theorem dX11_filterOfFilters_66 : decode cX11_filterOfFilters 66 = .ok (.new 235, 3) := by decide +kernel
theorem dX11_filterOfFilters_69 : decode cX11_filterOfFilters 69 = .ok (.dup, 1) := by decide +kernel
theorem dX11_filterOfFilters_70 : decode cX11_filterOfFilters 70 = .ok (.aload_n 0, 1) := by decide +kernel
theorem dX11_filterOfFilters_71 : decode cX11_filterOfFilters 71 = .ok (.getfield 97, 3) := by decide +kernel
theorem dX11_filterOfFilters_74 : decode cX11_filterOfFilters 74 = .ok (.iload_n 1, 1) := by decide +kernel
theorem dX11_filterOfFilters_75 : decode cX11_filterOfFilters 75 = .ok (.aload 5, 2) := by decide +kernel
theorem dX11_filterOfFilters_77 : decode cX11_filterOfFilters 77 = .ok (.aload 6, 2) := by decide +kernel
theorem dX11_filterOfFilters_79 : decode cX11_filterOfFilters 79 = .ok (.invokespecial 237, 3) := by decide +kernel
theorem dX11_filterOfFilters_82 : decode cX11_filterOfFilters 82 = .ok (.invokevirtual 104, 3) := by decide +kernel
theorem dX11_filterOfFilters_85 : decode cX11_filterOfFilters 85 = .ok (.ireturn, 1) := by decide +kernel
theorem dX11_filterOfShelf_0 : decode cX11_filterOfShelf 0 = .ok (.aload_n 0, 1) := by decide +kernel
theorem dX11_filterOfShelf_1 : decode cX11_filterOfShelf 1 = .ok (.iload_n 2, 1) := by decide +kernel
theorem dX11_filterOfShelf_2 : decode cX11_filterOfShelf 2 = .ok (.invokevirtual 55, 3) := by decide +kernel
theorem dX11_filterOfShelf_5 : decode cX11_filterOfShelf 5 = .ok (.astore 5, 2) := by decide +kernel
theorem dX11_filterOfShelf_7 : decode cX11_filterOfShelf 7 = .ok (.aload 5, 2) := by decide +kernel
theorem dX11_filterOfShelf_9 : decode cX11_filterOfShelf 9 = .ok (.ifnonnull 6, 3) := by decide +kernel
theorem dX11_filterOfShelf_12 : decode cX11_filterOfShelf 12 = .ok (.bipush (-2), 2) := by decide +kernel
theorem dX11_filterOfShelf_14 : decode cX11_filterOfShelf 14 = .ok (.ireturn, 1) := by decide +kernel
theorem dX11_filterOfShelf_15 : decode cX11_filterOfShelf 15 = .ok (.iload_n 1, 1) := by decide +kernel
theorem dX11_filterOfShelf_16 : decode cX11_filterOfShelf 16 = .ok (.iconst 3, 1) := by decide +kernel
theorem dX11_filterOfShelf_17 : decode cX11_filterOfShelf 17 = .ok (.if_icmp .ne 7, 3) := by decide +kernel
theorem dX11_filterOfShelf_20 : decode cX11_filterOfShelf 20 = .ok (.iconst 1, 1) := by decide +kernel
theorem dX11_filterOfShelf_21 : decode cX11_filterOfShelf 21 = .ok (.goto 4, 3) := by decide +kernel
theorem dX11_filterOfShelf_24 : decode cX11_filterOfShelf 24 = .ok (.iconst 3, 1) := by decide +kernel
theorem dX11_filterOfShelf_25 : decode cX11_filterOfShelf 25 = .ok (.istore 6, 2) := by decide +kernel
theorem dX11_filterOfShelf_27 : decode cX11_filterOfShelf 27 = .ok (.aload_n 0, 1) := by decide +kernel
theorem dX11_filterOfShelf_28 : decode cX11_filterOfShelf 28 = .ok (.new 240, 3) := by decide +kernel
theorem dX11_filterOfShelf_31 : decode cX11_filterOfShelf 31 = .ok (.dup, 1) := by decide +kernel
theorem dX11_filterOfShelf_32 : decode cX11_filterOfShelf 32 = .ok (.aload_n 0, 1) := by decide +kernel
theorem dX11_filterOfShelf_33 : decode cX11_filterOfShelf 33 = .ok (.getfield 97, 3) := by decide +kernel
theorem dX11_filterOfShelf_36 : decode cX11_filterOfShelf 36 = .ok (.aload 5, 2) := by decide +kernel
theorem dX11_filterOfShelf_38 : decode cX11_filterOfShelf 38 = .ok (.iload 6, 2) := by decide +kernel
theorem dX11_filterOfShelf_40 : decode cX11_filterOfShelf 40 = .ok (.lload_n 3, 1) := by decide +kernel
theorem dX11_filterOfShelf_41 : decode cX11_filterOfShelf 41 = .ok (.invokespecial 242, 3) := by decide +kernel
theorem dX11_filterOfShelf_44 : decode cX11_filterOfShelf 44 = .ok (.invokevirtual 104, 3) := by decide +kernel
theorem dX11_filterOfShelf_47 : decode cX11_filterOfShelf 47 = .ok (.ireturn, 1) := by decide +kernel
theorem dX11_filterOfBox_0 : decode cX11_filterOfBox 0 = .ok (.aload_n 0, 1) := by decide +kernel
theorem dX11_filterOfBox_1 : decode cX11_filterOfBox 1 = .ok (.iload_n 1, 1) := by decide +kernel
theorem dX11_filterOfBox_2 : decode cX11_filterOfBox 2 = .ok (.invokevirtual 75, 3) := by decide +kernel
theorem dX11_filterOfBox_5 : decode cX11_filterOfBox 5 = .ok (.astore 4, 2) := by decide +kernel
theorem dX11_filterOfBox_7 : decode cX11_filterOfBox 7 = .ok (.aload 4, 2) := by decide +kernel
theorem dX11_filterOfBox_9 : decode cX11_filterOfBox 9 = .ok (.ifnonnull 6, 3) := by decide +kernel
theorem dX11_filterOfBox_12 : decode cX11_filterOfBox 12 = .ok (.bipush (-2), 2) := by decide +kernel
theorem dX11_filterOfBox_14 : decode cX11_filterOfBox 14 = .ok (.ireturn, 1) := by decide +kernel
theorem dX11_filterOfBox_15 : decode cX11_filterOfBox 15 = .ok (.aload_n 0, 1) := by decide +kernel
theorem dX11_filterOfBox_16 : decode cX11_filterOfBox 16 = .ok (.new 245, 3) := by decide +kernel
theorem dX11_filterOfBox_19 : decode cX11_filterOfBox 19 = .ok (.dup, 1) := by decide +kernel
theorem dX11_filterOfBox_20 : decode cX11_filterOfBox 20 = .ok (.aload_n 0, 1) := by decide +kernel
theorem dX11_filterOfBox_21 : decode cX11_filterOfBox 21 = .ok (.getfield 97, 3) := by decide +kernel
theorem dX11_filterOfBox_24 : decode cX11_filterOfBox 24 = .ok (.aload 4, 2) := by decide +kernel
theorem dX11_filterOfBox_26 : decode cX11_filterOfBox 26 = .ok (.lload_n 2, 1) := by decide +kernel
theorem dX11_filterOfBox_27 : decode cX11_filterOfBox 27 = .ok (.ldc2_w 247, 3) := by decide +kernel
theorem dX11_filterOfBox_30 : decode cX11_filterOfBox 30 = .ok (.lrem, 1) := by decide +kernel
theorem dX11_filterOfBox_31 : decode cX11_filterOfBox 31 = .ok (.invokestatic 249, 3) := by decide +kernel
theorem dX11_filterOfBox_34 : decode cX11_filterOfBox 34 = .ok (.l2i, 1) := by decide +kernel
theorem dX11_filterOfBox_35 : decode cX11_filterOfBox 35 = .ok (.invokespecial 254, 3) := by decide +kernel
theorem dX11_filterOfBox_38 : decode cX11_filterOfBox 38 = .ok (.invokevirtual 104, 3) := by decide +kernel
theorem dX11_filterOfBox_41 : decode cX11_filterOfBox 41 = .ok (.ireturn, 1) := by decide +kernel
theorem dX11_keepFilter_0 : decode cX11_keepFilter 0 = .ok (.aload_n 0, 1) := by decide +kernel
theorem dX11_keepFilter_1 : decode cX11_keepFilter 1 = .ok (.getfield 97, 3) := by decide +kernel
theorem dX11_keepFilter_4 : decode cX11_keepFilter 4 = .ok (.bipush 20, 2) := by decide +kernel
theorem dX11_keepFilter_6 : decode cX11_keepFilter 6 = .ok (.if_icmp .ge 12, 3) := by decide +kernel
theorem dX11_keepFilter_9 : decode cX11_keepFilter 9 = .ok (.aload_n 1, 1) := by decide +kernel
theorem dX11_keepFilter_10 : decode cX11_keepFilter 10 = .ok (.getfield 257, 3) := by decide +kernel
theorem dX11_keepFilter_13 : decode cX11_keepFilter 13 = .ok (.bipush 6, 2) := by decide +kernel
theorem dX11_keepFilter_15 : decode cX11_keepFilter 15 = .ok (.if_icmp .le 6, 3) := by decide +kernel
theorem dX11_keepFilter_18 : decode cX11_keepFilter 18 = .ok (.bipush (-3), 2) := by decide +kernel
theorem dX11_keepFilter_20 : decode cX11_keepFilter 20 = .ok (.ireturn, 1) := by decide +kernel
theorem dX11_keepFilter_21 : decode cX11_keepFilter 21 = .ok (.aload_n 0, 1) := by decide +kernel
theorem dX11_keepFilter_22 : decode cX11_keepFilter 22 = .ok (.getfield 23, 3) := by decide +kernel
theorem dX11_keepFilter_25 : decode cX11_keepFilter 25 = .ok (.aload_n 0, 1) := by decide +kernel
theorem dX11_keepFilter_26 : decode cX11_keepFilter 26 = .ok (.getfield 97, 3) := by decide +kernel
theorem dX11_keepFilter_29 : decode cX11_keepFilter 29 = .ok (.aload_n 1, 1) := by decide +kernel
theorem dX11_keepFilter_30 : decode cX11_keepFilter 30 = .ok (.aastore, 1) := by decide +kernel
theorem dX11_keepFilter_31 : decode cX11_keepFilter 31 = .ok (.aload_n 0, 1) := by decide +kernel
theorem dX11_keepFilter_32 : decode cX11_keepFilter 32 = .ok (.dup, 1) := by decide +kernel
theorem dX11_keepFilter_33 : decode cX11_keepFilter 33 = .ok (.getfield 97, 3) := by decide +kernel
theorem dX11_keepFilter_36 : decode cX11_keepFilter 36 = .ok (.dup_x1, 1) := by decide +kernel
theorem dX11_keepFilter_37 : decode cX11_keepFilter 37 = .ok (.iconst 1, 1) := by decide +kernel
theorem dX11_keepFilter_38 : decode cX11_keepFilter 38 = .ok (.iadd, 1) := by decide +kernel
theorem dX11_keepFilter_39 : decode cX11_keepFilter 39 = .ok (.putfield 97, 3) := by decide +kernel
theorem dX11_keepFilter_42 : decode cX11_keepFilter 42 = .ok (.ireturn, 1) := by decide +kernel
theorem dX11_countFits_0 : decode cX11_countFits 0 = .ok (.iload_n 0, 1) := by decide +kernel
theorem dX11_countFits_1 : decode cX11_countFits 1 = .ok (.bipush 6, 2) := by decide +kernel
theorem dX11_countFits_3 : decode cX11_countFits 3 = .ok (.if_icmp .ne 20, 3) := by decide +kernel
theorem dX11_countFits_6 : decode cX11_countFits 6 = .ok (.iload_n 1, 1) := by decide +kernel
theorem dX11_countFits_7 : decode cX11_countFits 7 = .ok (.ifCond .lt 14, 3) := by decide +kernel
theorem dX11_countFits_10 : decode cX11_countFits 10 = .ok (.iload_n 1, 1) := by decide +kernel
theorem dX11_countFits_11 : decode cX11_countFits 11 = .ok (.sipush 200, 3) := by decide +kernel
theorem dX11_countFits_14 : decode cX11_countFits 14 = .ok (.if_icmp .gt 7, 3) := by decide +kernel
theorem dX11_countFits_17 : decode cX11_countFits 17 = .ok (.iconst 1, 1) := by decide +kernel
theorem dX11_countFits_18 : decode cX11_countFits 18 = .ok (.goto 4, 3) := by decide +kernel
theorem dX11_countFits_21 : decode cX11_countFits 21 = .ok (.iconst 0, 1) := by decide +kernel
theorem dX11_countFits_22 : decode cX11_countFits 22 = .ok (.ireturn, 1) := by decide +kernel
theorem dX11_countFits_23 : decode cX11_countFits 23 = .ok (.iload_n 0, 1) := by decide +kernel
theorem dX11_countFits_24 : decode cX11_countFits 24 = .ok (.bipush 8, 2) := by decide +kernel
theorem dX11_countFits_26 : decode cX11_countFits 26 = .ok (.if_icmp .ne 15, 3) := by decide +kernel
theorem dX11_countFits_29 : decode cX11_countFits 29 = .ok (.iload_n 1, 1) := by decide +kernel
theorem dX11_countFits_30 : decode cX11_countFits 30 = .ok (.iconst 1, 1) := by decide +kernel
theorem dX11_countFits_31 : decode cX11_countFits 31 = .ok (.if_icmp .lt 14, 3) := by decide +kernel
theorem dX11_countFits_34 : decode cX11_countFits 34 = .ok (.iload_n 1, 1) := by decide +kernel
theorem dX11_countFits_35 : decode cX11_countFits 35 = .ok (.sipush 200, 3) := by decide +kernel
theorem dX11_countFits_38 : decode cX11_countFits 38 = .ok (.if_icmp .gt 7, 3) := by decide +kernel
theorem dX11_countFits_41 : decode cX11_countFits 41 = .ok (.iconst 1, 1) := by decide +kernel
theorem dX11_countFits_42 : decode cX11_countFits 42 = .ok (.goto 4, 3) := by decide +kernel
theorem dX11_countFits_45 : decode cX11_countFits 45 = .ok (.iconst 0, 1) := by decide +kernel
theorem dX11_countFits_46 : decode cX11_countFits 46 = .ok (.ireturn, 1) := by decide +kernel
theorem dX11_sourceOfShelf_0 : decode cX11_sourceOfShelf 0 = .ok (.aload_n 0, 1) := by decide +kernel
theorem dX11_sourceOfShelf_1 : decode cX11_sourceOfShelf 1 = .ok (.iload_n 1, 1) := by decide +kernel
theorem dX11_sourceOfShelf_2 : decode cX11_sourceOfShelf 2 = .ok (.invokevirtual 55, 3) := by decide +kernel
theorem dX11_sourceOfShelf_5 : decode cX11_sourceOfShelf 5 = .ok (.astore_n 2, 1) := by decide +kernel
theorem dX11_sourceOfShelf_6 : decode cX11_sourceOfShelf 6 = .ok (.aload_n 2, 1) := by decide +kernel
theorem dX11_sourceOfShelf_7 : decode cX11_sourceOfShelf 7 = .ok (.ifnonnull 6, 3) := by decide +kernel
theorem dX11_sourceOfShelf_10 : decode cX11_sourceOfShelf 10 = .ok (.bipush (-2), 2) := by decide +kernel
theorem dX11_sourceOfShelf_12 : decode cX11_sourceOfShelf 12 = .ok (.ireturn, 1) := by decide +kernel
theorem dX11_sourceOfShelf_13 : decode cX11_sourceOfShelf 13 = .ok (.aload_n 0, 1) := by decide +kernel
theorem dX11_sourceOfShelf_14 : decode cX11_sourceOfShelf 14 = .ok (.new 27, 3) := by decide +kernel
theorem dX11_sourceOfShelf_17 : decode cX11_sourceOfShelf 17 = .ok (.dup, 1) := by decide +kernel
theorem dX11_sourceOfShelf_18 : decode cX11_sourceOfShelf 18 = .ok (.bipush 9, 2) := by decide +kernel
theorem dX11_sourceOfShelf_20 : decode cX11_sourceOfShelf 20 = .ok (.aconst_null, 1) := by decide +kernel
theorem dX11_sourceOfShelf_21 : decode cX11_sourceOfShelf 21 = .ok (.aconst_null, 1) := by decide +kernel
theorem dX11_sourceOfShelf_22 : decode cX11_sourceOfShelf 22 = .ok (.aconst_null, 1) := by decide +kernel
theorem dX11_sourceOfShelf_23 : decode cX11_sourceOfShelf 23 = .ok (.aload_n 2, 1) := by decide +kernel
theorem dX11_sourceOfShelf_24 : decode cX11_sourceOfShelf 24 = .ok (.iconst 0, 1) := by decide +kernel
theorem dX11_sourceOfShelf_25 : decode cX11_sourceOfShelf 25 = .ok (.lconst 0, 1) := by decide +kernel
theorem dX11_sourceOfShelf_26 : decode cX11_sourceOfShelf 26 = .ok (.invokespecial 138, 3) := by decide +kernel
theorem dX11_sourceOfShelf_29 : decode cX11_sourceOfShelf 29 = .ok (.invokevirtual 130, 3) := by decide +kernel
theorem dX11_sourceOfShelf_32 : decode cX11_sourceOfShelf 32 = .ok (.ireturn, 1) := by decide +kernel
theorem dX11_keepSource_0 : decode cX11_keepSource 0 = .ok (.aload_n 0, 1) := by decide +kernel
theorem dX11_keepSource_1 : decode cX11_keepSource 1 = .ok (.getfield 228, 3) := by decide +kernel
theorem dX11_keepSource_4 : decode cX11_keepSource 4 = .ok (.bipush 20, 2) := by decide +kernel
theorem dX11_keepSource_6 : decode cX11_keepSource 6 = .ok (.if_icmp .ge 12, 3) := by decide +kernel
theorem dX11_keepSource_9 : decode cX11_keepSource 9 = .ok (.aload_n 1, 1) := by decide +kernel
theorem dX11_keepSource_10 : decode cX11_keepSource 10 = .ok (.getfield 260, 3) := by decide +kernel
theorem dX11_keepSource_13 : decode cX11_keepSource 13 = .ok (.bipush 6, 2) := by decide +kernel
theorem dX11_keepSource_15 : decode cX11_keepSource 15 = .ok (.if_icmp .le 6, 3) := by decide +kernel
theorem dX11_keepSource_18 : decode cX11_keepSource 18 = .ok (.bipush (-3), 2) := by decide +kernel
theorem dX11_keepSource_20 : decode cX11_keepSource 20 = .ok (.ireturn, 1) := by decide +kernel
theorem dX11_keepSource_21 : decode cX11_keepSource 21 = .ok (.aload_n 0, 1) := by decide +kernel
theorem dX11_keepSource_22 : decode cX11_keepSource 22 = .ok (.getfield 29, 3) := by decide +kernel
theorem dX11_keepSource_25 : decode cX11_keepSource 25 = .ok (.aload_n 0, 1) := by decide +kernel
theorem dX11_keepSource_26 : decode cX11_keepSource 26 = .ok (.getfield 228, 3) := by decide +kernel
theorem dX11_keepSource_29 : decode cX11_keepSource 29 = .ok (.aload_n 1, 1) := by decide +kernel
theorem dX11_keepSource_30 : decode cX11_keepSource 30 = .ok (.aastore, 1) := by decide +kernel
theorem dX11_keepSource_31 : decode cX11_keepSource 31 = .ok (.aload_n 0, 1) := by decide +kernel
theorem dX11_keepSource_32 : decode cX11_keepSource 32 = .ok (.dup, 1) := by decide +kernel
theorem dX11_keepSource_33 : decode cX11_keepSource 33 = .ok (.getfield 228, 3) := by decide +kernel
theorem dX11_keepSource_36 : decode cX11_keepSource 36 = .ok (.dup_x1, 1) := by decide +kernel
theorem dX11_keepSource_37 : decode cX11_keepSource 37 = .ok (.iconst 1, 1) := by decide +kernel
theorem dX11_keepSource_38 : decode cX11_keepSource 38 = .ok (.iadd, 1) := by decide +kernel
theorem dX11_keepSource_39 : decode cX11_keepSource 39 = .ok (.putfield 228, 3) := by decide +kernel
theorem dX11_keepSource_42 : decode cX11_keepSource 42 = .ok (.ireturn, 1) := by decide +kernel
theorem dX11_gap_0 : decode cX11_gap 0 = .ok (.lload_n 0, 1) := by decide +kernel
theorem dX11_gap_1 : decode cX11_gap 1 = .ok (.lload_n 2, 1) := by decide +kernel
theorem dX11_gap_2 : decode cX11_gap 2 = .ok (.lcmp, 1) := by decide +kernel
theorem dX11_gap_3 : decode cX11_gap 3 = .ok (.ifCond .lt 9, 3) := by decide +kernel
theorem dX11_gap_6 : decode cX11_gap 6 = .ok (.lload_n 0, 1) := by decide +kernel
theorem dX11_gap_7 : decode cX11_gap 7 = .ok (.lload_n 2, 1) := by decide +kernel
theorem dX11_gap_8 : decode cX11_gap 8 = .ok (.lsub, 1) := by decide +kernel
theorem dX11_gap_9 : decode cX11_gap 9 = .ok (.goto 6, 3) := by decide +kernel
theorem dX11_gap_12 : decode cX11_gap 12 = .ok (.lload_n 2, 1) := by decide +kernel
theorem dX11_gap_13 : decode cX11_gap 13 = .ok (.lload_n 0, 1) := by decide +kernel
theorem dX11_gap_14 : decode cX11_gap 14 = .ok (.lsub, 1) := by decide +kernel
theorem dX11_gap_15 : decode cX11_gap 15 = .ok (.lreturn, 1) := by decide +kernel
theorem dX11_unsignedBelow_0 : decode cX11_unsignedBelow 0 = .ok (.lload_n 0, 1) := by decide +kernel
theorem dX11_unsignedBelow_1 : decode cX11_unsignedBelow 1 = .ok (.ldc2_w 261, 3) := by decide +kernel
theorem dX11_unsignedBelow_4 : decode cX11_unsignedBelow 4 = .ok (.lxor, 1) := by decide +kernel
theorem dX11_unsignedBelow_5 : decode cX11_unsignedBelow 5 = .ok (.lload_n 2, 1) := by decide +kernel
theorem dX11_unsignedBelow_6 : decode cX11_unsignedBelow 6 = .ok (.ldc2_w 261, 3) := by decide +kernel
theorem dX11_unsignedBelow_9 : decode cX11_unsignedBelow 9 = .ok (.lxor, 1) := by decide +kernel
theorem dX11_unsignedBelow_10 : decode cX11_unsignedBelow 10 = .ok (.lcmp, 1) := by decide +kernel
theorem dX11_unsignedBelow_11 : decode cX11_unsignedBelow 11 = .ok (.ifCond .ge 7, 3) := by decide +kernel
theorem dX11_unsignedBelow_14 : decode cX11_unsignedBelow 14 = .ok (.iconst 1, 1) := by decide +kernel
theorem dX11_unsignedBelow_15 : decode cX11_unsignedBelow 15 = .ok (.goto 4, 3) := by decide +kernel
theorem dX11_unsignedBelow_18 : decode cX11_unsignedBelow 18 = .ok (.iconst 0, 1) := by decide +kernel
theorem dX11_unsignedBelow_19 : decode cX11_unsignedBelow 19 = .ok (.ireturn, 1) := by decide +kernel
theorem dX11_unsignedQuotient_0 : decode cX11_unsignedQuotient 0 = .ok (.lload_n 2, 1) := by decide +kernel
theorem dX11_unsignedQuotient_1 : decode cX11_unsignedQuotient 1 = .ok (.lconst 0, 1) := by decide +kernel
theorem dX11_unsignedQuotient_2 : decode cX11_unsignedQuotient 2 = .ok (.lcmp, 1) := by decide +kernel
theorem dX11_unsignedQuotient_3 : decode cX11_unsignedQuotient 3 = .ok (.ifCond .eq 11, 3) := by decide +kernel
theorem dX11_unsignedQuotient_6 : decode cX11_unsignedQuotient 6 = .ok (.lload_n 0, 1) := by decide +kernel
theorem dX11_unsignedQuotient_7 : decode cX11_unsignedQuotient 7 = .ok (.lload_n 2, 1) := by decide +kernel
theorem dX11_unsignedQuotient_8 : decode cX11_unsignedQuotient 8 = .ok (.invokestatic 263, 3) := by decide +kernel
theorem dX11_unsignedQuotient_11 : decode cX11_unsignedQuotient 11 = .ok (.ifCond .eq 5, 3) := by decide +kernel
theorem dX11_unsignedQuotient_14 : decode cX11_unsignedQuotient 14 = .ok (.lconst 0, 1) := by decide +kernel
theorem dX11_unsignedQuotient_15 : decode cX11_unsignedQuotient 15 = .ok (.lreturn, 1) := by decide +kernel
theorem dX11_unsignedQuotient_16 : decode cX11_unsignedQuotient 16 = .ok (.lload_n 2, 1) := by decide +kernel
theorem dX11_unsignedQuotient_17 : decode cX11_unsignedQuotient 17 = .ok (.lconst 0, 1) := by decide +kernel
theorem dX11_unsignedQuotient_18 : decode cX11_unsignedQuotient 18 = .ok (.lcmp, 1) := by decide +kernel
theorem dX11_unsignedQuotient_19 : decode cX11_unsignedQuotient 19 = .ok (.ifCond .ge 5, 3) := by decide +kernel
theorem dX11_unsignedQuotient_22 : decode cX11_unsignedQuotient 22 = .ok (.lconst 1, 1) := by decide +kernel
theorem dX11_unsignedQuotient_23 : decode cX11_unsignedQuotient 23 = .ok (.lreturn, 1) := by decide +kernel
theorem dX11_unsignedQuotient_24 : decode cX11_unsignedQuotient 24 = .ok (.lload_n 0, 1) := by decide +kernel
theorem dX11_unsignedQuotient_25 : decode cX11_unsignedQuotient 25 = .ok (.iconst 1, 1) := by decide +kernel
theorem dX11_unsignedQuotient_26 : decode cX11_unsignedQuotient 26 = .ok (.lushr, 1) := by decide +kernel
theorem dX11_unsignedQuotient_27 : decode cX11_unsignedQuotient 27 = .ok (.lload_n 2, 1) := by decide +kernel
theorem dX11_unsignedQuotient_28 : decode cX11_unsignedQuotient 28 = .ok (.ldiv, 1) := by decide +kernel
theorem dX11_unsignedQuotient_29 : decode cX11_unsignedQuotient 29 = .ok (.iconst 1, 1) := by decide +kernel
theorem dX11_unsignedQuotient_30 : decode cX11_unsignedQuotient 30 = .ok (.lshl, 1) := by decide +kernel
theorem dX11_unsignedQuotient_31 : decode cX11_unsignedQuotient 31 = .ok (.lstore 4, 2) := by decide +kernel
theorem dX11_unsignedQuotient_33 : decode cX11_unsignedQuotient 33 = .ok (.lload_n 0, 1) := by decide +kernel
theorem dX11_unsignedQuotient_34 : decode cX11_unsignedQuotient 34 = .ok (.lload 4, 2) := by decide +kernel
theorem dX11_unsignedQuotient_36 : decode cX11_unsignedQuotient 36 = .ok (.lload_n 2, 1) := by decide +kernel
theorem dX11_unsignedQuotient_37 : decode cX11_unsignedQuotient 37 = .ok (.lmul, 1) := by decide +kernel
theorem dX11_unsignedQuotient_38 : decode cX11_unsignedQuotient 38 = .ok (.lsub, 1) := by decide +kernel
theorem dX11_unsignedQuotient_39 : decode cX11_unsignedQuotient 39 = .ok (.lload_n 2, 1) := by decide +kernel
theorem dX11_unsignedQuotient_40 : decode cX11_unsignedQuotient 40 = .ok (.invokestatic 263, 3) := by decide +kernel
theorem dX11_unsignedQuotient_43 : decode cX11_unsignedQuotient 43 = .ok (.ifCond .eq 8, 3) := by decide +kernel
theorem dX11_unsignedQuotient_46 : decode cX11_unsignedQuotient 46 = .ok (.lload 4, 2) := by decide +kernel
theorem dX11_unsignedQuotient_48 : decode cX11_unsignedQuotient 48 = .ok (.goto 7, 3) := by decide +kernel
theorem dX11_unsignedQuotient_51 : decode cX11_unsignedQuotient 51 = .ok (.lload 4, 2) := by decide +kernel
theorem dX11_unsignedQuotient_53 : decode cX11_unsignedQuotient 53 = .ok (.lconst 1, 1) := by decide +kernel
theorem dX11_unsignedQuotient_54 : decode cX11_unsignedQuotient 54 = .ok (.ladd, 1) := by decide +kernel
theorem dX11_unsignedQuotient_55 : decode cX11_unsignedQuotient 55 = .ok (.lreturn, 1) := by decide +kernel
theorem dX11_unsignedRest_0 : decode cX11_unsignedRest 0 = .ok (.lload_n 0, 1) := by decide +kernel
theorem dX11_unsignedRest_1 : decode cX11_unsignedRest 1 = .ok (.lload_n 0, 1) := by decide +kernel
theorem dX11_unsignedRest_2 : decode cX11_unsignedRest 2 = .ok (.lload_n 2, 1) := by decide +kernel
theorem dX11_unsignedRest_3 : decode cX11_unsignedRest 3 = .ok (.invokestatic 134, 3) := by decide +kernel
theorem dX11_unsignedRest_6 : decode cX11_unsignedRest 6 = .ok (.lload_n 2, 1) := by decide +kernel
theorem dX11_unsignedRest_7 : decode cX11_unsignedRest 7 = .ok (.lmul, 1) := by decide +kernel
theorem dX11_unsignedRest_8 : decode cX11_unsignedRest 8 = .ok (.lsub, 1) := by decide +kernel
theorem dX11_unsignedRest_9 : decode cX11_unsignedRest 9 = .ok (.lreturn, 1) := by decide +kernel
theorem dX11_find_0 : decode cX11_find 0 = .ok (.iload_n 1, 1) := by decide +kernel
theorem dX11_find_1 : decode cX11_find 1 = .ok (.istore 5, 2) := by decide +kernel
theorem dX11_find_3 : decode cX11_find 3 = .ok (.iload 5, 2) := by decide +kernel
theorem dX11_find_5 : decode cX11_find 5 = .ok (.iload_n 2, 1) := by decide +kernel
theorem dX11_find_6 : decode cX11_find 6 = .ok (.if_icmp .ge 28, 3) := by decide +kernel
theorem dX11_find_9 : decode cX11_find 9 = .ok (.iload 5, 2) := by decide +kernel
theorem dX11_find_11 : decode cX11_find 11 = .ok (.aload_n 0, 1) := by decide +kernel
theorem dX11_find_12 : decode cX11_find 12 = .ok (.arraylength, 1) := by decide +kernel
theorem dX11_find_13 : decode cX11_find 13 = .ok (.if_icmp .ge 21, 3) := by decide +kernel
theorem dX11_find_16 : decode cX11_find 16 = .ok (.aload_n 0, 1) := by decide +kernel
theorem dX11_find_17 : decode cX11_find 17 = .ok (.iload 5, 2) := by decide +kernel
theorem dX11_find_19 : decode cX11_find 19 = .ok (.laload, 1) := by decide +kernel
theorem dX11_find_20 : decode cX11_find 20 = .ok (.lload_n 3, 1) := by decide +kernel
theorem dX11_find_21 : decode cX11_find 21 = .ok (.lcmp, 1) := by decide +kernel
theorem dX11_find_22 : decode cX11_find 22 = .ok (.ifCond .ne 6, 3) := by decide +kernel
theorem dX11_find_25 : decode cX11_find 25 = .ok (.iload 5, 2) := by decide +kernel
theorem dX11_find_27 : decode cX11_find 27 = .ok (.ireturn, 1) := by decide +kernel
theorem dX11_find_28 : decode cX11_find 28 = .ok (.iinc 5 1, 3) := by decide +kernel
theorem dX11_find_31 : decode cX11_find 31 = .ok (.goto (-28), 3) := by decide +kernel
theorem dX11_find_34 : decode cX11_find 34 = .ok (.iconst (-1), 1) := by decide +kernel
theorem dX11_find_35 : decode cX11_find 35 = .ok (.ireturn, 1) := by decide +kernel
theorem dJ9_abs_067f4_0 : decode cJ9_abs_067f4 0 = .ok (.lload_n 0, 1) := by decide +kernel
theorem dJ9_abs_067f4_1 : decode cJ9_abs_067f4 1 = .ok (.lconst 0, 1) := by decide +kernel
theorem dJ9_abs_067f4_2 : decode cJ9_abs_067f4 2 = .ok (.lcmp, 1) := by decide +kernel
theorem dJ9_abs_067f4_3 : decode cJ9_abs_067f4 3 = .ok (.ifCond .ge 8, 3) := by decide +kernel
theorem dJ9_abs_067f4_6 : decode cJ9_abs_067f4 6 = .ok (.lload_n 0, 1) := by decide +kernel
theorem dJ9_abs_067f4_7 : decode cJ9_abs_067f4 7 = .ok (.lneg, 1) := by decide +kernel
theorem dJ9_abs_067f4_8 : decode cJ9_abs_067f4 8 = .ok (.goto 4, 3) := by decide +kernel
theorem dJ9_abs_067f4_11 : decode cJ9_abs_067f4 11 = .ok (.lload_n 0, 1) := by decide +kernel
theorem dJ9_abs_067f4_12 : decode cJ9_abs_067f4 12 = .ok (.lreturn, 1) := by decide +kernel
theorem dJ9_max_7cf53_0 : decode cJ9_max_7cf53 0 = .ok (.iload_n 0, 1) := by decide +kernel
theorem dJ9_max_7cf53_1 : decode cJ9_max_7cf53 1 = .ok (.iload_n 1, 1) := by decide +kernel
theorem dJ9_max_7cf53_2 : decode cJ9_max_7cf53 2 = .ok (.if_icmp .lt 7, 3) := by decide +kernel
theorem dJ9_max_7cf53_5 : decode cJ9_max_7cf53 5 = .ok (.iload_n 0, 1) := by decide +kernel
theorem dJ9_max_7cf53_6 : decode cJ9_max_7cf53 6 = .ok (.goto 4, 3) := by decide +kernel
theorem dJ9_max_7cf53_9 : decode cJ9_max_7cf53 9 = .ok (.iload_n 1, 1) := by decide +kernel
theorem dJ9_max_7cf53_10 : decode cJ9_max_7cf53 10 = .ok (.ireturn, 1) := by decide +kernel
theorem dJ9_min_7cf53_0 : decode cJ9_min_7cf53 0 = .ok (.iload_n 0, 1) := by decide +kernel
theorem dJ9_min_7cf53_1 : decode cJ9_min_7cf53 1 = .ok (.iload_n 1, 1) := by decide +kernel
theorem dJ9_min_7cf53_2 : decode cJ9_min_7cf53 2 = .ok (.if_icmp .gt 7, 3) := by decide +kernel
theorem dJ9_min_7cf53_5 : decode cJ9_min_7cf53 5 = .ok (.iload_n 0, 1) := by decide +kernel
theorem dJ9_min_7cf53_6 : decode cJ9_min_7cf53 6 = .ok (.goto 4, 3) := by decide +kernel
theorem dJ9_min_7cf53_9 : decode cJ9_min_7cf53 9 = .ok (.iload_n 1, 1) := by decide +kernel
theorem dJ9_min_7cf53_10 : decode cJ9_min_7cf53 10 = .ok (.ireturn, 1) := by decide +kernel
theorem dJ7_fill_d0a16_0 : decode cJ7_fill_d0a16 0 = .ok (.iconst 0, 1) := by decide +kernel
theorem dJ7_fill_d0a16_1 : decode cJ7_fill_d0a16 1 = .ok (.istore_n 3, 1) := by decide +kernel
theorem dJ7_fill_d0a16_2 : decode cJ7_fill_d0a16 2 = .ok (.aload_n 0, 1) := by decide +kernel
theorem dJ7_fill_d0a16_3 : decode cJ7_fill_d0a16 3 = .ok (.arraylength, 1) := by decide +kernel
theorem dJ7_fill_d0a16_4 : decode cJ7_fill_d0a16 4 = .ok (.istore 4, 2) := by decide +kernel
theorem dJ7_fill_d0a16_6 : decode cJ7_fill_d0a16 6 = .ok (.iload_n 3, 1) := by decide +kernel
theorem dJ7_fill_d0a16_7 : decode cJ7_fill_d0a16 7 = .ok (.iload 4, 2) := by decide +kernel
theorem dJ7_fill_d0a16_9 : decode cJ7_fill_d0a16 9 = .ok (.if_icmp .ge 13, 3) := by decide +kernel
theorem dJ7_fill_d0a16_12 : decode cJ7_fill_d0a16 12 = .ok (.aload_n 0, 1) := by decide +kernel
theorem dJ7_fill_d0a16_13 : decode cJ7_fill_d0a16 13 = .ok (.iload_n 3, 1) := by decide +kernel
theorem dJ7_fill_d0a16_14 : decode cJ7_fill_d0a16 14 = .ok (.lload_n 1, 1) := by decide +kernel
theorem dJ7_fill_d0a16_15 : decode cJ7_fill_d0a16 15 = .ok (.lastore, 1) := by decide +kernel
theorem dJ7_fill_d0a16_16 : decode cJ7_fill_d0a16 16 = .ok (.iinc 3 1, 3) := by decide +kernel
theorem dJ7_fill_d0a16_19 : decode cJ7_fill_d0a16 19 = .ok (.goto (-13), 3) := by decide +kernel
theorem dJ7_fill_d0a16_22 : decode cJ7_fill_d0a16 22 = .ok (.return_, 1) := by decide +kernel
