
def RX0 : String := "SpanColours$Listing"
def TX0 : u_T := fun k => match k with
  | 0 => ("SpanColours$Listing", "order", "[I", true)
  | 1 => ("SpanColours$Listing", "boundTo", "[I", true)
  | _ => ("SpanColours$Listing", "found", "I", false)
def tyX0 : Nat → FieldType := fun k => match k with
  | 0 => .array .int
  | 1 => .array .int
  | _ => .int
theorem nmX0 : ∀ a, a < 3 → ∀ b, b < 3 → a ≠ b → (TX0 a).2.1 ≠ (TX0 b).2.1 := by decide +kernel
theorem tyX0_ok : ∀ k, k < 3 → parseFieldDescriptor (TX0 k).2.2.1 = some (tyX0 k) := by decide +kernel
abbrev cX0_init : ByteArray := prog_2_method_1_code
def yX0_init : MethodName := ⟨RX0, "<init>", "()V"⟩
abbrev cX0_reported : ByteArray := prog_2_method_2_code
def yX0_reported : MethodName := ⟨RX0, "reported", "(LSpanColours$Row;III)I"⟩
abbrev cX0_colourOf : ByteArray := prog_2_method_3_code
def yX0_colourOf : MethodName := ⟨RX0, "colourOf", "(II)I"⟩
abbrev cX0_colourInOrder : ByteArray := prog_2_method_4_code
def yX0_colourInOrder : MethodName := ⟨RX0, "colourInOrder", "(LSpanColours$Row;LSpanColours$Palette;IIII)I"⟩
abbrev cX0_listAsMet : ByteArray := prog_2_method_5_code
def yX0_listAsMet : MethodName := ⟨RX0, "listAsMet", "(LSpanColours$Row;III)V"⟩
abbrev cX0_listByMost : ByteArray := prog_2_method_6_code
def yX0_listByMost : MethodName := ⟨RX0, "listByMost", "(LSpanColours$Palette;[I)V"⟩
def RX1 : String := "SpanColours$Neighbours"
def TX1 : u_T := fun k => match k with
  | 0 => ("SpanColours$Neighbours", "kindsSoFar", "[I", true)
  | 1 => ("SpanColours$Neighbours", "latest", "[I", true)
  | 2 => ("SpanColours$Neighbours", "beside", "[I", true)
  | 3 => ("SpanColours$Neighbours", "pairDistance", "I", false)
  | _ => ("SpanColours$Neighbours", "pairFirst", "I", false)
def tyX1 : Nat → FieldType := fun k => match k with
  | 0 => .array .int
  | 1 => .array .int
  | 2 => .array .int
  | 3 => .int
  | _ => .int
theorem nmX1 : ∀ a, a < 5 → ∀ b, b < 5 → a ≠ b → (TX1 a).2.1 ≠ (TX1 b).2.1 := by decide +kernel
theorem tyX1_ok : ∀ k, k < 5 → parseFieldDescriptor (TX1 k).2.2.1 = some (tyX1 k) := by decide +kernel
abbrev cX1_init : ByteArray := prog_3_method_1_code
def yX1_init : MethodName := ⟨RX1, "<init>", "()V"⟩
abbrev cX1_pairFound : ByteArray := prog_3_method_2_code
def yX1_pairFound : MethodName := ⟨RX1, "pairFound", "(I)I"⟩
abbrev cX1_clearPair : ByteArray := prog_3_method_3_code
def yX1_clearPair : MethodName := ⟨RX1, "clearPair", "()V"⟩
abbrev cX1_offerPair : ByteArray := prog_3_method_4_code
def yX1_offerPair : MethodName := ⟨RX1, "offerPair", "(II)V"⟩
abbrev cX1_findNearestAlike : ByteArray := prog_3_method_5_code
def yX1_findNearestAlike : MethodName := ⟨RX1, "findNearestAlike", "(LSpanColours$Row;II)V"⟩
abbrev cX1_findNearestOfTwo : ByteArray := prog_3_method_6_code
def yX1_findNearestOfTwo : MethodName := ⟨RX1, "findNearestOfTwo", "(LSpanColours$Row;II)V"⟩
abbrev cX1_unlikeTwos : ByteArray := prog_3_method_7_code
def yX1_unlikeTwos : MethodName := ⟨RX1, "unlikeTwos", "(LSpanColours$Row;II)I"⟩
abbrev cX1_coveringLength : ByteArray := prog_3_method_8_code
def yX1_coveringLength : MethodName := ⟨RX1, "coveringLength", "(LSpanColours$Row;LSpanColours$Palette;II)I"⟩
abbrev cX1_evenestEnd : ByteArray := prog_3_method_9_code
def yX1_evenestEnd : MethodName := ⟨RX1, "evenestEnd", "(LSpanColours$Row;LSpanColours$Palette;II)I"⟩
def RX2 : String := "SpanColours$Palette"
def TX2 : u_T := fun k => match k with
  | 0 => ("SpanColours$Palette", "counts", "[I", true)
  | 1 => ("SpanColours$Palette", "weights", "[I", true)
  | 2 => ("SpanColours$Palette", "length", "I", false)
  | 3 => ("SpanColours$Palette", "kinds", "I", false)
  | 4 => ("SpanColours$Palette", "bits", "I", false)
  | _ => ("SpanColours$Palette", "mass", "I", false)
def tyX2 : Nat → FieldType := fun k => match k with
  | 0 => .array .int
  | 1 => .array .int
  | 2 => .int
  | 3 => .int
  | 4 => .int
  | _ => .int
theorem nmX2 : ∀ a, a < 6 → ∀ b, b < 6 → a ≠ b → (TX2 a).2.1 ≠ (TX2 b).2.1 := by decide +kernel
theorem tyX2_ok : ∀ k, k < 6 → parseFieldDescriptor (TX2 k).2.2.1 = some (tyX2 k) := by decide +kernel
abbrev cX2_init : ByteArray := prog_4_method_1_code
def yX2_init : MethodName := ⟨RX2, "<init>", "()V"⟩
abbrev cX2_clear : ByteArray := prog_4_method_2_code
def yX2_clear : MethodName := ⟨RX2, "clear", "()V"⟩
abbrev cX2_take : ByteArray := prog_4_method_3_code
def yX2_take : MethodName := ⟨RX2, "take", "(I)V"⟩
abbrev cX2_drop : ByteArray := prog_4_method_4_code
def yX2_drop : MethodName := ⟨RX2, "drop", "(I)V"⟩
abbrev cX2_read : ByteArray := prog_4_method_5_code
def yX2_read : MethodName := ⟨RX2, "read", "(LSpanColours$Row;II)V"⟩
abbrev cX2_kindsFrom : ByteArray := prog_4_method_6_code
def yX2_kindsFrom : MethodName := ⟨RX2, "kindsFrom", "(I)I"⟩
abbrev cX2_kindsOfJust : ByteArray := prog_4_method_7_code
def yX2_kindsOfJust : MethodName := ⟨RX2, "kindsOfJust", "(I)I"⟩
abbrev cX2_largerThanPart : ByteArray := prog_4_method_8_code
def yX2_largerThanPart : MethodName := ⟨RX2, "largerThanPart", "(I)I"⟩
abbrev cX2_placesOfLargest : ByteArray := prog_4_method_9_code
def yX2_placesOfLargest : MethodName := ⟨RX2, "placesOfLargest", "(I)I"⟩
abbrev cX2_largestBeside : ByteArray := prog_4_method_10_code
def yX2_largestBeside : MethodName := ⟨RX2, "largestBeside", "(I)I"⟩
abbrev cX2_twosAlike : ByteArray := prog_4_method_11_code
def yX2_twosAlike : MethodName := ⟨RX2, "twosAlike", "()I"⟩
def RX3 : String := "SpanColours$Partings"
def TX3 : u_T := fun k => match k with
  | _ => ("SpanColours$Partings", "worths", "[[I", true)
def tyX3 : Nat → FieldType := fun k => match k with
  | _ => .array (.array .int)
theorem nmX3 : ∀ a, a < 1 → ∀ b, b < 1 → a ≠ b → (TX3 a).2.1 ≠ (TX3 b).2.1 := by decide +kernel
theorem tyX3_ok : ∀ k, k < 1 → parseFieldDescriptor (TX3 k).2.2.1 = some (tyX3 k) := by decide +kernel
abbrev cX3_init : ByteArray := prog_5_method_1_code
def yX3_init : MethodName := ⟨RX3, "<init>", "()V"⟩
abbrev cX3_greedy : ByteArray := prog_5_method_2_code
def yX3_greedy : MethodName := ⟨RX3, "greedy", "(LSpanColours$Row;LSpanColours$Palette;II)I"⟩
abbrev cX3_worthOf : ByteArray := prog_5_method_3_code
def yX3_worthOf : MethodName := ⟨RX3, "worthOf", "(II)I"⟩
abbrev cX3_weighUp : ByteArray := prog_5_method_4_code
def yX3_weighUp : MethodName := ⟨RX3, "weighUp", "(LSpanColours$Row;LSpanColours$Palette;I)V"⟩
abbrev cX3_lastPlaceOf : ByteArray := prog_5_method_5_code
def yX3_lastPlaceOf : MethodName := ⟨RX3, "lastPlaceOf", "(LSpanColours$Row;LSpanColours$Palette;II)I"⟩
abbrev cX3_shortestBestEnd : ByteArray := prog_5_method_6_code
def yX3_shortestBestEnd : MethodName := ⟨RX3, "shortestBestEnd", "(LSpanColours$Row;LSpanColours$Palette;II)I"⟩
def RX4 : String := "SpanColours$Patterns"
def TX4 : u_T := fun k => match k with
  | 0 => ("SpanColours$Patterns", "sets", "[I", true)
  | 1 => ("SpanColours$Patterns", "twinFirst", "I", false)
  | _ => ("SpanColours$Patterns", "twinLength", "I", false)
def tyX4 : Nat → FieldType := fun k => match k with
  | 0 => .array .int
  | 1 => .int
  | _ => .int
theorem nmX4 : ∀ a, a < 3 → ∀ b, b < 3 → a ≠ b → (TX4 a).2.1 ≠ (TX4 b).2.1 := by decide +kernel
theorem tyX4_ok : ∀ k, k < 3 → parseFieldDescriptor (TX4 k).2.2.1 = some (tyX4 k) := by decide +kernel
abbrev cX4_init : ByteArray := prog_6_method_1_code
def yX4_init : MethodName := ⟨RX4, "<init>", "()V"⟩
abbrev cX4_spansUpTo : ByteArray := prog_6_method_2_code
def yX4_spansUpTo : MethodName := ⟨RX4, "spansUpTo", "(LSpanColours$Row;LSpanColours$Palette;I)I"⟩
abbrev cX4_unlikeSets : ByteArray := prog_6_method_3_code
def yX4_unlikeSets : MethodName := ⟨RX4, "unlikeSets", "(LSpanColours$Row;LSpanColours$Palette;I)I"⟩
abbrev cX4_isAmong : ByteArray := prog_6_method_4_code
def yX4_isAmong : MethodName := ⟨RX4, "isAmong", "(II)Z"⟩
abbrev cX4_stepWithin : ByteArray := prog_6_method_5_code
def yX4_stepWithin : MethodName := ⟨RX4, "stepWithin", "(LSpanColours$Row;II)I"⟩
abbrev cX4_matching : ByteArray := prog_6_method_6_code
def yX4_matching : MethodName := ⟨RX4, "matching", "(LSpanColours$Row;III)I"⟩
abbrev cX4_areMatching : ByteArray := prog_6_method_7_code
