/-! ===== BEGIN printed: names, fields, word lists, decode rows ===== -/
def RX0 : String := "SilkHouse$Bales"
def TX0 : u_T := fun k => match k with
  | 0 => ("SilkHouse$Bales", "gross", "[I", true)
  | 1 => ("SilkHouse$Bales", "threads", "[I", true)
  | 2 => ("SilkHouse$Bales", "twists", "[I", true)
  | 3 => ("SilkHouse$Bales", "gum", "[I", true)
  | 4 => ("SilkHouse$Bales", "ash", "[I", true)
  | 5 => ("SilkHouse$Bales", "sizes", "[I", true)
  | 6 => ("SilkHouse$Bales", "turnRows", "[I", true)
  | _ => ("SilkHouse$Bales", "number", "I", false)
def tyX0 : Nat → FieldType := fun k => match k with
  | 0 => .array .int
  | 1 => .array .int
  | 2 => .array .int
  | 3 => .array .int
  | 4 => .array .int
  | 5 => .array .int
  | 6 => .array .int
  | _ => .int
theorem nmX0 : ∀ a, a < 8 → ∀ b, b < 8 → a ≠ b → (TX0 a).2.1 ≠ (TX0 b).2.1 := by decide +kernel
theorem tyX0_ok : ∀ k, k < 8 → parseFieldDescriptor (TX0 k).2.2.1 = some (tyX0 k) := by decide +kernel
abbrev cX0_init : ByteArray := prog_2_method_1_code
def yX0_init : MethodName := ⟨RX0, "<init>", "()V"⟩
abbrev cX0_has : ByteArray := prog_2_method_2_code
def yX0_has : MethodName := ⟨RX0, "has", "(I)Z"⟩
abbrev cX0_bring : ByteArray := prog_2_method_3_code
def yX0_bring : MethodName := ⟨RX0, "bring", "(I)I"⟩
abbrev cX0_reel : ByteArray := prog_2_method_4_code
def yX0_reel : MethodName := ⟨RX0, "reel", "(II)I"⟩
abbrev cX0_allSizes : ByteArray := prog_2_method_5_code
def yX0_allSizes : MethodName := ⟨RX0, "allSizes", "(I)I"⟩
abbrev cX0_allSquares : ByteArray := prog_2_method_6_code
def yX0_allSquares : MethodName := ⟨RX0, "allSquares", "(I)J"⟩
abbrev cX0_untwist : ByteArray := prog_2_method_7_code
def yX0_untwist : MethodName := ⟨RX0, "untwist", "(II)I"⟩
abbrev cX0_middleTwist : ByteArray := prog_2_method_8_code
def yX0_middleTwist : MethodName := ⟨RX0, "middleTwist", "(I)I"⟩
def RX1 : String := "SilkHouse$Book"
def TX1 : u_T := fun k => match k with
  | 0 => ("SilkHouse$Book", "day", "[I", true)
  | 1 => ("SilkHouse$Book", "clauses", "[I", true)
  | 2 => ("SilkHouse$Book", "kind", "[I", true)
  | 3 => ("SilkHouse$Book", "first", "[I", true)
  | 4 => ("SilkHouse$Book", "second", "[I", true)
  | 5 => ("SilkHouse$Book", "letters", "[B", true)
  | 6 => ("SilkHouse$Book", "counting", "[Z", true)
  | 7 => ("SilkHouse$Book", "number", "I", false)
  | _ => ("SilkHouse$Book", "drafted", "I", false)
def tyX1 : Nat → FieldType := fun k => match k with
  | 0 => .array .int
  | 1 => .array .int
  | 2 => .array .int
  | 3 => .array .int
  | 4 => .array .int
  | 5 => .array .byte
  | 6 => .array .boolean
  | 7 => .int
  | _ => .int
theorem nmX1 : ∀ a, a < 9 → ∀ b, b < 9 → a ≠ b → (TX1 a).2.1 ≠ (TX1 b).2.1 := by decide +kernel
theorem tyX1_ok : ∀ k, k < 9 → parseFieldDescriptor (TX1 k).2.2.1 = some (tyX1 k) := by decide +kernel
abbrev cX1_init : ByteArray := prog_3_method_1_code
def yX1_init : MethodName := ⟨RX1, "<init>", "()V"⟩
abbrev cX1_startDraft : ByteArray := prog_3_method_2_code
def yX1_startDraft : MethodName := ⟨RX1, "startDraft", "()V"⟩
abbrev cX1_draft : ByteArray := prog_3_method_3_code
def yX1_draft : MethodName := ⟨RX1, "draft", "(III)V"⟩
abbrev cX1_draftWord : ByteArray := prog_3_method_4_code
def yX1_draftWord : MethodName := ⟨RX1, "draftWord", "([BII)V"⟩
abbrev cX1_enact : ByteArray := prog_3_method_5_code
def yX1_enact : MethodName := ⟨RX1, "enact", "(I)I"⟩
abbrev cX1_has : ByteArray := prog_3_method_6_code
def yX1_has : MethodName := ⟨RX1, "has", "(I)Z"⟩
abbrev cX1_letterOf : ByteArray := prog_3_method_7_code
def yX1_letterOf : MethodName := ⟨RX1, "letterOf", "(II)I"⟩
abbrev cX1_holding : ByteArray := prog_3_method_8_code
def yX1_holding : MethodName := ⟨RX1, "holding", "(II)I"⟩
abbrev cX1_lastOf : ByteArray := prog_3_method_9_code
def yX1_lastOf : MethodName := ⟨RX1, "lastOf", "(II)I"⟩
abbrev cX1_naming : ByteArray := prog_3_method_10_code
def yX1_naming : MethodName := ⟨RX1, "naming", "(III)I"⟩
abbrev cX1_lastNaming : ByteArray := prog_3_method_11_code
def yX1_lastNaming : MethodName := ⟨RX1, "lastNaming", "(III)I"⟩
abbrev cX1_findCounting : ByteArray := prog_3_method_12_code
def yX1_findCounting : MethodName := ⟨RX1, "findCounting", "(I)V"⟩
abbrev cX1_isStruck : ByteArray := prog_3_method_13_code
def yX1_isStruck : MethodName := ⟨RX1, "isStruck", "(I)Z"⟩
abbrev cX1_strikes : ByteArray := prog_3_method_14_code
def yX1_strikes : MethodName := ⟨RX1, "strikes", "(II)Z"⟩
def RX2 : String := "SilkHouse$Doubts"
def TX2 : u_T := fun k => match k with
  | 0 => ("SilkHouse$Doubts", "skeins", "LSilkHouse$Skeins;", true)
  | 1 => ("SilkHouse$Doubts", "piles", "LSilkHouse$Piles;", true)
  | 2 => ("SilkHouse$Doubts", "first", "[I", true)
  | 3 => ("SilkHouse$Doubts", "bale", "I", false)
  | 4 => ("SilkHouse$Doubts", "day", "I", false)
  | 5 => ("SilkHouse$Doubts", "part", "I", false)
  | 6 => ("SilkHouse$Doubts", "ways", "I", false)
  | _ => ("SilkHouse$Doubts", "far", "I", false)
def tyX2 : Nat → FieldType := fun k => match k with
  | 0 => .object "SilkHouse$Skeins"
  | 1 => .object "SilkHouse$Piles"
  | 2 => .array .int
  | 3 => .int
  | 4 => .int
  | 5 => .int
  | 6 => .int
  | _ => .int
theorem nmX2 : ∀ a, a < 8 → ∀ b, b < 8 → a ≠ b → (TX2 a).2.1 ≠ (TX2 b).2.1 := by decide +kernel
theorem tyX2_ok : ∀ k, k < 8 → parseFieldDescriptor (TX2 k).2.2.1 = some (tyX2 k) := by decide +kernel
abbrev cX2_init : ByteArray := prog_4_method_1_code
def yX2_init : MethodName := ⟨RX2, "<init>", "(LSilkHouse$Skeins;)V"⟩
abbrev cX2_lookAt : ByteArray := prog_4_method_2_code
def yX2_lookAt : MethodName := ⟨RX2, "lookAt", "(III)V"⟩
abbrev cX2_isParted : ByteArray := prog_4_method_3_code
def yX2_isParted : MethodName := ⟨RX2, "isParted", "()Z"⟩
abbrev cX2_bothLeft : ByteArray := prog_4_method_4_code
def yX2_bothLeft : MethodName := ⟨RX2, "bothLeft", "()Z"⟩
abbrev cX2_gatherWithout : ByteArray := prog_4_method_5_code
def yX2_gatherWithout : MethodName := ⟨RX2, "gatherWithout", "(II)I"⟩
abbrev cX2_isInDoubt : ByteArray := prog_4_method_6_code
def yX2_isInDoubt : MethodName := ⟨RX2, "isInDoubt", "(I)Z"⟩
abbrev cX2_heap : ByteArray := prog_4_method_7_code
def yX2_heap : MethodName := ⟨RX2, "heap", "(II)V"⟩
abbrev cX2_culprit : ByteArray := prog_4_method_8_code
def yX2_culprit : MethodName := ⟨RX2, "culprit", "(I)I"⟩
abbrev cX2_isSuspect : ByteArray := prog_4_method_9_code
def yX2_isSuspect : MethodName := ⟨RX2, "isSuspect", "(I)Z"⟩
abbrev cX2_agreeWithout : ByteArray := prog_4_method_10_code
def yX2_agreeWithout : MethodName := ⟨RX2, "agreeWithout", "(I)Z"⟩
abbrev cX2_oddPairs : ByteArray := prog_4_method_11_code
def yX2_oddPairs : MethodName := ⟨RX2, "oddPairs", "(I)I"⟩
abbrev cX2_listLook : ByteArray := prog_4_method_12_code
def yX2_listLook : MethodName := ⟨RX2, "listLook", "(I)I"⟩
abbrev cX2_fewest : ByteArray := prog_4_method_13_code
def yX2_fewest : MethodName := ⟨RX2, "fewest", "(I)I"⟩
abbrev cX2_takeSome : ByteArray := prog_4_method_14_code
def yX2_takeSome : MethodName := ⟨RX2, "takeSome", "(III)V"⟩
def RX3 : String := "SilkHouse$Judge"
def TX3 : u_T := fun k => match k with
  | 0 => ("SilkHouse$Judge", "skeins", "LSilkHouse$Skeins;", true)
  | 1 => ("SilkHouse$Judge", "book", "LSilkHouse$Book;", true)
  | 2 => ("SilkHouse$Judge", "piles", "LSilkHouse$Piles;", true)
  | 3 => ("SilkHouse$Judge", "one", "I", false)
  | _ => ("SilkHouse$Judge", "other", "I", false)
def tyX3 : Nat → FieldType := fun k => match k with
  | 0 => .object "SilkHouse$Skeins"
  | 1 => .object "SilkHouse$Book"
  | 2 => .object "SilkHouse$Piles"
  | 3 => .int
  | _ => .int
theorem nmX3 : ∀ a, a < 5 → ∀ b, b < 5 → a ≠ b → (TX3 a).2.1 ≠ (TX3 b).2.1 := by decide +kernel
theorem tyX3_ok : ∀ k, k < 5 → parseFieldDescriptor (TX3 k).2.2.1 = some (tyX3 k) := by decide +kernel
abbrev cX3_init : ByteArray := prog_5_method_1_code
def yX3_init : MethodName := ⟨RX3, "<init>", "(LSilkHouse$Skeins;LSilkHouse$Book;)V"⟩
abbrev cX3_gather : ByteArray := prog_5_method_2_code
def yX3_gather : MethodName := ⟨RX3, "gather", "(II)V"⟩
abbrev cX3_weighUp : ByteArray := prog_5_method_3_code
def yX3_weighUp : MethodName := ⟨RX3, "weighUp", "(II)I"⟩
abbrev cX3_settle : ByteArray := prog_5_method_4_code
def yX3_settle : MethodName := ⟨RX3, "settle", "(II)I"⟩
abbrev cX3_settleByTwo : ByteArray := prog_5_method_5_code
def yX3_settleByTwo : MethodName := ⟨RX3, "settleByTwo", "(I)I"⟩
abbrev cX3_settleByThree : ByteArray := prog_5_method_6_code
def yX3_settleByThree : MethodName := ⟨RX3, "settleByThree", "(I)I"⟩
abbrev cX3_settleByNearest : ByteArray := prog_5_method_7_code
def yX3_settleByNearest : MethodName := ⟨RX3, "settleByNearest", "()I"⟩
abbrev cX3_lesserOf : ByteArray := prog_5_method_8_code
def yX3_lesserOf : MethodName := ⟨RX3, "lesserOf", "(II)I"⟩
abbrev cX3_middleLook : ByteArray := prog_5_method_9_code
def yX3_middleLook : MethodName := ⟨RX3, "middleLook", "()I"⟩
abbrev cX3_upper : ByteArray := prog_5_method_10_code
def yX3_upper : MethodName := ⟨RX3, "upper", "()J"⟩
abbrev cX3_lower : ByteArray := prog_5_method_11_code
def yX3_lower : MethodName := ⟨RX3, "lower", "()J"⟩
def RX4 : String := "SilkHouse$Neighbours"
def TX4 : u_T := fun k => match k with
  | 0 => ("SilkHouse$Neighbours", "low", "[I", true)
  | 1 => ("SilkHouse$Neighbours", "high", "[I", true)
  | _ => ("SilkHouse$Neighbours", "number", "I", false)
def tyX4 : Nat → FieldType := fun k => match k with
  | 0 => .array .int
  | 1 => .array .int
  | _ => .int
theorem nmX4 : ∀ a, a < 3 → ∀ b, b < 3 → a ≠ b → (TX4 a).2.1 ≠ (TX4 b).2.1 := by decide +kernel
theorem tyX4_ok : ∀ k, k < 3 → parseFieldDescriptor (TX4 k).2.2.1 = some (tyX4 k) := by decide +kernel
abbrev cX4_init : ByteArray := prog_6_method_1_code
def yX4_init : MethodName := ⟨RX4, "<init>", "()V"⟩
abbrev cX4_compare : ByteArray := prog_6_method_2_code
def yX4_compare : MethodName := ⟨RX4, "compare", "(II)I"⟩
abbrev cX4_leastWithout : ByteArray := prog_6_method_3_code
def yX4_leastWithout : MethodName := ⟨RX4, "leastWithout", "(I)I"⟩
abbrev cX4_greatestWithout : ByteArray := prog_6_method_4_code
def yX4_greatestWithout : MethodName := ⟨RX4, "greatestWithout", "(I)I"⟩
abbrev cX4_leastLeftOut : ByteArray := prog_6_method_5_code
def yX4_leastLeftOut : MethodName := ⟨RX4, "leastLeftOut", "()I"⟩
def RX5 : String := "SilkHouse$Ovens"
def TX5 : u_T := fun k => match k with
  | 0 => ("SilkHouse$Ovens", "minutes", "[I", true)
  | 1 => ("SilkHouse$Ovens", "tried", "[I", true)
  | 2 => ("SilkHouse$Ovens", "ends", "[I", true)
  | 3 => ("SilkHouse$Ovens", "best", "[I", true)
  | 4 => ("SilkHouse$Ovens", "number", "I", false)
  | 5 => ("SilkHouse$Ovens", "bestEnd", "I", false)
  | _ => ("SilkHouse$Ovens", "arrangedFor", "I", false)
def tyX5 : Nat → FieldType := fun k => match k with
  | 0 => .array .int
  | 1 => .array .int
  | 2 => .array .int
  | 3 => .array .int
  | 4 => .int
  | 5 => .int
  | _ => .int
theorem nmX5 : ∀ a, a < 7 → ∀ b, b < 7 → a ≠ b → (TX5 a).2.1 ≠ (TX5 b).2.1 := by decide +kernel
theorem tyX5_ok : ∀ k, k < 7 → parseFieldDescriptor (TX5 k).2.2.1 = some (tyX5 k) := by decide +kernel
abbrev cX5_init : ByteArray := prog_7_method_1_code
def yX5_init : MethodName := ⟨RX5, "<init>", "()V"⟩
abbrev cX5_bring : ByteArray := prog_7_method_2_code
def yX5_bring : MethodName := ⟨RX5, "bring", "(I)I"⟩
abbrev cX5_clear : ByteArray := prog_7_method_3_code
def yX5_clear : MethodName := ⟨RX5, "clear", "()I"⟩
abbrev cX5_arrange : ByteArray := prog_7_method_4_code
def yX5_arrange : MethodName := ⟨RX5, "arrange", "(I)V"⟩
abbrev cX5_place : ByteArray := prog_7_method_5_code
def yX5_place : MethodName := ⟨RX5, "place", "(III)V"⟩
def RX6 : String := "SilkHouse$Papers"
def TX6 : u_T := fun k => match k with
  | 0 => ("SilkHouse$Papers", "kind", "[I", true)
  | 1 => ("SilkHouse$Papers", "bale", "[I", true)
  | 2 => ("SilkHouse$Papers", "amount", "[I", true)
  | 3 => ("SilkHouse$Papers", "on", "[I", true)
  | 4 => ("SilkHouse$Papers", "day", "[I", true)
  | 5 => ("SilkHouse$Papers", "undone", "[I", true)
  | 6 => ("SilkHouse$Papers", "falls", "[Z", true)
  | _ => ("SilkHouse$Papers", "number", "I", false)
def tyX6 : Nat → FieldType := fun k => match k with
  | 0 => .array .int
  | 1 => .array .int
  | 2 => .array .int
  | 3 => .array .int
  | 4 => .array .int
  | 5 => .array .int
  | 6 => .array .boolean
  | _ => .int
theorem nmX6 : ∀ a, a < 8 → ∀ b, b < 8 → a ≠ b → (TX6 a).2.1 ≠ (TX6 b).2.1 := by decide +kernel
theorem tyX6_ok : ∀ k, k < 8 → parseFieldDescriptor (TX6 k).2.2.1 = some (tyX6 k) := by decide +kernel
abbrev cX6_init : ByteArray := prog_8_method_1_code
def yX6_init : MethodName := ⟨RX6, "<init>", "()V"⟩
abbrev cX6_has : ByteArray := prog_8_method_2_code
def yX6_has : MethodName := ⟨RX6, "has", "(I)Z"⟩
abbrev cX6_hasRoom : ByteArray := prog_8_method_3_code
def yX6_hasRoom : MethodName := ⟨RX6, "hasRoom", "(I)Z"⟩
abbrev cX6_isCertificate : ByteArray := prog_8_method_4_code
def yX6_isCertificate : MethodName := ⟨RX6, "isCertificate", "(I)Z"⟩
abbrev cX6_isUndone : ByteArray := prog_8_method_5_code
def yX6_isUndone : MethodName := ⟨RX6, "isUndone", "(I)Z"⟩
abbrev cX6_write : ByteArray := prog_8_method_6_code
def yX6_write : MethodName := ⟨RX6, "write", "(IIIII)I"⟩
abbrev cX6_certified : ByteArray := prog_8_method_7_code
def yX6_certified : MethodName := ⟨RX6, "certified", "(I)Z"⟩
abbrev cX6_isBilled : ByteArray := prog_8_method_8_code
def yX6_isBilled : MethodName := ⟨RX6, "isBilled", "(I)Z"⟩
abbrev cX6_hanging : ByteArray := prog_8_method_9_code
def yX6_hanging : MethodName := ⟨RX6, "hanging", "(I)I"⟩
abbrev cX6_tear : ByteArray := prog_8_method_10_code
def yX6_tear : MethodName := ⟨RX6, "tear", "(II)I"⟩
abbrev cX6_standing : ByteArray := prog_8_method_11_code
def yX6_standing : MethodName := ⟨RX6, "standing", "(II)J"⟩
def RX7 : String := "SilkHouse$Piles"
def TX7 : u_T := fun k => match k with
  | 0 => ("SilkHouse$Piles", "raw", "[J", true)
  | 1 => ("SilkHouse$Piles", "dry", "[J", true)
  | _ => ("SilkHouse$Piles", "skeins", "[I", true)
def tyX7 : Nat → FieldType := fun k => match k with
  | 0 => .array .long
  | 1 => .array .long
  | _ => .array .int
theorem nmX7 : ∀ a, a < 3 → ∀ b, b < 3 → a ≠ b → (TX7 a).2.1 ≠ (TX7 b).2.1 := by decide +kernel
theorem tyX7_ok : ∀ k, k < 3 → parseFieldDescriptor (TX7 k).2.2.1 = some (tyX7 k) := by decide +kernel
abbrev cX7_init : ByteArray := prog_9_method_1_code
def yX7_init : MethodName := ⟨RX7, "<init>", "()V"⟩
abbrev cX7_clear : ByteArray := prog_9_method_2_code
def yX7_clear : MethodName := ⟨RX7, "clear", "()V"⟩
abbrev cX7_put : ByteArray := prog_9_method_3_code
def yX7_put : MethodName := ⟨RX7, "put", "(III)V"⟩
abbrev cX7_remove : ByteArray := prog_9_method_4_code
def yX7_remove : MethodName := ⟨RX7, "remove", "(III)V"⟩
abbrev cX7_differ : ByteArray := prog_9_method_5_code
def yX7_differ : MethodName := ⟨RX7, "differ", "(III)Z"⟩
abbrev cX7_level : ByteArray := prog_9_method_6_code
def yX7_level : MethodName := ⟨RX7, "level", "(I)J"⟩
def RX8 : String := "SilkHouse$Reader"
def TX8 : u_T := fun k => match k with
  | 0 => ("SilkHouse$Reader", "book", "LSilkHouse$Book;", true)
  | 1 => ("SilkHouse$Reader", "text", "[B", true)
  | 2 => ("SilkHouse$Reader", "length", "I", false)
  | 3 => ("SilkHouse$Reader", "faultByte", "I", false)
  | 4 => ("SilkHouse$Reader", "faultKind", "I", false)
  | _ => ("SilkHouse$Reader", "at", "I", false)
def tyX8 : Nat → FieldType := fun k => match k with
  | 0 => .object "SilkHouse$Book"
  | 1 => .array .byte
  | 2 => .int
  | 3 => .int
  | 4 => .int
  | _ => .int
theorem nmX8 : ∀ a, a < 6 → ∀ b, b < 6 → a ≠ b → (TX8 a).2.1 ≠ (TX8 b).2.1 := by decide +kernel
theorem tyX8_ok : ∀ k, k < 6 → parseFieldDescriptor (TX8 k).2.2.1 = some (tyX8 k) := by decide +kernel
abbrev cX8_init : ByteArray := prog_10_method_1_code
def yX8_init : MethodName := ⟨RX8, "<init>", "(LSilkHouse$Book;)V"⟩
abbrev cX8_take : ByteArray := prog_10_method_2_code
def yX8_take : MethodName := ⟨RX8, "take", "(IJ)I"⟩
abbrev cX8_read : ByteArray := prog_10_method_3_code
def yX8_read : MethodName := ⟨RX8, "read", "()I"⟩
abbrev cX8_fail : ByteArray := prog_10_method_4_code
def yX8_fail : MethodName := ⟨RX8, "fail", "(II)Z"⟩
abbrev cX8_skipBlanks : ByteArray := prog_10_method_5_code
def yX8_skipBlanks : MethodName := ⟨RX8, "skipBlanks", "()Z"⟩
abbrev cX8_readClause : ByteArray := prog_10_method_6_code
def yX8_readClause : MethodName := ⟨RX8, "readClause", "()Z"⟩
abbrev cX8_readLet : ByteArray := prog_10_method_7_code
def yX8_readLet : MethodName := ⟨RX8, "readLet", "()Z"⟩
abbrev cX8_readTake : ByteArray := prog_10_method_8_code
def yX8_readTake : MethodName := ⟨RX8, "readTake", "()Z"⟩
abbrev cX8_readName : ByteArray := prog_10_method_9_code
def yX8_readName : MethodName := ⟨RX8, "readName", "()Z"⟩
abbrev cX8_readStrike : ByteArray := prog_10_method_10_code
def yX8_readStrike : MethodName := ⟨RX8, "readStrike", "()Z"⟩
abbrev cX8_readStop : ByteArray := prog_10_method_11_code
def yX8_readStop : MethodName := ⟨RX8, "readStop", "()Z"⟩
abbrev cX8_readWord : ByteArray := prog_10_method_12_code
def yX8_readWord : MethodName := ⟨RX8, "readWord", "()Z"⟩
abbrev cX8_readOneOf : ByteArray := prog_10_method_13_code
def yX8_readOneOf : MethodName := ⟨RX8, "readOneOf", "(Ljava/lang/String;)I"⟩
abbrev cX8_isSame : ByteArray := prog_10_method_14_code
def yX8_isSame : MethodName := ⟨RX8, "isSame", "(Ljava/lang/String;III)Z"⟩
abbrev cX8_readNumber : ByteArray := prog_10_method_15_code
def yX8_readNumber : MethodName := ⟨RX8, "readNumber", "(II)I"⟩
abbrev cX8_endOfRun : ByteArray := prog_10_method_16_code
def yX8_endOfRun : MethodName := ⟨RX8, "endOfRun", "(CC)I"⟩
def RX9 : String := "SilkHouse$Scales"
def TX9 : u_T := fun k => match k with
  | 0 => ("SilkHouse$Scales", "scale", "[I", true)
  | 1 => ("SilkHouse$Scales", "day", "[I", true)
  | 2 => ("SilkHouse$Scales", "drift", "[I", true)
  | _ => ("SilkHouse$Scales", "number", "I", false)
def tyX9 : Nat → FieldType := fun k => match k with
  | 0 => .array .int
  | 1 => .array .int
  | 2 => .array .int
  | _ => .int
theorem nmX9 : ∀ a, a < 4 → ∀ b, b < 4 → a ≠ b → (TX9 a).2.1 ≠ (TX9 b).2.1 := by decide +kernel
theorem tyX9_ok : ∀ k, k < 4 → parseFieldDescriptor (TX9 k).2.2.1 = some (tyX9 k) := by decide +kernel
abbrev cX9_init : ByteArray := prog_11_method_1_code
def yX9_init : MethodName := ⟨RX9, "<init>", "()V"⟩
abbrev cX9_note : ByteArray := prog_11_method_2_code
def yX9_note : MethodName := ⟨RX9, "note", "(III)I"⟩
abbrev cX9_least : ByteArray := prog_11_method_3_code
def yX9_least : MethodName := ⟨RX9, "least", "(II)I"⟩
abbrev cX9_greatest : ByteArray := prog_11_method_4_code
def yX9_greatest : MethodName := ⟨RX9, "greatest", "(II)I"⟩
abbrev cX9_driftOf : ByteArray := prog_11_method_5_code
def yX9_driftOf : MethodName := ⟨RX9, "driftOf", "(II)I"⟩
abbrev cX9_lastBy : ByteArray := prog_11_method_6_code
def yX9_lastBy : MethodName := ⟨RX9, "lastBy", "(II)I"⟩
abbrev cX9_firstAfter : ByteArray := prog_11_method_7_code
def yX9_firstAfter : MethodName := ⟨RX9, "firstAfter", "(II)I"⟩
def RX10 : String := "SilkHouse$Skeins"
def TX10 : u_T := fun k => match k with
  | 0 => ("SilkHouse$Skeins", "rows", "[I", true)
  | 1 => ("SilkHouse$Skeins", "number", "I", false)
  | _ => ("SilkHouse$Skeins", "lost", "I", false)
def tyX10 : Nat → FieldType := fun k => match k with
  | 0 => .array .int
  | 1 => .int
  | _ => .int
theorem nmX10 : ∀ a, a < 3 → ∀ b, b < 3 → a ≠ b → (TX10 a).2.1 ≠ (TX10 b).2.1 := by decide +kernel
theorem tyX10_ok : ∀ k, k < 3 → parseFieldDescriptor (TX10 k).2.2.1 = some (tyX10 k) := by decide +kernel
abbrev cX10_init : ByteArray := prog_12_method_1_code
def yX10_init : MethodName := ⟨RX10, "<init>", "()V"⟩
abbrev cX10_has : ByteArray := prog_12_method_2_code
def yX10_has : MethodName := ⟨RX10, "has", "(I)Z"⟩
abbrev cX10_get : ByteArray := prog_12_method_3_code
def yX10_get : MethodName := ⟨RX10, "get", "(II)I"⟩
abbrev cX10_set : ByteArray := prog_12_method_4_code
def yX10_set : MethodName := ⟨RX10, "set", "(III)V"⟩
abbrev cX10_drawn : ByteArray := prog_12_method_5_code
def yX10_drawn : MethodName := ⟨RX10, "drawn", "(II)I"⟩
abbrev cX10_draw : ByteArray := prog_12_method_6_code
def yX10_draw : MethodName := ⟨RX10, "draw", "(III)I"⟩
abbrev cX10_weigh : ByteArray := prog_12_method_7_code
def yX10_weigh : MethodName := ⟨RX10, "weigh", "(IIII)V"⟩
abbrev cX10_dryIn : ByteArray := prog_12_method_8_code
def yX10_dryIn : MethodName := ⟨RX10, "dryIn", "(III)V"⟩
abbrev cX10_dropOut : ByteArray := prog_12_method_9_code
def yX10_dropOut : MethodName := ⟨RX10, "dropOut", "(II)V"⟩
abbrev cX10_isOf : ByteArray := prog_12_method_10_code
def yX10_isOf : MethodName := ⟨RX10, "isOf", "(III)Z"⟩
abbrev cX10_counts : ByteArray := prog_12_method_11_code
def yX10_counts : MethodName := ⟨RX10, "counts", "(II)Z"⟩
def RX11 : String := "SilkHouse"
def TX11 : u_T := fun k => match k with
  | 0 => ("SilkHouse", "skeins", "LSilkHouse$Skeins;", true)
  | 1 => ("SilkHouse", "scales", "LSilkHouse$Scales;", true)
  | 2 => ("SilkHouse", "bales", "LSilkHouse$Bales;", true)
  | 3 => ("SilkHouse", "book", "LSilkHouse$Book;", true)
  | 4 => ("SilkHouse", "reader", "LSilkHouse$Reader;", true)
  | 5 => ("SilkHouse", "judge", "LSilkHouse$Judge;", true)
  | 6 => ("SilkHouse", "doubts", "LSilkHouse$Doubts;", true)
  | 7 => ("SilkHouse", "ovens", "LSilkHouse$Ovens;", true)
  | 8 => ("SilkHouse", "neighbours", "LSilkHouse$Neighbours;", true)
  | 9 => ("SilkHouse", "papers", "LSilkHouse$Papers;", true)
  | _ => ("SilkHouse", "now", "I", false)
def tyX11 : Nat → FieldType := fun k => match k with
  | 0 => .object "SilkHouse$Skeins"
  | 1 => .object "SilkHouse$Scales"
  | 2 => .object "SilkHouse$Bales"
  | 3 => .object "SilkHouse$Book"
  | 4 => .object "SilkHouse$Reader"
  | 5 => .object "SilkHouse$Judge"
  | 6 => .object "SilkHouse$Doubts"
  | 7 => .object "SilkHouse$Ovens"
  | 8 => .object "SilkHouse$Neighbours"
  | 9 => .object "SilkHouse$Papers"
  | _ => .int
theorem nmX11 : ∀ a, a < 11 → ∀ b, b < 11 → a ≠ b → (TX11 a).2.1 ≠ (TX11 b).2.1 := by decide +kernel
theorem tyX11_ok : ∀ k, k < 11 → parseFieldDescriptor (TX11 k).2.2.1 = some (tyX11 k) := by decide +kernel
abbrev cX11_init : ByteArray := prog_1_method_1_code
def yX11_init : MethodName := ⟨RX11, "<init>", "()V"⟩
abbrev cX11_go : ByteArray := prog_1_method_2_code
def yX11_go : MethodName := ⟨RX11, "go", "(I)I"⟩
abbrev cX11_bale : ByteArray := prog_1_method_3_code
def yX11_bale : MethodName := ⟨RX11, "bale", "(I)I"⟩
abbrev cX11_skein : ByteArray := prog_1_method_4_code
def yX11_skein : MethodName := ⟨RX11, "skein", "(IIIIIII)I"⟩
abbrev cX11_lose : ByteArray := prog_1_method_5_code
def yX11_lose : MethodName := ⟨RX11, "lose", "(I)I"⟩
abbrev cX11_told : ByteArray := prog_1_method_6_code
def yX11_told : MethodName := ⟨RX11, "told", "(II)I"⟩
abbrev cX11_test : ByteArray := prog_1_method_7_code
def yX11_test : MethodName := ⟨RX11, "test", "(III)I"⟩
abbrev cX11_error : ByteArray := prog_1_method_8_code
def yX11_error : MethodName := ⟨RX11, "error", "(III)I"⟩
abbrev cX11_ratio : ByteArray := prog_1_method_9_code
def yX11_ratio : MethodName := ⟨RX11, "ratio", "(III)I"⟩
abbrev cX11_count : ByteArray := prog_1_method_10_code
def yX11_count : MethodName := ⟨RX11, "count", "(I)I"⟩
abbrev cX11_balesIn : ByteArray := prog_1_method_11_code
def yX11_balesIn : MethodName := ⟨RX11, "balesIn", "(I)I"⟩
abbrev cX11_fees : ByteArray := prog_1_method_12_code
def yX11_fees : MethodName := ⟨RX11, "fees", "()I"⟩
abbrev cX11_feed : ByteArray := prog_1_method_13_code
def yX11_feed : MethodName := ⟨RX11, "feed", "(IJ)I"⟩
abbrev cX11_rule : ByteArray := prog_1_method_14_code
def yX11_rule : MethodName := ⟨RX11, "rule", "(I)I"⟩
abbrev cX11_fault : ByteArray := prog_1_method_15_code
def yX11_fault : MethodName := ⟨RX11, "fault", "()I"⟩
abbrev cX11_force : ByteArray := prog_1_method_16_code
def yX11_force : MethodName := ⟨RX11, "force", "(II)I"⟩
abbrev cX11_letter : ByteArray := prog_1_method_17_code
def yX11_letter : MethodName := ⟨RX11, "letter", "(II)I"⟩
abbrev cX11_state : ByteArray := prog_1_method_18_code
def yX11_state : MethodName := ⟨RX11, "state", "(II)I"⟩
abbrev cX11_lawful : ByteArray := prog_1_method_19_code
def yX11_lawful : MethodName := ⟨RX11, "lawful", "(III)J"⟩
abbrev cX11_moistened : ByteArray := prog_1_method_20_code
def yX11_moistened : MethodName := ⟨RX11, "moistened", "(II)J"⟩
abbrev cX11_span : ByteArray := prog_1_method_21_code
def yX11_span : MethodName := ⟨RX11, "span", "(II)J"⟩
abbrev cX11_errors : ByteArray := prog_1_method_22_code
def yX11_errors : MethodName := ⟨RX11, "errors", "(IZ)I"⟩
abbrev cX11_cause : ByteArray := prog_1_method_23_code
def yX11_cause : MethodName := ⟨RX11, "cause", "(II)I"⟩
abbrev cX11_odd : ByteArray := prog_1_method_24_code
def yX11_odd : MethodName := ⟨RX11, "odd", "(II)I"⟩
abbrev cX11_needed : ByteArray := prog_1_method_25_code
def yX11_needed : MethodName := ⟨RX11, "needed", "(II)I"⟩
abbrev cX11_thread : ByteArray := prog_1_method_26_code
def yX11_thread : MethodName := ⟨RX11, "thread", "(II)I"⟩
abbrev cX11_size : ByteArray := prog_1_method_27_code
def yX11_size : MethodName := ⟨RX11, "size", "(II)I"⟩
abbrev cX11_named : ByteArray := prog_1_method_28_code
def yX11_named : MethodName := ⟨RX11, "named", "(II)I"⟩
abbrev cX11_turns : ByteArray := prog_1_method_29_code
def yX11_turns : MethodName := ⟨RX11, "turns", "(II)I"⟩
abbrev cX11_twist : ByteArray := prog_1_method_30_code
def yX11_twist : MethodName := ⟨RX11, "twist", "(I)I"⟩
abbrev cX11_burnt : ByteArray := prog_1_method_31_code
def yX11_burnt : MethodName := ⟨RX11, "burnt", "(IIII)I"⟩
abbrev cX11_cheat : ByteArray := prog_1_method_32_code
def yX11_cheat : MethodName := ⟨RX11, "cheat", "(IIII)I"⟩
abbrev cX11_loss : ByteArray := prog_1_method_33_code
def yX11_loss : MethodName := ⟨RX11, "loss", "(I)I"⟩
abbrev cX11_load : ByteArray := prog_1_method_34_code
def yX11_load : MethodName := ⟨RX11, "load", "(I)I"⟩
abbrev cX11_order : ByteArray := prog_1_method_35_code
def yX11_order : MethodName := ⟨RX11, "order", "(II)I"⟩
abbrev cX11_empty : ByteArray := prog_1_method_36_code
def yX11_empty : MethodName := ⟨RX11, "empty", "()I"⟩
abbrev cX11_shared : ByteArray := prog_1_method_37_code
def yX11_shared : MethodName := ⟨RX11, "shared", "(IIII)I"⟩
abbrev cX11_houses : ByteArray := prog_1_method_38_code
def yX11_houses : MethodName := ⟨RX11, "houses", "(I)I"⟩
abbrev cX11_certify : ByteArray := prog_1_method_39_code
def yX11_certify : MethodName := ⟨RX11, "certify", "(I)I"⟩
abbrev cX11_bill : ByteArray := prog_1_method_40_code
def yX11_bill : MethodName := ⟨RX11, "bill", "(II)I"⟩
abbrev cX11_cut : ByteArray := prog_1_method_41_code
def yX11_cut : MethodName := ⟨RX11, "cut", "(III)I"⟩
abbrev cX11_undo : ByteArray := prog_1_method_42_code
def yX11_undo : MethodName := ⟨RX11, "undo", "(I)I"⟩
abbrev cX11_paper : ByteArray := prog_1_method_43_code
def yX11_paper : MethodName := ⟨RX11, "paper", "(II)I"⟩
abbrev cX11_stood : ByteArray := prog_1_method_44_code
def yX11_stood : MethodName := ⟨RX11, "stood", "(II)J"⟩
abbrev cX11_within : ByteArray := prog_1_method_45_code
def yX11_within : MethodName := ⟨RX11, "within", "(III)Z"⟩
abbrev cX11_inLeastTerms : ByteArray := prog_1_method_46_code
def yX11_inLeastTerms : MethodName := ⟨RX11, "inLeastTerms", "(JJI)J"⟩
abbrev cX11_greatestDivisor : ByteArray := prog_1_method_47_code
def yX11_greatestDivisor : MethodName := ⟨RX11, "greatestDivisor", "(JJ)J"⟩
def RX12 : String := "SilkHouseModel"
def TX12 : u_T := fun k => match k with
  | 0 => ("SilkHouseModel", "now", "I", false)
  | 1 => ("SilkHouseModel", "bales", "I", false)
  | 2 => ("SilkHouseModel", "gross", "[I", true)
  | 3 => ("SilkHouseModel", "skeins", "I", false)
  | 4 => ("SilkHouseModel", "ofBale", "[I", true)
  | 5 => ("SilkHouseModel", "ofLook", "[I", true)
  | 6 => ("SilkHouseModel", "scaleOf", "[I", true)
  | 7 => ("SilkHouseModel", "raw", "[I", true)
  | 8 => ("SilkHouseModel", "dry", "[I", true)
  | 9 => ("SilkHouseModel", "oven", "[I", true)
  | 10 => ("SilkHouseModel", "hand", "[I", true)
  | 11 => ("SilkHouseModel", "dayOf", "[I", true)
  | 12 => ("SilkHouseModel", "lostOn", "[I", true)
  | 13 => ("SilkHouseModel", "tests", "I", false)
  | 14 => ("SilkHouseModel", "testScale", "[I", true)
  | 15 => ("SilkHouseModel", "testError", "[I", true)
  | 16 => ("SilkHouseModel", "testDay", "[I", true)
  | 17 => ("SilkHouseModel", "sumDry", "J", false)
  | 18 => ("SilkHouseModel", "sumRaw", "J", false)
  | 19 => ("SilkHouseModel", "counted", "I", false)
  | 20 => ("SilkHouseModel", "outOven", "I", false)
  | 21 => ("SilkHouseModel", "outHand", "I", false)
  | 22 => ("SilkHouseModel", "outSkein", "I", false)
  | 23 => ("SilkHouseModel", "rules", "I", false)
  | 24 => ("SilkHouseModel", "inForce", "[I", true)
  | 25 => ("SilkHouseModel", "clauses", "[I", true)
  | 26 => ("SilkHouseModel", "kindOf", "[I", true)
  | 27 => ("SilkHouseModel", "nameOf", "[I", true)
  | 28 => ("SilkHouseModel", "first", "[I", true)
  | 29 => ("SilkHouseModel", "second", "[I", true)
  | 30 => ("SilkHouseModel", "wordSize", "[I", true)
  | 31 => ("SilkHouseModel", "word", "[I", true)
  | 32 => ("SilkHouseModel", "text", "[I", true)
  | 33 => ("SilkHouseModel", "textSize", "I", false)
  | 34 => ("SilkHouseModel", "at", "I", false)
  | 35 => ("SilkHouseModel", "faultOf", "I", false)
  | 36 => ("SilkHouseModel", "place", "I", false)
  | 37 => ("SilkHouseModel", "from", "I", false)
  | 38 => ("SilkHouseModel", "letters", "I", false)
  | 39 => ("SilkHouseModel", "isOn", "[Z", true)
  | 40 => ("SilkHouseModel", "order", "[I", true)
  | 41 => ("SilkHouseModel", "ons", "I", false)
  | 42 => ("SilkHouseModel", "dryOf", "[J", true)
  | 43 => ("SilkHouseModel", "rawOf", "[J", true)
  | 44 => ("SilkHouseModel", "resultUp", "J", false)
  | 45 => ("SilkHouseModel", "resultDown", "J", false)
  | 46 => ("SilkHouseModel", "lawfulUp", "J", false)
  | 47 => ("SilkHouseModel", "lawfulDown", "J", false)
  | 48 => ("SilkHouseModel", "causes", "I", false)
  | 49 => ("SilkHouseModel", "causeOf", "[I", true)
  | 50 => ("SilkHouseModel", "own", "[I", true)
  | 51 => ("SilkHouseModel", "threads", "[I", true)
  | 52 => ("SilkHouseModel", "thread", "[I", true)
  | 53 => ("SilkHouseModel", "countMany", "[I", true)
  | 54 => ("SilkHouseModel", "turn", "[I", true)
  | 55 => ("SilkHouseModel", "gumLow", "[I", true)
  | 56 => ("SilkHouseModel", "ashLow", "[I", true)
  | 57 => ("SilkHouseModel", "loads", "I", false)
  | 58 => ("SilkHouseModel", "minutes", "[I", true)
  | 59 => ("SilkHouseModel", "ends", "[I", true)
  | 60 => ("SilkHouseModel", "bestWay", "I", false)
  | 61 => ("SilkHouseModel", "bestEnd", "I", false)
  | 62 => ("SilkHouseModel", "shared", "I", false)
  | 63 => ("SilkHouseModel", "apartLow", "[I", true)
  | 64 => ("SilkHouseModel", "apartHigh", "[I", true)
  | 65 => ("SilkHouseModel", "spanLow", "I", false)
  | 66 => ("SilkHouseModel", "spanHigh", "I", false)
  | 67 => ("SilkHouseModel", "papers", "I", false)
  | 68 => ("SilkHouseModel", "paperKind", "[I", true)
  | 69 => ("SilkHouseModel", "paperBale", "[I", true)
  | 70 => ("SilkHouseModel", "paperWorth", "[J", true)
  | 71 => ("SilkHouseModel", "hangsOn", "[I", true)
  | 72 => ("SilkHouseModel", "paperDay", "[I", true)
  | 73 => ("SilkHouseModel", "undoneOn", "[I", true)
  | _ => ("SilkHouseModel", "feeOf", "[I", true)
def tyX12 : Nat → FieldType := fun k => match k with
  | 0 => .int
  | 1 => .int
  | 2 => .array .int
  | 3 => .int
  | 4 => .array .int
  | 5 => .array .int
  | 6 => .array .int
  | 7 => .array .int
  | 8 => .array .int
  | 9 => .array .int
  | 10 => .array .int
  | 11 => .array .int
  | 12 => .array .int
  | 13 => .int
  | 14 => .array .int
  | 15 => .array .int
  | 16 => .array .int
  | 17 => .long
  | 18 => .long
  | 19 => .int
  | 20 => .int
  | 21 => .int
  | 22 => .int
  | 23 => .int
  | 24 => .array .int
  | 25 => .array .int
  | 26 => .array .int
  | 27 => .array .int
  | 28 => .array .int
  | 29 => .array .int
  | 30 => .array .int
  | 31 => .array .int
  | 32 => .array .int
  | 33 => .int
  | 34 => .int
  | 35 => .int
  | 36 => .int
  | 37 => .int
  | 38 => .int
  | 39 => .array .boolean
  | 40 => .array .int
  | 41 => .int
  | 42 => .array .long
  | 43 => .array .long
  | 44 => .long
  | 45 => .long
  | 46 => .long
  | 47 => .long
  | 48 => .int
  | 49 => .array .int
  | 50 => .array .int
  | 51 => .array .int
  | 52 => .array .int
  | 53 => .array .int
  | 54 => .array .int
  | 55 => .array .int
  | 56 => .array .int
  | 57 => .int
  | 58 => .array .int
  | 59 => .array .int
  | 60 => .int
  | 61 => .int
  | 62 => .int
  | 63 => .array .int
  | 64 => .array .int
  | 65 => .int
  | 66 => .int
  | 67 => .int
  | 68 => .array .int
  | 69 => .array .int
  | 70 => .array .long
  | 71 => .array .int
  | 72 => .array .int
  | 73 => .array .int
  | _ => .array .int
theorem nmX12 : ∀ a, a < 75 → ∀ b, b < 75 → a ≠ b → (TX12 a).2.1 ≠ (TX12 b).2.1 := by decide +kernel
theorem tyX12_ok : ∀ k, k < 75 → parseFieldDescriptor (TX12 k).2.2.1 = some (tyX12 k) := by decide +kernel
abbrev cX12_init : ByteArray := prog_14_method_1_code
def yX12_init : MethodName := ⟨RX12, "<init>", "()V"⟩
abbrev cX12_in : ByteArray := prog_14_method_3_code
def yX12_in : MethodName := ⟨RX12, "in", "(JJJ)Z"⟩
abbrev cX12_bit : ByteArray := prog_14_method_4_code
def yX12_bit : MethodName := ⟨RX12, "bit", "(Z)I"⟩
abbrev cX12_plain : ByteArray := prog_14_method_5_code
def yX12_plain : MethodName := ⟨RX12, "plain", "(J)J"⟩
abbrev cX12_gcd : ByteArray := prog_14_method_6_code
def yX12_gcd : MethodName := ⟨RX12, "gcd", "(JJ)J"⟩
abbrev cX12_noBale : ByteArray := prog_14_method_7_code
def yX12_noBale : MethodName := ⟨RX12, "noBale", "(I)Z"⟩
abbrev cX12_isPast : ByteArray := prog_14_method_8_code
def yX12_isPast : MethodName := ⟨RX12, "isPast", "(I)Z"⟩
abbrev cX12_isDay : ByteArray := prog_14_method_9_code
def yX12_isDay : MethodName := ⟨RX12, "isDay", "(I)Z"⟩
abbrev cX12_go : ByteArray := prog_14_method_10_code
def yX12_go : MethodName := ⟨RX12, "go", "(I)I"⟩
abbrev cX12_bale : ByteArray := prog_14_method_11_code
def yX12_bale : MethodName := ⟨RX12, "bale", "(I)I"⟩
abbrev cX12_skein : ByteArray := prog_14_method_12_code
def yX12_skein : MethodName := ⟨RX12, "skein", "(IIIIIII)I"⟩
abbrev cX12_noSkein : ByteArray := prog_14_method_13_code
def yX12_noSkein : MethodName := ⟨RX12, "noSkein", "(I)Z"⟩
abbrev cX12_lose : ByteArray := prog_14_method_14_code
def yX12_lose : MethodName := ⟨RX12, "lose", "(I)I"⟩
abbrev cX12_told : ByteArray := prog_14_method_15_code
def yX12_told : MethodName := ⟨RX12, "told", "(II)I"⟩
abbrev cX12_isWeight : ByteArray := prog_14_method_16_code
def yX12_isWeight : MethodName := ⟨RX12, "isWeight", "(I)Z"⟩
abbrev cX12_test : ByteArray := prog_14_method_17_code
def yX12_test : MethodName := ⟨RX12, "test", "(III)I"⟩
abbrev cX12_errorOf : ByteArray := prog_14_method_18_code
def yX12_errorOf : MethodName := ⟨RX12, "errorOf", "(IIZ)I"⟩
abbrev cX12_error : ByteArray := prog_14_method_19_code
def yX12_error : MethodName := ⟨RX12, "error", "(III)I"⟩
abbrev cX12_isThere : ByteArray := prog_14_method_20_code
def yX12_isThere : MethodName := ⟨RX12, "isThere", "(II)Z"⟩
abbrev cX12_sumUp : ByteArray := prog_14_method_21_code
def yX12_sumUp : MethodName := ⟨RX12, "sumUp", "(III)I"⟩
abbrev cX12_leaveOut : ByteArray := prog_14_method_22_code
def yX12_leaveOut : MethodName := ⟨RX12, "leaveOut", "(III)V"⟩
abbrev cX12_ratio : ByteArray := prog_14_method_23_code
def yX12_ratio : MethodName := ⟨RX12, "ratio", "(III)I"⟩
abbrev cX12_doPart : ByteArray := prog_14_method_24_code
def yX12_doPart : MethodName := ⟨RX12, "doPart", "(JJJJI)Z"⟩
abbrev cX12_feed : ByteArray := prog_14_method_25_code
def yX12_feed : MethodName := ⟨RX12, "feed", "(IJ)I"⟩
abbrev cX12_here : ByteArray := prog_14_method_26_code
def yX12_here : MethodName := ⟨RX12, "here", "()I"⟩
abbrev cX12_want : ByteArray := prog_14_method_27_code
def yX12_want : MethodName := ⟨RX12, "want", "(ZII)Z"⟩
abbrev cX12_takeWord : ByteArray := prog_14_method_28_code
def yX12_takeWord : MethodName := ⟨RX12, "takeWord", "()V"⟩
abbrev cX12_isWord : ByteArray := prog_14_method_29_code
def yX12_isWord : MethodName := ⟨RX12, "isWord", "(IIIIIII)Z"⟩
abbrev cX12_takeNumber : ByteArray := prog_14_method_30_code
def yX12_takeNumber : MethodName := ⟨RX12, "takeNumber", "(II)I"⟩
abbrev cX12_letOf : ByteArray := prog_14_method_31_code
def yX12_letOf : MethodName := ⟨RX12, "letOf", "()I"⟩
abbrev cX12_leastOf : ByteArray := prog_14_method_32_code
def yX12_leastOf : MethodName := ⟨RX12, "leastOf", "(I)I"⟩
abbrev cX12_mostOf : ByteArray := prog_14_method_33_code
def yX12_mostOf : MethodName := ⟨RX12, "mostOf", "(I)I"⟩
abbrev cX12_atFirst : ByteArray := prog_14_method_34_code
def yX12_atFirst : MethodName := ⟨RX12, "atFirst", "(I)I"⟩
abbrev cX12_readName : ByteArray := prog_14_method_35_code
def yX12_readName : MethodName := ⟨RX12, "readName", "(I)V"⟩
abbrev cX12_readClause : ByteArray := prog_14_method_36_code
def yX12_readClause : MethodName := ⟨RX12, "readClause", "(II)V"⟩
abbrev cX12_rule : ByteArray := prog_14_method_37_code
def yX12_rule : MethodName := ⟨RX12, "rule", "(I)I"⟩
abbrev cX12_fault : ByteArray := prog_14_method_38_code
def yX12_fault : MethodName := ⟨RX12, "fault", "()I"⟩
abbrev cX12_findRules : ByteArray := prog_14_method_39_code
def yX12_findRules : MethodName := ⟨RX12, "findRules", "(I)V"⟩
abbrev cX12_forceOf : ByteArray := prog_14_method_40_code
def yX12_forceOf : MethodName := ⟨RX12, "forceOf", "(II)I"⟩
abbrev cX12_force : ByteArray := prog_14_method_41_code
def yX12_force : MethodName := ⟨RX12, "force", "(II)I"⟩
abbrev cX12_letter : ByteArray := prog_14_method_42_code
def yX12_letter : MethodName := ⟨RX12, "letter", "(II)I"⟩
abbrev cX12_half : ByteArray := prog_14_method_43_code
def yX12_half : MethodName := ⟨RX12, "half", "(II)V"⟩
abbrev cX12_only : ByteArray := prog_14_method_44_code
def yX12_only : MethodName := ⟨RX12, "only", "(I)V"⟩
abbrev cX12_isLess : ByteArray := prog_14_method_45_code
def yX12_isLess : MethodName := ⟨RX12, "isLess", "(II)Z"⟩
abbrev cX12_settleThree : ByteArray := prog_14_method_46_code
def yX12_settleThree : MethodName := ⟨RX12, "settleThree", "(I)V"⟩
abbrev cX12_stateOf : ByteArray := prog_14_method_47_code
def yX12_stateOf : MethodName := ⟨RX12, "stateOf", "(II)I"⟩
abbrev cX12_state : ByteArray := prog_14_method_48_code
def yX12_state : MethodName := ⟨RX12, "state", "(II)I"⟩
abbrev cX12_findLawful : ByteArray := prog_14_method_49_code
def yX12_findLawful : MethodName := ⟨RX12, "findLawful", "(IJJI)V"⟩
abbrev cX12_lawful : ByteArray := prog_14_method_50_code
def yX12_lawful : MethodName := ⟨RX12, "lawful", "(III)J"⟩
abbrev cX12_held : ByteArray := prog_14_method_51_code
def yX12_held : MethodName := ⟨RX12, "held", "(I)I"⟩
abbrev cX12_span : ByteArray := prog_14_method_52_code
def yX12_span : MethodName := ⟨RX12, "span", "(II)J"⟩
abbrev cX12_doLooksPart : ByteArray := prog_14_method_53_code
def yX12_doLooksPart : MethodName := ⟨RX12, "doLooksPart", "(II)Z"⟩
abbrev cX12_haveBoth : ByteArray := prog_14_method_54_code
def yX12_haveBoth : MethodName := ⟨RX12, "haveBoth", "(I)Z"⟩
abbrev cX12_tryCause : ByteArray := prog_14_method_55_code
def yX12_tryCause : MethodName := ⟨RX12, "tryCause", "(IIIII)V"⟩
abbrev cX12_cause : ByteArray := prog_14_method_56_code
def yX12_cause : MethodName := ⟨RX12, "cause", "(II)I"⟩
abbrev cX12_odd : ByteArray := prog_14_method_57_code
def yX12_odd : MethodName := ⟨RX12, "odd", "(II)I"⟩
abbrev cX12_ones : ByteArray := prog_14_method_58_code
def yX12_ones : MethodName := ⟨RX12, "ones", "(I)I"⟩
abbrev cX12_isEnough : ByteArray := prog_14_method_59_code
def yX12_isEnough : MethodName := ⟨RX12, "isEnough", "(IIII)Z"⟩
abbrev cX12_needed : ByteArray := prog_14_method_60_code
def yX12_needed : MethodName := ⟨RX12, "needed", "(II)I"⟩
abbrev cX12_thread : ByteArray := prog_14_method_61_code
def yX12_thread : MethodName := ⟨RX12, "thread", "(II)I"⟩
abbrev cX12_size : ByteArray := prog_14_method_62_code
def yX12_size : MethodName := ⟨RX12, "size", "(II)I"⟩
abbrev cX12_named : ByteArray := prog_14_method_63_code
def yX12_named : MethodName := ⟨RX12, "named", "(II)I"⟩
abbrev cX12_turns : ByteArray := prog_14_method_64_code
def yX12_turns : MethodName := ⟨RX12, "turns", "(II)I"⟩
abbrev cX12_twist : ByteArray := prog_14_method_65_code
def yX12_twist : MethodName := ⟨RX12, "twist", "(I)I"⟩
abbrev cX12_burnt : ByteArray := prog_14_method_66_code
def yX12_burnt : MethodName := ⟨RX12, "burnt", "(IIII)I"⟩
abbrev cX12_cheat : ByteArray := prog_14_method_67_code
def yX12_cheat : MethodName := ⟨RX12, "cheat", "(IIII)I"⟩
abbrev cX12_load : ByteArray := prog_14_method_68_code
def yX12_load : MethodName := ⟨RX12, "load", "(I)I"⟩
abbrev cX12_power : ByteArray := prog_14_method_69_code
def yX12_power : MethodName := ⟨RX12, "power", "(II)I"⟩
abbrev cX12_ovenOf : ByteArray := prog_14_method_70_code
def yX12_ovenOf : MethodName := ⟨RX12, "ovenOf", "(III)I"⟩
abbrev cX12_findOrder : ByteArray := prog_14_method_71_code
def yX12_findOrder : MethodName := ⟨RX12, "findOrder", "(I)V"⟩
abbrev cX12_order : ByteArray := prog_14_method_72_code
def yX12_order : MethodName := ⟨RX12, "order", "(II)I"⟩
abbrev cX12_empty : ByteArray := prog_14_method_73_code
def yX12_empty : MethodName := ⟨RX12, "empty", "()I"⟩
abbrev cX12_shared : ByteArray := prog_14_method_74_code
def yX12_shared : MethodName := ⟨RX12, "shared", "(IIII)I"⟩
abbrev cX12_findSpan : ByteArray := prog_14_method_75_code
def yX12_findSpan : MethodName := ⟨RX12, "findSpan", "(I)Z"⟩
abbrev cX12_houses : ByteArray := prog_14_method_76_code
def yX12_houses : MethodName := ⟨RX12, "houses", "(I)I"⟩
abbrev cX12_add : ByteArray := prog_14_method_77_code
def yX12_add : MethodName := ⟨RX12, "add", "(IIJII)V"⟩
abbrev cX12_certify : ByteArray := prog_14_method_78_code
def yX12_certify : MethodName := ⟨RX12, "certify", "(I)I"⟩
abbrev cX12_noPaper : ByteArray := prog_14_method_79_code
def yX12_noPaper : MethodName := ⟨RX12, "noPaper", "(I)Z"⟩
abbrev cX12_stands : ByteArray := prog_14_method_80_code
def yX12_stands : MethodName := ⟨RX12, "stands", "(I)Z"⟩
abbrev cX12_bill : ByteArray := prog_14_method_81_code
def yX12_bill : MethodName := ⟨RX12, "bill", "(II)I"⟩
abbrev cX12_cut : ByteArray := prog_14_method_82_code
def yX12_cut : MethodName := ⟨RX12, "cut", "(III)I"⟩
abbrev cX12_undo : ByteArray := prog_14_method_83_code
def yX12_undo : MethodName := ⟨RX12, "undo", "(I)I"⟩
abbrev cX12_paper : ByteArray := prog_14_method_84_code
def yX12_paper : MethodName := ⟨RX12, "paper", "(II)I"⟩
abbrev cX12_stood : ByteArray := prog_14_method_85_code
def yX12_stood : MethodName := ⟨RX12, "stood", "(II)J"⟩
abbrev cX12_balesIn : ByteArray := prog_14_method_86_code
def yX12_balesIn : MethodName := ⟨RX12, "balesIn", "(I)I"⟩
abbrev cX12_count : ByteArray := prog_14_method_87_code
def yX12_count : MethodName := ⟨RX12, "count", "(I)I"⟩
def RL : String := "SilkHouseLaw"
abbrev cL_law : ByteArray := code
def yL_law : MethodName := ⟨RL, "law", "([I)Z"⟩
/-! ===== END ===== -/
abbrev classes : List vw_C := [(RX0, TX0, 8), (RX1, TX1, 9), (RX2, TX2, 8), (RX3, TX3, 5), (RX4, TX4, 3), (RX5, TX5, 7), (RX6, TX6, 8), (RX7, TX7, 3), (RX8, TX8, 6), (RX9, TX9, 4), (RX10, TX10, 3), (RX11, TX11, 11), (RX12, TX12, 75)]

/-! ===== the tables' good words as ONE list: every method's words are its own code and these ===== -/
def tb : List Cond := lw_tbl.filter goodWord
theorem tb_in {w : Cond} (i : Nat) (h : lw_tbl[i]? = some w) (hg : goodWord w = true) : w ∈ tb := List.mem_filter.mpr ⟨List.mem_of_getElem? h, hg⟩
theorem tb_of {args : Array Value} {s : State} (h : ∀ w ∈ lw_tbl, w.before args s = true) : ∀ w ∈ tb, w.before args s = true := fun w hw => h w (List.mem_filter.mp hw).1
theorem tb_self : GoodIn tb tb := fun w hw => ⟨hw, good_of_word (List.mem_filter.mp hw).2⟩
abbrev wc (y : MethodName) (b : ByteArray) (n : Nat) (r : Option FieldType) : List Cond := Cond.code y b n r :: tb
theorem tb_wc {y : MethodName} {b : ByteArray} {n : Nat} {r : Option FieldType} (h : Cond.code y b n r ∈ tb) : GoodIn tb (wc y b n r) := fun w hw => (List.mem_cons.mp hw).elim (fun e => by rw [e]; exact tb_self _ h) (fun h2 => tb_self w h2)
theorem tb_tl {x : Cond} {args : Array Value} {s : State} (h : ∀ w ∈ x :: tb, w.before args s = true) : ∀ w ∈ tb, w.before args s = true := fun w hw => h w (List.mem_cons_of_mem _ hw)
theorem kV {R : Room} {s : State} {args : Array Value} {own C : String} {index maxL mc ms : Nat} {y : MethodName} {bytes : ByteArray} {ret : Option FieldType} {rm : Room} (n : Nat) (ht : ∀ w ∈ tb, w.before args s = true) (h1 : Cond.methodLink own index y ∈ tb) (h2 : Cond.instanceMethod y ∈ tb) (h3 : Cond.selects C y y ∈ tb) (h4 : Cond.initialized C ∈ tb) (hc : Cond.code y bytes maxL ret ∈ tb) (hrc : rm.cells = mc) (hrs : rm.slots = ms)
    (hd : y.cls = C ∧ y.cls ≠ "java/lang/invoke/MethodHandle" ∧ y.cls ≠ "java/lang/invoke/VarHandle" ∧ (parseMethodDescriptor y.desc).map (fun d => d.parameters.length) = some n) (hR : rm.frames + 1 ≤ R.frames ∧ 8 + (maxL + 11) + rm.locals ≤ R.locals) :
    CallW R s args own C index y bytes maxL ret (wc y bytes maxL ret) rm mc ms n :=
  cwV n ht (fun w hw => (List.mem_append.mp hw).elim (fun h => by
    simp only [List.mem_cons, List.not_mem_nil, or_false] at h
    rcases h with rfl | rfl | rfl | rfl
    · exact tb_self _ h1
    · exact tb_self _ h2
    · exact tb_self _ h3
    · exact tb_self _ h4) (tb_wc hc w)) rfl hrc hrs hd hR
theorem kS {R : Room} {s : State} {args : Array Value} {own : String} {index maxL mc ms : Nat} {y : MethodName} {bytes : ByteArray} {ret : Option FieldType} {rm : Room} (n : Nat) (ht : ∀ w ∈ tb, w.before args s = true) (h1 : Cond.methodLink own index y ∈ tb) (h2 : Cond.static y ∈ tb) (h4 : Cond.initialized own ∈ tb) (hc : Cond.code y bytes maxL ret ∈ tb) (hrc : rm.cells = mc) (hrs : rm.slots = ms)
    (hd : y.cls = own ∧ y.cls ≠ "java/lang/invoke/MethodHandle" ∧ y.cls ≠ "java/lang/invoke/VarHandle" ∧ (parseMethodDescriptor y.desc).map (fun d => d.parameters.length) = some n) (hR : rm.frames + 1 ≤ R.frames ∧ 8 + (maxL + 11) + rm.locals ≤ R.locals) :
    CallB R s args own index y bytes maxL ret (wc y bytes maxL ret) rm mc ms n ∧ (Cond.static y).before args s = true :=
  cwS n ht (fun w hw => (List.mem_append.mp hw).elim (fun h => by
    simp only [List.mem_cons, List.not_mem_nil, or_false] at h
    rcases h with rfl | rfl | rfl
    · exact tb_self _ h1
    · exact tb_self _ h2
    · exact tb_self _ h4) (tb_wc hc w)) rfl hrc hrs hd hR
/-- what a reading method asks: the cells, the classes -/
def pR (D : va_G) (cl : List vw_C) (ws : va_W) (tys : List (ClassId × FieldType)) (av : List Value) : Array Value → State → Prop := va_Pc av (fun U => va_P D cl ws U.heap ∧ va_K D cl tys U)
/-- what a writing method asks -/
def pW (D : va_G) (cl : List vw_C) (ws : va_W) (tys : List (ClassId × FieldType)) (sz : Nat) (av : List Value) : Array Value → State → Prop := va_Pc av (fun U => U.heap.size = sz ∧ va_P D cl ws U.heap ∧ va_K D cl tys U ∧ va_D (fun _ => True) ws)
theorem pR_fb {D : va_G} {cl : List vw_C} {ws : va_W} {tys : List (ClassId × FieldType)} {av : List Value} : FrameBlind (pR D cl ws tys av) := fun a U g mk q => ⟨q.1, q.2.1, va_K.moved (u := U) (U := U.calling g mk a) (Vm.Alike.refl U.vm) q.2.2⟩
theorem pW_fb {D : va_G} {cl : List vw_C} {ws : va_W} {tys : List (ClassId × FieldType)} {sz : Nat} {av : List Value} : FrameBlind (pW D cl ws tys sz av) := fun a U g mk q => ⟨q.1, q.2.1, q.2.2.1, va_K.moved (u := U) (U := U.calling g mk a) (Vm.Alike.refl U.vm) q.2.2.2.1, q.2.2.2.2⟩
theorem vR {D : va_G} {cl : List vw_C} {ws : va_W} {tys : List (ClassId × FieldType)} {s : State} {H : Heap} {C : String} {b : Addr} {As : List Value} (hP : va_P D cl ws H) (hK : va_K D cl tys s) (hr : ∃ cell : Cell, H[b]? = some cell ∧ cell.vm.isStatics = false ∧ s.vm.findClass C = some cell.cls) : PreV s H C b (pR D cl ws tys (.ref b :: As)) As := ⟨pR_fb, hr, fun U hU hW => ⟨rfl, by rw [hU]; exact hP, va_K.moved hW.alike hK⟩⟩
theorem sR {D : va_G} {cl : List vw_C} {ws : va_W} {tys : List (ClassId × FieldType)} {s : State} {H : Heap} {As : List Value} (hP : va_P D cl ws H) (hK : va_K D cl tys s) : PreS s H (pR D cl ws tys As) As := ⟨pR_fb, fun U hU hW => ⟨rfl, by rw [hU]; exact hP, va_K.moved hW.alike hK⟩⟩
theorem vW {D : va_G} {cl : List vw_C} {ws : va_W} {tys : List (ClassId × FieldType)} {A : Nat → Prop} {s : State} {H : Heap} {C : String} {b : Addr} {As : List Value} (hP : va_P D cl ws H) (hK : va_K D cl tys s) (hD : va_D A ws) (hr : ∃ cell : Cell, H[b]? = some cell ∧ cell.vm.isStatics = false ∧ s.vm.findClass C = some cell.cls) : PreV s H C b (pW D cl ws tys H.size (.ref b :: As)) As := ⟨pW_fb, hr, fun U hU hW => ⟨rfl, by rw [hU], by rw [hU]; exact hP, va_K.moved hW.alike hK, hD.weaken (fun _ _ _ _ => trivial)⟩⟩
theorem sW {D : va_G} {cl : List vw_C} {ws : va_W} {tys : List (ClassId × FieldType)} {A : Nat → Prop} {s : State} {H : Heap} {As : List Value} (hP : va_P D cl ws H) (hK : va_K D cl tys s) (hD : va_D A ws) : PreS s H (pW D cl ws tys H.size As) As := ⟨pW_fb, fun U hU hW => ⟨rfl, by rw [hU], by rw [hU]; exact hP, va_K.moved hW.alike hK, hD.weaken (fun _ _ _ _ => trivial)⟩⟩
theorem noP {D : va_G} {cl : List vw_C} {H : Heap} : va_P D cl [] H := fun k q h => by simp at h
theorem noD {A : Nat → Prop} : va_D A [] := ⟨fun i j p q h => by simp at h, fun k q h => by simp at h⟩
/-! ===== whole numbers ===== -/
theorem z_lt {a b : Int32} {x y : Int} (ha : a.toInt = x) (hb : b.toInt = y) (h : a < b) : x < y := by have := Int32.lt_iff_toInt_lt.mp h; omega
theorem z_nlt {a b : Int32} {x y : Int} (ha : a.toInt = x) (hb : b.toInt = y) (h : ¬ a < b) : y ≤ x := by have h2 : ¬ a.toInt < b.toInt := fun q => h (Int32.lt_iff_toInt_lt.mpr q); omega
theorem z_le {a b : Int32} {x y : Int} (ha : a.toInt = x) (hb : b.toInt = y) (h : a ≤ b) : x ≤ y := by have := Int32.le_iff_toInt_le.mp h; omega
theorem z_nle {a b : Int32} {x y : Int} (ha : a.toInt = x) (hb : b.toInt = y) (h : ¬ a ≤ b) : y < x := by have h2 : ¬ a.toInt ≤ b.toInt := fun q => h (Int32.le_iff_toInt_le.mpr q); omega
theorem z_eq {a b : Int32} {x y : Int} (ha : a.toInt = x) (hb : b.toInt = y) (h : a = b) : x = y := by rw [← ha, ← hb, h]
theorem z_ne {a b : Int32} {x y : Int} (ha : a.toInt = x) (hb : b.toInt = y) (h : ¬ a = b) : ¬ x = y := fun q => h (Int32.toInt_inj.mp (by rw [ha, hb, q]))
theorem z_of {a b : Int32} {x : Int} (hb : b.toInt = x) (h : a.toInt = x) : a = b := Int32.toInt_inj.mp (h.trans hb.symm)
theorem z_add {a b c : Int32} {x y : Int} (h : c = a + b) (ha : a.toInt = x) (hb : b.toInt = y) (h1 : -2147483648 ≤ x + y) (h2 : x + y < 2147483648) : c.toInt = x + y := by
  rw [h, Int32.toInt_add, ha, hb, Int.bmod_def]; omega
theorem z_sub {a b c : Int32} {x y : Int} (h : c = a - b) (ha : a.toInt = x) (hb : b.toInt = y) (h1 : -2147483648 ≤ x - y) (h2 : x - y < 2147483648) : c.toInt = x - y := by
  rw [h, Int32.toInt_sub, ha, hb, Int.bmod_def]; omega
theorem zc_lt {x y : Int64} {k : Int32} {u v : Int} (h : k = lg_cmp x y) (hx : x.toInt = u) (hy : y.toInt = v) (c : k < 0) : u < v := by
  rw [h] at c; unfold lg_cmp at c; rw [← hx, ← hy]
  split at c
  · exact absurd c (by decide)
  · split at c
    · exact absurd c (by decide)
    · next h1 h2 => have h3 : ¬ y.toInt < x.toInt := fun q => h1 (Int64.lt_iff_toInt_lt.mpr q); have h4 : ¬ x.toInt = y.toInt := fun q => h2 (Int64.toInt_inj.mp q); omega
theorem zc_nlt {x y : Int64} {k : Int32} {u v : Int} (h : k = lg_cmp x y) (hx : x.toInt = u) (hy : y.toInt = v) (c : ¬ k < 0) : v ≤ u := by
  rw [h] at c; unfold lg_cmp at c; rw [← hx, ← hy]
  split at c
  · next h1 => have := Int64.lt_iff_toInt_lt.mp h1; omega
  · split at c
    · next h1 h2 => rw [h2]; exact Int.le_refl _
    · exact absurd (by decide) c
theorem zc_gt {x y : Int64} {k : Int32} {u v : Int} (h : k = lg_cmp x y) (hx : x.toInt = u) (hy : y.toInt = v) (c : 0 < k) : v < u := by
  rw [h] at c; unfold lg_cmp at c; rw [← hx, ← hy]
  split at c
  · next h1 => exact Int64.lt_iff_toInt_lt.mp h1
  · split at c
    · exact absurd c (by decide)
    · exact absurd c (by decide)
theorem zc_ngt {x y : Int64} {k : Int32} {u v : Int} (h : k = lg_cmp x y) (hx : x.toInt = u) (hy : y.toInt = v) (c : ¬ 0 < k) : u ≤ v := by
  rw [h] at c; unfold lg_cmp at c; rw [← hx, ← hy]
  split at c
  · exact absurd (by decide) c
  · next h1 => have h3 : ¬ y.toInt < x.toInt := fun q => h1 (Int64.lt_iff_toInt_lt.mpr q); omega
theorem z_div100 {a c : Int32} (h : c = a / 100) (h0 : 0 ≤ a.toInt) : 0 ≤ c.toInt := by
  have h1 : (100 : Int32).toInt = 100 := by decide
  have h2 := Int32.toInt_lt a
  have h3 : a.toInt.tdiv 100 = a.toInt / 100 := Int.tdiv_eq_ediv_of_nonneg h0
  rw [h, Int32.toInt_div, h1, h3, Int.bmod_def]; omega
