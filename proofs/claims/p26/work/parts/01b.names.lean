/-! ===== BEGIN printed: names, fields, word lists, decode rows ===== -/
def RX0 : String := "FluxBench$Codes"
def TX0 : u_T := fun k => match k with
  | _ => ("", "", "", false)
def tyX0 : Nat → FieldType := fun k => match k with
  | _ => .int
abbrev wsX00 : List Cond := u_ws RX0 TX0 0
theorem nmX0 : ∀ a, a < 0 → ∀ b, b < 0 → a ≠ b → (TX0 a).2.1 ≠ (TX0 b).2.1 := by decide +kernel
theorem tyX0_ok : ∀ k, k < 0 → parseFieldDescriptor (TX0 k).2.2.1 = some (tyX0 k) := by decide +kernel
abbrev cX0_cellsOfByte : ByteArray := prog_2_method_2_code
def yX0_cellsOfByte : MethodName := ⟨RX0, "cellsOfByte", "(I)I"⟩
abbrev cX0_cellsOfSector : ByteArray := prog_2_method_3_code
def yX0_cellsOfSector : MethodName := ⟨RX0, "cellsOfSector", "(II)I"⟩
abbrev cX0_groupOf : ByteArray := prog_2_method_4_code
def yX0_groupOf : MethodName := ⟨RX0, "groupOf", "(I)I"⟩
abbrev cX0_byteAt : ByteArray := prog_2_method_5_code
def yX0_byteAt : MethodName := ⟨RX0, "byteAt", "(LFluxBench$Row;II)I"⟩
abbrev cX0_byteOfGroups : ByteArray := prog_2_method_6_code
def yX0_byteOfGroups : MethodName := ⟨RX0, "byteOfGroups", "(I)I"⟩
def RX1 : String := "FluxBench$Finds"
def TX1 : u_T := fun k => match k with
  | 0 => ("FluxBench$Finds", "code", "I", true)
  | 1 => ("FluxBench$Finds", "values", "[I", true)
  | 2 => ("FluxBench$Finds", "plainSectors", "[I", true)
  | 3 => ("FluxBench$Finds", "sectors", "I", false)
  | 4 => ("FluxBench$Finds", "goodOnes", "I", false)
  | 5 => ("FluxBench$Finds", "strays", "I", false)
  | 6 => ("FluxBench$Finds", "isCut", "Z", false)
  | 7 => ("FluxBench$Finds", "plainCount", "I", false)
  | _ => ("FluxBench$Finds", "plainCells", "I", false)
def tyX1 : Nat → FieldType := fun k => match k with
  | 0 => .int
  | 1 => .array .int
  | 2 => .array .int
  | 3 => .int
  | 4 => .int
  | 5 => .int
  | 6 => .boolean
  | 7 => .int
  | _ => .int
abbrev wsX10 : List Cond := u_ws RX1 TX1 9
theorem nmX1 : ∀ a, a < 9 → ∀ b, b < 9 → a ≠ b → (TX1 a).2.1 ≠ (TX1 b).2.1 := by decide +kernel
theorem tyX1_ok : ∀ k, k < 9 → parseFieldDescriptor (TX1 k).2.2.1 = some (tyX1 k) := by decide +kernel
abbrev cX1_init : ByteArray := prog_3_method_1_code
def yX1_init : MethodName := ⟨RX1, "<init>", "(I)V"⟩
abbrev cX1_look : ByteArray := prog_3_method_2_code
def yX1_look : MethodName := ⟨RX1, "look", "(LFluxBench$Row;)V"⟩
abbrev cX1_noteBehindMark : ByteArray := prog_3_method_3_code
def yX1_noteBehindMark : MethodName := ⟨RX1, "noteBehindMark", "(LFluxBench$Row;I)I"⟩
abbrev cX1_keepDataAndSum : ByteArray := prog_3_method_4_code
def yX1_keepDataAndSum : MethodName := ⟨RX1, "keepDataAndSum", "(LFluxBench$Row;III)V"⟩
abbrev cX1_planPlainCopy : ByteArray := prog_3_method_5_code
def yX1_planPlainCopy : MethodName := ⟨RX1, "planPlainCopy", "()V"⟩
abbrev cX1_plainSector : ByteArray := prog_3_method_6_code
def yX1_plainSector : MethodName := ⟨RX1, "plainSector", "(I)I"⟩
abbrev cX1_setValue : ByteArray := prog_3_method_7_code
def yX1_setValue : MethodName := ⟨RX1, "setValue", "(III)V"⟩
abbrev cX1_valueOf : ByteArray := prog_3_method_8_code
def yX1_valueOf : MethodName := ⟨RX1, "valueOf", "(II)I"⟩
abbrev cX1_firstGood : ByteArray := prog_3_method_9_code
def yX1_firstGood : MethodName := ⟨RX1, "firstGood", "(I)I"⟩
abbrev cX1_isFirstGood : ByteArray := prog_3_method_10_code
def yX1_isFirstGood : MethodName := ⟨RX1, "isFirstGood", "(I)Z"⟩
abbrev cX1_hasTwins : ByteArray := prog_3_method_12_code
def yX1_hasTwins : MethodName := ⟨RX1, "hasTwins", "()Z"⟩
abbrev cX1_dataOf : ByteArray := prog_3_method_13_code
def yX1_dataOf : MethodName := ⟨RX1, "dataOf", "(I)I"⟩
def RX2 : String := "FluxBench$Row"
def TX2 : u_T := fun k => match k with
  | 0 => ("FluxBench$Row", "cells", "[I", true)
  | 1 => ("FluxBench$Row", "length", "I", false)
  | _ => ("FluxBench$Row", "word", "I", false)
def tyX2 : Nat → FieldType := fun k => match k with
  | 0 => .array .int
  | 1 => .int
  | _ => .int
abbrev wsX20 : List Cond := u_ws RX2 TX2 3
theorem nmX2 : ∀ a, a < 3 → ∀ b, b < 3 → a ≠ b → (TX2 a).2.1 ≠ (TX2 b).2.1 := by decide +kernel
theorem tyX2_ok : ∀ k, k < 3 → parseFieldDescriptor (TX2 k).2.2.1 = some (tyX2 k) := by decide +kernel
abbrev cX2_init : ByteArray := prog_4_method_1_code
def yX2_init : MethodName := ⟨RX2, "<init>", "()V"⟩
abbrev cX2_empty : ByteArray := prog_4_method_2_code
def yX2_empty : MethodName := ⟨RX2, "empty", "()V"⟩
abbrev cX2_put : ByteArray := prog_4_method_3_code
def yX2_put : MethodName := ⟨RX2, "put", "(I)V"⟩
abbrev cX2_at : ByteArray := prog_4_method_4_code
def yX2_at : MethodName := ⟨RX2, "at", "(I)I"⟩
def RX3 : String := "FluxBench$Surface"
def TX3 : u_T := fun k => match k with
  | 0 => ("FluxBench$Surface", "bits", "[I", true)
  | 1 => ("FluxBench$Surface", "widths", "[I", true)
  | 2 => ("FluxBench$Surface", "weakness", "[Z", true)
  | 3 => ("FluxBench$Surface", "dirtiness", "[I", true)
  | 4 => ("FluxBench$Surface", "length", "I", false)
  | _ => ("FluxBench$Surface", "bitAhead", "I", false)
def tyX3 : Nat → FieldType := fun k => match k with
  | 0 => .array .int
  | 1 => .array .int
  | 2 => .array .boolean
  | 3 => .array .int
  | 4 => .int
  | _ => .int
abbrev wsX30 : List Cond := u_ws RX3 TX3 6
theorem nmX3 : ∀ a, a < 6 → ∀ b, b < 6 → a ≠ b → (TX3 a).2.1 ≠ (TX3 b).2.1 := by decide +kernel
theorem tyX3_ok : ∀ k, k < 6 → parseFieldDescriptor (TX3 k).2.2.1 = some (tyX3 k) := by decide +kernel
abbrev cX3_init : ByteArray := prog_5_method_1_code
def yX3_init : MethodName := ⟨RX3, "<init>", "()V"⟩
abbrev cX3_empty : ByteArray := prog_5_method_2_code
def yX3_empty : MethodName := ⟨RX3, "empty", "()V"⟩
abbrev cX3_hasRoomFor : ByteArray := prog_5_method_3_code
def yX3_hasRoomFor : MethodName := ⟨RX3, "hasRoomFor", "(I)Z"⟩
abbrev cX3_hasPlace : ByteArray := prog_5_method_4_code
def yX3_hasPlace : MethodName := ⟨RX3, "hasPlace", "(I)Z"⟩
abbrev cX3_put : ByteArray := prog_5_method_5_code
def yX3_put : MethodName := ⟨RX3, "put", "(II)V"⟩
abbrev cX3_putMark : ByteArray := prog_5_method_6_code
def yX3_putMark : MethodName := ⟨RX3, "putMark", "(I)V"⟩
abbrev cX3_putByte : ByteArray := prog_5_method_7_code
def yX3_putByte : MethodName := ⟨RX3, "putByte", "(III)V"⟩
abbrev cX3_putSector : ByteArray := prog_5_method_8_code
def yX3_putSector : MethodName := ⟨RX3, "putSector", "(IIIIZI)V"⟩
abbrev cX3_putDigits : ByteArray := prog_5_method_9_code
def yX3_putDigits : MethodName := ⟨RX3, "putDigits", "(III)V"⟩
abbrev cX3_bitAt : ByteArray := prog_5_method_10_code
def yX3_bitAt : MethodName := ⟨RX3, "bitAt", "(I)I"⟩
abbrev cX3_widthAt : ByteArray := prog_5_method_11_code
def yX3_widthAt : MethodName := ⟨RX3, "widthAt", "(I)I"⟩
abbrev cX3_isWeak : ByteArray := prog_5_method_12_code
def yX3_isWeak : MethodName := ⟨RX3, "isWeak", "(I)Z"⟩
abbrev cX3_setWeak : ByteArray := prog_5_method_13_code
def yX3_setWeak : MethodName := ⟨RX3, "setWeak", "(IZ)V"⟩
abbrev cX3_dirtAt : ByteArray := prog_5_method_14_code
def yX3_dirtAt : MethodName := ⟨RX3, "dirtAt", "(I)I"⟩
abbrev cX3_setDirt : ByteArray := prog_5_method_15_code
def yX3_setDirt : MethodName := ⟨RX3, "setDirt", "(II)V"⟩
abbrev cX3_dirtTold : ByteArray := prog_5_method_16_code
def yX3_dirtTold : MethodName := ⟨RX3, "dirtTold", "(I)I"⟩
abbrev cX3_isDrawn : ByteArray := prog_5_method_17_code
def yX3_isDrawn : MethodName := ⟨RX3, "isDrawn", "(I)Z"⟩
abbrev cX3_isPlainOne : ByteArray := prog_5_method_18_code
def yX3_isPlainOne : MethodName := ⟨RX3, "isPlainOne", "(I)Z"⟩
abbrev cX3_soil : ByteArray := prog_5_method_19_code
def yX3_soil : MethodName := ⟨RX3, "soil", "(II)V"⟩
abbrev cX3_wipe : ByteArray := prog_5_method_20_code
def yX3_wipe : MethodName := ⟨RX3, "wipe", "()V"⟩
abbrev cX3_wear : ByteArray := prog_5_method_21_code
def yX3_wear : MethodName := ⟨RX3, "wear", "(I)V"⟩
abbrev cX3_countOf : ByteArray := prog_5_method_22_code
def yX3_countOf : MethodName := ⟨RX3, "countOf", "(I)I"⟩
abbrev cX3_widthsTogether : ByteArray := prog_5_method_23_code
def yX3_widthsTogether : MethodName := ⟨RX3, "widthsTogether", "()I"⟩
def RX4 : String := "FluxBench$Track"
def TX4 : u_T := fun k => match k with
  | 0 => ("FluxBench$Track", "surface", "LFluxBench$Surface;", true)
  | 1 => ("FluxBench$Track", "vote", "LFluxBench$Row;", true)
  | 2 => ("FluxBench$Track", "findsOfPairs", "LFluxBench$Finds;", true)
  | 3 => ("FluxBench$Track", "findsOfGroups", "LFluxBench$Finds;", true)
  | 4 => ("FluxBench$Track", "turn0", "LFluxBench$Turn;", true)
  | 5 => ("FluxBench$Track", "turn1", "LFluxBench$Turn;", true)
  | 6 => ("FluxBench$Track", "turn2", "LFluxBench$Turn;", true)
  | 7 => ("FluxBench$Track", "code", "I", false)
  | 8 => ("FluxBench$Track", "turnCount", "I", false)
  | 9 => ("FluxBench$Track", "unsure", "I", false)
  | 10 => ("FluxBench$Track", "reads", "I", false)
  | _ => ("FluxBench$Track", "oldest", "I", false)
def tyX4 : Nat → FieldType := fun k => match k with
  | 0 => .object "FluxBench$Surface"
  | 1 => .object "FluxBench$Row"
  | 2 => .object "FluxBench$Finds"
  | 3 => .object "FluxBench$Finds"
  | 4 => .object "FluxBench$Turn"
  | 5 => .object "FluxBench$Turn"
  | 6 => .object "FluxBench$Turn"
  | 7 => .int
  | 8 => .int
  | 9 => .int
  | 10 => .int
  | _ => .int
abbrev wsX40 : List Cond := u_ws RX4 TX4 12
theorem nmX4 : ∀ a, a < 12 → ∀ b, b < 12 → a ≠ b → (TX4 a).2.1 ≠ (TX4 b).2.1 := by decide +kernel
theorem tyX4_ok : ∀ k, k < 12 → parseFieldDescriptor (TX4 k).2.2.1 = some (tyX4 k) := by decide +kernel
abbrev cX4_init : ByteArray := prog_6_method_1_code
def yX4_init : MethodName := ⟨RX4, "<init>", "(I)V"⟩
abbrev cX4_finds : ByteArray := prog_6_method_2_code
def yX4_finds : MethodName := ⟨RX4, "finds", "()LFluxBench$Finds;"⟩
abbrev cX4_findsBy : ByteArray := prog_6_method_3_code
def yX4_findsBy : MethodName := ⟨RX4, "findsBy", "(I)LFluxBench$Finds;"⟩
abbrev cX4_turnAt : ByteArray := prog_6_method_4_code
def yX4_turnAt : MethodName := ⟨RX4, "turnAt", "(I)LFluxBench$Turn;"⟩
abbrev cX4_latestTurn : ByteArray := prog_6_method_5_code
def yX4_latestTurn : MethodName := ⟨RX4, "latestTurn", "()LFluxBench$Turn;"⟩
abbrev cX4_nextTurn : ByteArray := prog_6_method_6_code
def yX4_nextTurn : MethodName := ⟨RX4, "nextTurn", "()LFluxBench$Turn;"⟩
abbrev cX4_takeTurn : ByteArray := prog_6_method_7_code
def yX4_takeTurn : MethodName := ⟨RX4, "takeTurn", "(I)I"⟩
abbrev cX4_tellTogether : ByteArray := prog_6_method_8_code
def yX4_tellTogether : MethodName := ⟨RX4, "tellTogether", "()V"⟩
abbrev cX4_onesAt : ByteArray := prog_6_method_9_code
def yX4_onesAt : MethodName := ⟨RX4, "onesAt", "(I)I"⟩
abbrev cX4_guards : ByteArray := prog_6_method_10_code
def yX4_guards : MethodName := ⟨RX4, "guards", "()I"⟩
abbrev cX4_becomeEmpty : ByteArray := prog_6_method_11_code
def yX4_becomeEmpty : MethodName := ⟨RX4, "becomeEmpty", "(I)V"⟩
abbrev cX4_putRawCopy : ByteArray := prog_6_method_12_code
def yX4_putRawCopy : MethodName := ⟨RX4, "putRawCopy", "(LFluxBench$Row;)V"⟩
abbrev cX4_putPlainCopy : ByteArray := prog_6_method_13_code
def yX4_putPlainCopy : MethodName := ⟨RX4, "putPlainCopy", "(LFluxBench$Finds;)V"⟩
def RX5 : String := "FluxBench$Turn"
def TX5 : u_T := fun k => match k with
  | 0 => ("FluxBench$Turn", "row", "LFluxBench$Row;", true)
  | _ => ("FluxBench$Turn", "period", "D", false)
def tyX5 : Nat → FieldType := fun k => match k with
  | 0 => .object "FluxBench$Row"
  | _ => .double
abbrev wsX50 : List Cond := u_ws RX5 TX5 2
theorem nmX5 : ∀ a, a < 2 → ∀ b, b < 2 → a ≠ b → (TX5 a).2.1 ≠ (TX5 b).2.1 := by decide +kernel
theorem tyX5_ok : ∀ k, k < 2 → parseFieldDescriptor (TX5 k).2.2.1 = some (tyX5 k) := by decide +kernel
abbrev cX5_init : ByteArray := prog_7_method_1_code
def yX5_init : MethodName := ⟨RX5, "<init>", "()V"⟩
abbrev cX5_begin : ByteArray := prog_7_method_2_code
def yX5_begin : MethodName := ⟨RX5, "begin", "()V"⟩
abbrev cX5_hear : ByteArray := prog_7_method_3_code
def yX5_hear : MethodName := ⟨RX5, "hear", "(I)V"⟩
abbrev cX5_nearestEven : ByteArray := prog_7_method_4_code
def yX5_nearestEven : MethodName := ⟨RX5, "nearestEven", "(D)I"⟩
abbrev cX5_held : ByteArray := prog_7_method_5_code
def yX5_held : MethodName := ⟨RX5, "held", "(D)D"⟩
def RX6 : String := "FluxBench"
def TX6 : u_T := fun k => match k with
  | 0 => ("FluxBench", "tracks", "[LFluxBench$Track;", true)
  | 1 => ("FluxBench", "trackCount", "I", false)
  | 2 => ("FluxBench", "speed", "I", false)
  | 3 => ("FluxBench", "draw", "I", false)
  | 4 => ("FluxBench", "reads", "I", false)
  | 5 => ("FluxBench", "plainCopies", "I", false)
  | _ => ("FluxBench", "rawCopies", "I", false)
def tyX6 : Nat → FieldType := fun k => match k with
  | 0 => .array (.object "FluxBench$Track")
  | 1 => .int
  | 2 => .int
  | 3 => .int
  | 4 => .int
  | 5 => .int
  | _ => .int
abbrev wsX60 : List Cond := u_ws RX6 TX6 7
theorem nmX6 : ∀ a, a < 7 → ∀ b, b < 7 → a ≠ b → (TX6 a).2.1 ≠ (TX6 b).2.1 := by decide +kernel
theorem tyX6_ok : ∀ k, k < 7 → parseFieldDescriptor (TX6 k).2.2.1 = some (tyX6 k) := by decide +kernel
abbrev cX6_init : ByteArray := prog_1_method_1_code
def yX6_init : MethodName := ⟨RX6, "<init>", "()V"⟩
abbrev cX6_track : ByteArray := prog_1_method_2_code
def yX6_track : MethodName := ⟨RX6, "track", "(I)I"⟩
abbrev cX6_speed : ByteArray := prog_1_method_3_code
def yX6_speed : MethodName := ⟨RX6, "speed", "(I)I"⟩
abbrev cX6_write : ByteArray := prog_1_method_4_code
def yX6_write : MethodName := ⟨RX6, "write", "(II)I"⟩
abbrev cX6_mark : ByteArray := prog_1_method_5_code
def yX6_mark : MethodName := ⟨RX6, "mark", "(I)I"⟩
abbrev cX6_sector : ByteArray := prog_1_method_6_code
def yX6_sector : MethodName := ⟨RX6, "sector", "(IIIIZ)I"⟩
abbrev cX6_weak : ByteArray := prog_1_method_7_code
def yX6_weak : MethodName := ⟨RX6, "weak", "(IIZ)Z"⟩
abbrev cX6_dirt : ByteArray := prog_1_method_8_code
def yX6_dirt : MethodName := ⟨RX6, "dirt", "(III)I"⟩
abbrev cX6_clean : ByteArray := prog_1_method_9_code
def yX6_clean : MethodName := ⟨RX6, "clean", "(I)I"⟩
abbrev cX6_read : ByteArray := prog_1_method_10_code
def yX6_read : MethodName := ⟨RX6, "read", "(I)I"⟩
abbrev cX6_copy : ByteArray := prog_1_method_11_code
def yX6_copy : MethodName := ⟨RX6, "copy", "(IIZ)I"⟩
abbrev cX6_ofCell : ByteArray := prog_1_method_12_code
def yX6_ofCell : MethodName := ⟨RX6, "ofCell", "(III)I"⟩
abbrev cX6_ofTrack : ByteArray := prog_1_method_13_code
def yX6_ofTrack : MethodName := ⟨RX6, "ofTrack", "(II)I"⟩
abbrev cX6_vote : ByteArray := prog_1_method_14_code
def yX6_vote : MethodName := ⟨RX6, "vote", "(II)I"⟩
abbrev cX6_turn : ByteArray := prog_1_method_15_code
def yX6_turn : MethodName := ⟨RX6, "turn", "(IIZ)I"⟩
abbrev cX6_period : ByteArray := prog_1_method_16_code
def yX6_period : MethodName := ⟨RX6, "period", "(II)D"⟩
abbrev cX6_ofSector : ByteArray := prog_1_method_17_code
def yX6_ofSector : MethodName := ⟨RX6, "ofSector", "(III)I"⟩
abbrev cX6_many : ByteArray := prog_1_method_19_code
def yX6_many : MethodName := ⟨RX6, "many", "(I)I"⟩
abbrev cX6_sure : ByteArray := prog_1_method_20_code
def yX6_sure : MethodName := ⟨RX6, "sure", "(I)D"⟩
abbrev cX6_plainLong : ByteArray := prog_1_method_21_code
def yX6_plainLong : MethodName := ⟨RX6, "plainLong", "(I)I"⟩
abbrev cX6_wouldLose : ByteArray := prog_1_method_22_code
def yX6_wouldLose : MethodName := ⟨RX6, "wouldLose", "(I)I"⟩
abbrev cX6_goodBy : ByteArray := prog_1_method_23_code
def yX6_goodBy : MethodName := ⟨RX6, "goodBy", "(II)I"⟩
abbrev cX6_digest : ByteArray := prog_1_method_24_code
def yX6_digest : MethodName := ⟨RX6, "digest", "()J"⟩
abbrev cX6_digestOfTrack : ByteArray := prog_1_method_25_code
def yX6_digestOfTrack : MethodName := ⟨RX6, "digestOfTrack", "(IJ)J"⟩
abbrev cX6_digestOfSectors : ByteArray := prog_1_method_26_code
def yX6_digestOfSectors : MethodName := ⟨RX6, "digestOfSectors", "(IJ)J"⟩
abbrev cX6_shedCells : ByteArray := prog_1_method_27_code
def yX6_shedCells : MethodName := ⟨RX6, "shedCells", "()I"⟩
abbrev cX6_existing : ByteArray := prog_1_method_28_code
def yX6_existing : MethodName := ⟨RX6, "existing", "(I)LFluxBench$Track;"⟩
abbrev cX6_existingTurn : ByteArray := prog_1_method_29_code
def yX6_existingTurn : MethodName := ⟨RX6, "existingTurn", "(II)LFluxBench$Turn;"⟩
abbrev cX6_requirePlace : ByteArray := prog_1_method_30_code
def yX6_requirePlace : MethodName := ⟨RX6, "requirePlace", "(LFluxBench$Surface;I)V"⟩
abbrev cX6_requireCode : ByteArray := prog_1_method_31_code
def yX6_requireCode : MethodName := ⟨RX6, "requireCode", "(I)V"⟩
abbrev cX6_requireByte : ByteArray := prog_1_method_32_code
def yX6_requireByte : MethodName := ⟨RX6, "requireByte", "(I)V"⟩
abbrev cX6_requireWhat : ByteArray := prog_1_method_33_code
def yX6_requireWhat : MethodName := ⟨RX6, "requireWhat", "(II)V"⟩
abbrev cX6_requireRoom : ByteArray := prog_1_method_34_code
def yX6_requireRoom : MethodName := ⟨RX6, "requireRoom", "(LFluxBench$Track;I)V"⟩
def RX7 : String := "FluxBenchModel$Found"
def TX7 : u_T := fun k => match k with
  | _ => ("", "", "", false)
def tyX7 : Nat → FieldType := fun k => match k with
  | _ => .int
abbrev wsX70 : List Cond := u_ws RX7 TX7 0
theorem nmX7 : ∀ a, a < 0 → ∀ b, b < 0 → a ≠ b → (TX7 a).2.1 ≠ (TX7 b).2.1 := by decide +kernel
theorem tyX7_ok : ∀ k, k < 0 → parseFieldDescriptor (TX7 k).2.2.1 = some (tyX7 k) := by decide +kernel
def RX8 : String := "FluxBenchModel$Track"
def TX8 : u_T := fun k => match k with
  | _ => ("", "", "", false)
def tyX8 : Nat → FieldType := fun k => match k with
  | _ => .int
abbrev wsX80 : List Cond := u_ws RX8 TX8 0
theorem nmX8 : ∀ a, a < 0 → ∀ b, b < 0 → a ≠ b → (TX8 a).2.1 ≠ (TX8 b).2.1 := by decide +kernel
theorem tyX8_ok : ∀ k, k < 0 → parseFieldDescriptor (TX8 k).2.2.1 = some (tyX8 k) := by decide +kernel
def RX9 : String := "FluxBenchModel$Turn"
def TX9 : u_T := fun k => match k with
  | _ => ("", "", "", false)
def tyX9 : Nat → FieldType := fun k => match k with
  | _ => .int
abbrev wsX90 : List Cond := u_ws RX9 TX9 0
theorem nmX9 : ∀ a, a < 0 → ∀ b, b < 0 → a ≠ b → (TX9 a).2.1 ≠ (TX9 b).2.1 := by decide +kernel
theorem tyX9_ok : ∀ k, k < 0 → parseFieldDescriptor (TX9 k).2.2.1 = some (tyX9 k) := by decide +kernel
def RX10 : String := "FluxBenchModel"
def TX10 : u_T := fun k => match k with
  | _ => ("", "", "", false)
def tyX10 : Nat → FieldType := fun k => match k with
  | _ => .int
abbrev wsX100 : List Cond := u_ws RX10 TX10 0
theorem nmX10 : ∀ a, a < 0 → ∀ b, b < 0 → a ≠ b → (TX10 a).2.1 ≠ (TX10 b).2.1 := by decide +kernel
theorem tyX10_ok : ∀ k, k < 0 → parseFieldDescriptor (TX10 k).2.2.1 = some (tyX10 k) := by decide +kernel
def RJx145de : String := "java/io/Serializable"
def TJx145de : u_T := fun k => match k with
  | _ => ("", "", "", false)
def tyJx145de : Nat → FieldType := fun k => match k with
  | _ => .int
abbrev wsJx145de0 : List Cond := u_ws RJx145de TJx145de 0
theorem nmJx145de : ∀ a, a < 0 → ∀ b, b < 0 → a ≠ b → (TJx145de a).2.1 ≠ (TJx145de b).2.1 := by decide +kernel
theorem tyJx145de_ok : ∀ k, k < 0 → parseFieldDescriptor (TJx145de k).2.2.1 = some (tyJx145de k) := by decide +kernel
def RJxb160c : String := "java/lang/Comparable"
def TJxb160c : u_T := fun k => match k with
  | _ => ("", "", "", false)
def tyJxb160c : Nat → FieldType := fun k => match k with
  | _ => .int
abbrev wsJxb160c0 : List Cond := u_ws RJxb160c TJxb160c 0
theorem nmJxb160c : ∀ a, a < 0 → ∀ b, b < 0 → a ≠ b → (TJxb160c a).2.1 ≠ (TJxb160c b).2.1 := by decide +kernel
theorem tyJxb160c_ok : ∀ k, k < 0 → parseFieldDescriptor (TJxb160c k).2.2.1 = some (tyJxb160c k) := by decide +kernel
def RJxe99ae : String := "java/lang/Double"
def TJxe99ae : u_T := fun k => match k with
  | _ => ("", "", "", false)
def tyJxe99ae : Nat → FieldType := fun k => match k with
  | _ => .int
abbrev wsJxe99ae0 : List Cond := u_ws RJxe99ae TJxe99ae 0
theorem nmJxe99ae : ∀ a, a < 0 → ∀ b, b < 0 → a ≠ b → (TJxe99ae a).2.1 ≠ (TJxe99ae b).2.1 := by decide +kernel
theorem tyJxe99ae_ok : ∀ k, k < 0 → parseFieldDescriptor (TJxe99ae k).2.2.1 = some (tyJxe99ae k) := by decide +kernel
def RJ9 : String := "java/lang/Math"
def TJ9 : u_T := fun k => match k with
  | _ => ("", "", "", false)
def tyJ9 : Nat → FieldType := fun k => match k with
  | _ => .int
abbrev wsJ90 : List Cond := u_ws RJ9 TJ9 0
theorem nmJ9 : ∀ a, a < 0 → ∀ b, b < 0 → a ≠ b → (TJ9 a).2.1 ≠ (TJ9 b).2.1 := by decide +kernel
theorem tyJ9_ok : ∀ k, k < 0 → parseFieldDescriptor (TJ9 k).2.2.1 = some (tyJ9 k) := by decide +kernel
abbrev cJ9_floorMod_7cf53 : ByteArray := prog_18_method_50_code
def yJ9_floorMod_7cf53 : MethodName := ⟨RJ9, "floorMod", "(II)I"⟩
abbrev cJ9_abs_294c1 : ByteArray := prog_18_method_64_code
def yJ9_abs_294c1 : MethodName := ⟨RJ9, "abs", "(D)D"⟩
abbrev cJ9_max_7cf53 : ByteArray := prog_18_method_65_code
def yJ9_max_7cf53 : MethodName := ⟨RJ9, "max", "(II)I"⟩
abbrev cJ9_min_7cf53 : ByteArray := prog_18_method_69_code
def yJ9_min_7cf53 : MethodName := ⟨RJ9, "min", "(II)I"⟩
def RJxd2413 : String := "java/lang/Number"
def TJxd2413 : u_T := fun k => match k with
  | _ => ("", "", "", false)
def tyJxd2413 : Nat → FieldType := fun k => match k with
  | _ => .int
abbrev wsJxd24130 : List Cond := u_ws RJxd2413 TJxd2413 0
theorem nmJxd2413 : ∀ a, a < 0 → ∀ b, b < 0 → a ≠ b → (TJxd2413 a).2.1 ≠ (TJxd2413 b).2.1 := by decide +kernel
theorem tyJxd2413_ok : ∀ k, k < 0 → parseFieldDescriptor (TJxd2413 k).2.2.1 = some (tyJxd2413 k) := by decide +kernel
def RJ0 : String := "java/lang/String"
def TJ0 : u_T := fun k => match k with
  | _ => ("", "", "", false)
def tyJ0 : Nat → FieldType := fun k => match k with
  | _ => .int
abbrev wsJ00 : List Cond := u_ws RJ0 TJ0 0
theorem nmJ0 : ∀ a, a < 0 → ∀ b, b < 0 → a ≠ b → (TJ0 a).2.1 ≠ (TJ0 b).2.1 := by decide +kernel
theorem tyJ0_ok : ∀ k, k < 0 → parseFieldDescriptor (TJ0 k).2.2.1 = some (tyJ0 k) := by decide +kernel
def RJxfd54e : String := "java/lang/constant/Constable"
def TJxfd54e : u_T := fun k => match k with
  | _ => ("", "", "", false)
def tyJxfd54e : Nat → FieldType := fun k => match k with
  | _ => .int
abbrev wsJxfd54e0 : List Cond := u_ws RJxfd54e TJxfd54e 0
theorem nmJxfd54e : ∀ a, a < 0 → ∀ b, b < 0 → a ≠ b → (TJxfd54e a).2.1 ≠ (TJxfd54e b).2.1 := by decide +kernel
theorem tyJxfd54e_ok : ∀ k, k < 0 → parseFieldDescriptor (TJxfd54e k).2.2.1 = some (tyJxfd54e k) := by decide +kernel
def RJx3cf43 : String := "java/lang/constant/ConstantDesc"
def TJx3cf43 : u_T := fun k => match k with
  | _ => ("", "", "", false)
def tyJx3cf43 : Nat → FieldType := fun k => match k with
  | _ => .int
abbrev wsJx3cf430 : List Cond := u_ws RJx3cf43 TJx3cf43 0
theorem nmJx3cf43 : ∀ a, a < 0 → ∀ b, b < 0 → a ≠ b → (TJx3cf43 a).2.1 ≠ (TJx3cf43 b).2.1 := by decide +kernel
theorem tyJx3cf43_ok : ∀ k, k < 0 → parseFieldDescriptor (TJx3cf43 k).2.2.1 = some (tyJx3cf43 k) := by decide +kernel
def RL : String := "FluxBenchLaw"
abbrev cL_below : ByteArray := method_2_code
def yL_below : MethodName := ⟨RL, "below", "(II)I"⟩
abbrev cL_cell : ByteArray := method_3_code
def yL_cell : MethodName := ⟨RL, "cell", "([II)I"⟩
abbrev cL_bench : ByteArray := method_4_code
def yL_bench : MethodName := ⟨RL, "bench", "([II)LFluxBench;"⟩
abbrev cL_write : ByteArray := method_5_code
def yL_write : MethodName := ⟨RL, "write", "(LFluxBench;I)V"⟩
abbrev cL_law : ByteArray := code
def yL_law : MethodName := ⟨RL, "law", "([I)Z"⟩
abbrev cL_gone : ByteArray := method_7_code
def yL_gone : MethodName := ⟨RL, "gone", "(LFluxBench;I)I"⟩
abbrev cL_isSo : ByteArray := method_8_code
def yL_isSo : MethodName := ⟨RL, "isSo", "(LFluxBench;I)Z"⟩
