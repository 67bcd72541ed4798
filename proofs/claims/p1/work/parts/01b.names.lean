/-! ===== BEGIN printed: names, fields, word lists, decode rows ===== -/
def RX0 : String := "FluxBench$Codes"
def TX0 : u_T := fun k => match k with
  | _ => ("", "", "", false)
def tyX0 : Nat → FieldType := fun k => match k with
  | _ => .int
abbrev wsX00 : List Cond := u_ws RX0 TX0 0
theorem nmX0 : ∀ a, a < 0 → ∀ b, b < 0 → a ≠ b → (TX0 a).2.1 ≠ (TX0 b).2.1 := by decide +kernel
theorem tyX0_ok : ∀ k, k < 0 → parseFieldDescriptor (TX0 k).2.2.1 = some (tyX0 k) := by decide +kernel
abbrev cX0_cellsOfByte : ByteArray := prog_2_method_2_code
def yX0_cellsOfByte : MethodName := ⟨RX0, "cellsOfByte", "(I)I"⟩
abbrev cX0_cellsOfSector : ByteArray := prog_2_method_3_code
def yX0_cellsOfSector : MethodName := ⟨RX0, "cellsOfSector", "(II)I"⟩
abbrev cX0_groupOf : ByteArray := prog_2_method_4_code
def yX0_groupOf : MethodName := ⟨RX0, "groupOf", "(I)I"⟩
abbrev cX0_byteAt : ByteArray := prog_2_method_5_code
def yX0_byteAt : MethodName := ⟨RX0, "byteAt", "(LFluxBench$Row;II)I"⟩
abbrev cX0_byteOfGroups : ByteArray := prog_2_method_6_code
def yX0_byteOfGroups : MethodName := ⟨RX0, "byteOfGroups", "(I)I"⟩
def RX1 : String := "FluxBench$Finds"
def TX1 : u_T := fun k => match k with
  | 0 => ("FluxBench$Finds", "code", "I", true)
  | 1 => ("FluxBench$Finds", "values", "[I", true)
  | 2 => ("FluxBench$Finds", "plainSectors", "[I", true)
  | 3 => ("FluxBench$Finds", "sectors", "I", false)
  | 4 => ("FluxBench$Finds", "goodOnes", "I", false)
  | 5 => ("FluxBench$Finds", "strays", "I", false)
  | 6 => ("FluxBench$Finds", "isCut", "Z", false)
  | 7 => ("FluxBench$Finds", "plainCount", "I", false)
  | _ => ("FluxBench$Finds", "plainCells", "I", false)
def tyX1 : Nat → FieldType := fun k => match k with
  | 0 => .int
  | 1 => .array .int
  | 2 => .array .int
  | 3 => .int
  | 4 => .int
  | 5 => .int
  | 6 => .boolean
  | 7 => .int
  | _ => .int
abbrev wsX10 : List Cond := u_ws RX1 TX1 9
theorem nmX1 : ∀ a, a < 9 → ∀ b, b < 9 → a ≠ b → (TX1 a).2.1 ≠ (TX1 b).2.1 := by decide +kernel
theorem tyX1_ok : ∀ k, k < 9 → parseFieldDescriptor (TX1 k).2.2.1 = some (tyX1 k) := by decide +kernel
abbrev cX1_init : ByteArray := prog_3_method_1_code
def yX1_init : MethodName := ⟨RX1, "<init>", "(I)V"⟩
abbrev cX1_look : ByteArray := prog_3_method_2_code
def yX1_look : MethodName := ⟨RX1, "look", "(LFluxBench$Row;)V"⟩
abbrev cX1_noteBehindMark : ByteArray := prog_3_method_3_code
def yX1_noteBehindMark : MethodName := ⟨RX1, "noteBehindMark", "(LFluxBench$Row;I)I"⟩
abbrev cX1_keepDataAndSum : ByteArray := prog_3_method_4_code
def yX1_keepDataAndSum : MethodName := ⟨RX1, "keepDataAndSum", "(LFluxBench$Row;III)V"⟩
abbrev cX1_planPlainCopy : ByteArray := prog_3_method_5_code
def yX1_planPlainCopy : MethodName := ⟨RX1, "planPlainCopy", "()V"⟩
abbrev cX1_plainSector : ByteArray := prog_3_method_6_code
def yX1_plainSector : MethodName := ⟨RX1, "plainSector", "(I)I"⟩
abbrev cX1_setValue : ByteArray := prog_3_method_7_code
def yX1_setValue : MethodName := ⟨RX1, "setValue", "(III)V"⟩
abbrev cX1_valueOf : ByteArray := prog_3_method_8_code
def yX1_valueOf : MethodName := ⟨RX1, "valueOf", "(II)I"⟩
abbrev cX1_firstGood : ByteArray := prog_3_method_9_code
def yX1_firstGood : MethodName := ⟨RX1, "firstGood", "(I)I"⟩
abbrev cX1_isFirstGood : ByteArray := prog_3_method_10_code
def yX1_isFirstGood : MethodName := ⟨RX1, "isFirstGood", "(I)Z"⟩
abbrev cX1_chainFrom : ByteArray := prog_3_method_11_code
def yX1_chainFrom : MethodName := ⟨RX1, "chainFrom", "(I)I"⟩
abbrev cX1_hasTwins : ByteArray := prog_3_method_12_code
def yX1_hasTwins : MethodName := ⟨RX1, "hasTwins", "()Z"⟩
abbrev cX1_dataOf : ByteArray := prog_3_method_13_code
def yX1_dataOf : MethodName := ⟨RX1, "dataOf", "(I)I"⟩
def RX2 : String := "FluxBench$Row"
def TX2 : u_T := fun k => match k with
  | 0 => ("FluxBench$Row", "cells", "[I", true)
  | 1 => ("FluxBench$Row", "length", "I", false)
  | _ => ("FluxBench$Row", "word", "I", false)
def tyX2 : Nat → FieldType := fun k => match k with
  | 0 => .array .int
  | 1 => .int
  | _ => .int
abbrev wsX20 : List Cond := u_ws RX2 TX2 3
theorem nmX2 : ∀ a, a < 3 → ∀ b, b < 3 → a ≠ b → (TX2 a).2.1 ≠ (TX2 b).2.1 := by decide +kernel
theorem tyX2_ok : ∀ k, k < 3 → parseFieldDescriptor (TX2 k).2.2.1 = some (tyX2 k) := by decide +kernel
abbrev cX2_init : ByteArray := prog_4_method_1_code
def yX2_init : MethodName := ⟨RX2, "<init>", "()V"⟩
abbrev cX2_empty : ByteArray := prog_4_method_2_code
def yX2_empty : MethodName := ⟨RX2, "empty", "()V"⟩
abbrev cX2_put : ByteArray := prog_4_method_3_code
def yX2_put : MethodName := ⟨RX2, "put", "(I)V"⟩
abbrev cX2_at : ByteArray := prog_4_method_4_code
def yX2_at : MethodName := ⟨RX2, "at", "(I)I"⟩
def RX3 : String := "FluxBench$Surface"
def TX3 : u_T := fun k => match k with
  | 0 => ("FluxBench$Surface", "bits", "[I", true)
  | 1 => ("FluxBench$Surface", "widths", "[I", true)
  | 2 => ("FluxBench$Surface", "weakness", "[Z", true)
  | 3 => ("FluxBench$Surface", "dirtiness", "[I", true)
  | 4 => ("FluxBench$Surface", "length", "I", false)
  | _ => ("FluxBench$Surface", "bitAhead", "I", false)
def tyX3 : Nat → FieldType := fun k => match k with
  | 0 => .array .int
  | 1 => .array .int
  | 2 => .array .boolean
  | 3 => .array .int
  | 4 => .int
  | _ => .int
abbrev wsX30 : List Cond := u_ws RX3 TX3 6
theorem nmX3 : ∀ a, a < 6 → ∀ b, b < 6 → a ≠ b → (TX3 a).2.1 ≠ (TX3 b).2.1 := by decide +kernel
theorem tyX3_ok : ∀ k, k < 6 → parseFieldDescriptor (TX3 k).2.2.1 = some (tyX3 k) := by decide +kernel
abbrev cX3_init : ByteArray := prog_5_method_1_code
def yX3_init : MethodName := ⟨RX3, "<init>", "()V"⟩
abbrev cX3_empty : ByteArray := prog_5_method_2_code
def yX3_empty : MethodName := ⟨RX3, "empty", "()V"⟩
abbrev cX3_hasRoomFor : ByteArray := prog_5_method_3_code
def yX3_hasRoomFor : MethodName := ⟨RX3, "hasRoomFor", "(I)Z"⟩
abbrev cX3_hasPlace : ByteArray := prog_5_method_4_code
def yX3_hasPlace : MethodName := ⟨RX3, "hasPlace", "(I)Z"⟩
abbrev cX3_put : ByteArray := prog_5_method_5_code
def yX3_put : MethodName := ⟨RX3, "put", "(II)V"⟩
abbrev cX3_putMark : ByteArray := prog_5_method_6_code
def yX3_putMark : MethodName := ⟨RX3, "putMark", "(I)V"⟩
abbrev cX3_putByte : ByteArray := prog_5_method_7_code
def yX3_putByte : MethodName := ⟨RX3, "putByte", "(III)V"⟩
abbrev cX3_putSector : ByteArray := prog_5_method_8_code
def yX3_putSector : MethodName := ⟨RX3, "putSector", "(IIIIZI)V"⟩
abbrev cX3_putDigits : ByteArray := prog_5_method_9_code
def yX3_putDigits : MethodName := ⟨RX3, "putDigits", "(III)V"⟩
abbrev cX3_bitAt : ByteArray := prog_5_method_10_code
def yX3_bitAt : MethodName := ⟨RX3, "bitAt", "(I)I"⟩
abbrev cX3_widthAt : ByteArray := prog_5_method_11_code
def yX3_widthAt : MethodName := ⟨RX3, "widthAt", "(I)I"⟩
abbrev cX3_isWeak : ByteArray := prog_5_method_12_code
def yX3_isWeak : MethodName := ⟨RX3, "isWeak", "(I)Z"⟩
abbrev cX3_setWeak : ByteArray := prog_5_method_13_code
def yX3_setWeak : MethodName := ⟨RX3, "setWeak", "(IZ)V"⟩
abbrev cX3_dirtAt : ByteArray := prog_5_method_14_code
def yX3_dirtAt : MethodName := ⟨RX3, "dirtAt", "(I)I"⟩
abbrev cX3_setDirt : ByteArray := prog_5_method_15_code
def yX3_setDirt : MethodName := ⟨RX3, "setDirt", "(II)V"⟩
abbrev cX3_dirtTold : ByteArray := prog_5_method_16_code
def yX3_dirtTold : MethodName := ⟨RX3, "dirtTold", "(I)I"⟩
abbrev cX3_isDrawn : ByteArray := prog_5_method_17_code
def yX3_isDrawn : MethodName := ⟨RX3, "isDrawn", "(I)Z"⟩
abbrev cX3_isPlainOne : ByteArray := prog_5_method_18_code
def yX3_isPlainOne : MethodName := ⟨RX3, "isPlainOne", "(I)Z"⟩
abbrev cX3_soil : ByteArray := prog_5_method_19_code
def yX3_soil : MethodName := ⟨RX3, "soil", "(II)V"⟩
abbrev cX3_wipe : ByteArray := prog_5_method_20_code
def yX3_wipe : MethodName := ⟨RX3, "wipe", "()V"⟩
abbrev cX3_wear : ByteArray := prog_5_method_21_code
def yX3_wear : MethodName := ⟨RX3, "wear", "(I)V"⟩
abbrev cX3_countOf : ByteArray := prog_5_method_22_code
def yX3_countOf : MethodName := ⟨RX3, "countOf", "(I)I"⟩
abbrev cX3_widthsTogether : ByteArray := prog_5_method_23_code
def yX3_widthsTogether : MethodName := ⟨RX3, "widthsTogether", "()I"⟩
def RX4 : String := "FluxBench$Track"
def TX4 : u_T := fun k => match k with
  | 0 => ("FluxBench$Track", "surface", "LFluxBench$Surface;", true)
  | 1 => ("FluxBench$Track", "vote", "LFluxBench$Row;", true)
  | 2 => ("FluxBench$Track", "findsOfPairs", "LFluxBench$Finds;", true)
  | 3 => ("FluxBench$Track", "findsOfGroups", "LFluxBench$Finds;", true)
  | 4 => ("FluxBench$Track", "turn0", "LFluxBench$Turn;", true)
  | 5 => ("FluxBench$Track", "turn1", "LFluxBench$Turn;", true)
  | 6 => ("FluxBench$Track", "turn2", "LFluxBench$Turn;", true)
  | 7 => ("FluxBench$Track", "code", "I", false)
  | 8 => ("FluxBench$Track", "turnCount", "I", false)
  | 9 => ("FluxBench$Track", "unsure", "I", false)
  | 10 => ("FluxBench$Track", "reads", "I", false)
  | _ => ("FluxBench$Track", "oldest", "I", false)
def tyX4 : Nat → FieldType := fun k => match k with
  | 0 => .object "FluxBench$Surface"
  | 1 => .object "FluxBench$Row"
  | 2 => .object "FluxBench$Finds"
  | 3 => .object "FluxBench$Finds"
  | 4 => .object "FluxBench$Turn"
  | 5 => .object "FluxBench$Turn"
  | 6 => .object "FluxBench$Turn"
  | 7 => .int
  | 8 => .int
  | 9 => .int
  | 10 => .int
  | _ => .int
abbrev wsX40 : List Cond := u_ws RX4 TX4 12
theorem nmX4 : ∀ a, a < 12 → ∀ b, b < 12 → a ≠ b → (TX4 a).2.1 ≠ (TX4 b).2.1 := by decide +kernel
theorem tyX4_ok : ∀ k, k < 12 → parseFieldDescriptor (TX4 k).2.2.1 = some (tyX4 k) := by decide +kernel
abbrev cX4_init : ByteArray := prog_6_method_1_code
def yX4_init : MethodName := ⟨RX4, "<init>", "(I)V"⟩
abbrev cX4_finds : ByteArray := prog_6_method_2_code
def yX4_finds : MethodName := ⟨RX4, "finds", "()LFluxBench$Finds;"⟩
abbrev cX4_findsBy : ByteArray := prog_6_method_3_code
def yX4_findsBy : MethodName := ⟨RX4, "findsBy", "(I)LFluxBench$Finds;"⟩
abbrev cX4_turnAt : ByteArray := prog_6_method_4_code
def yX4_turnAt : MethodName := ⟨RX4, "turnAt", "(I)LFluxBench$Turn;"⟩
abbrev cX4_latestTurn : ByteArray := prog_6_method_5_code
def yX4_latestTurn : MethodName := ⟨RX4, "latestTurn", "()LFluxBench$Turn;"⟩
abbrev cX4_nextTurn : ByteArray := prog_6_method_6_code
def yX4_nextTurn : MethodName := ⟨RX4, "nextTurn", "()LFluxBench$Turn;"⟩
abbrev cX4_takeTurn : ByteArray := prog_6_method_7_code
def yX4_takeTurn : MethodName := ⟨RX4, "takeTurn", "(I)I"⟩
abbrev cX4_tellTogether : ByteArray := prog_6_method_8_code
def yX4_tellTogether : MethodName := ⟨RX4, "tellTogether", "()V"⟩
abbrev cX4_onesAt : ByteArray := prog_6_method_9_code
def yX4_onesAt : MethodName := ⟨RX4, "onesAt", "(I)I"⟩
abbrev cX4_guards : ByteArray := prog_6_method_10_code
def yX4_guards : MethodName := ⟨RX4, "guards", "()I"⟩
abbrev cX4_becomeEmpty : ByteArray := prog_6_method_11_code
def yX4_becomeEmpty : MethodName := ⟨RX4, "becomeEmpty", "(I)V"⟩
abbrev cX4_putRawCopy : ByteArray := prog_6_method_12_code
def yX4_putRawCopy : MethodName := ⟨RX4, "putRawCopy", "(LFluxBench$Row;)V"⟩
abbrev cX4_putPlainCopy : ByteArray := prog_6_method_13_code
def yX4_putPlainCopy : MethodName := ⟨RX4, "putPlainCopy", "(LFluxBench$Finds;)V"⟩
def RX5 : String := "FluxBench$Turn"
def TX5 : u_T := fun k => match k with
  | 0 => ("FluxBench$Turn", "row", "LFluxBench$Row;", true)
  | _ => ("FluxBench$Turn", "period", "D", false)
def tyX5 : Nat → FieldType := fun k => match k with
  | 0 => .object "FluxBench$Row"
  | _ => .double
abbrev wsX50 : List Cond := u_ws RX5 TX5 2
theorem nmX5 : ∀ a, a < 2 → ∀ b, b < 2 → a ≠ b → (TX5 a).2.1 ≠ (TX5 b).2.1 := by decide +kernel
theorem tyX5_ok : ∀ k, k < 2 → parseFieldDescriptor (TX5 k).2.2.1 = some (tyX5 k) := by decide +kernel
abbrev cX5_init : ByteArray := prog_7_method_1_code
def yX5_init : MethodName := ⟨RX5, "<init>", "()V"⟩
abbrev cX5_begin : ByteArray := prog_7_method_2_code
def yX5_begin : MethodName := ⟨RX5, "begin", "()V"⟩
abbrev cX5_hear : ByteArray := prog_7_method_3_code
def yX5_hear : MethodName := ⟨RX5, "hear", "(I)V"⟩
abbrev cX5_nearestEven : ByteArray := prog_7_method_4_code
def yX5_nearestEven : MethodName := ⟨RX5, "nearestEven", "(D)I"⟩
abbrev cX5_held : ByteArray := prog_7_method_5_code
def yX5_held : MethodName := ⟨RX5, "held", "(D)D"⟩
def RX6 : String := "FluxBench"
def TX6 : u_T := fun k => match k with
  | 0 => ("FluxBench", "tracks", "[LFluxBench$Track;", true)
  | 1 => ("FluxBench", "trackCount", "I", false)
  | 2 => ("FluxBench", "speed", "I", false)
  | 3 => ("FluxBench", "draw", "I", false)
  | 4 => ("FluxBench", "reads", "I", false)
  | 5 => ("FluxBench", "plainCopies", "I", false)
  | _ => ("FluxBench", "rawCopies", "I", false)
def tyX6 : Nat → FieldType := fun k => match k with
  | 0 => .array (.object "FluxBench$Track")
  | 1 => .int
  | 2 => .int
  | 3 => .int
  | 4 => .int
  | 5 => .int
  | _ => .int
abbrev wsX60 : List Cond := u_ws RX6 TX6 7
theorem nmX6 : ∀ a, a < 7 → ∀ b, b < 7 → a ≠ b → (TX6 a).2.1 ≠ (TX6 b).2.1 := by decide +kernel
theorem tyX6_ok : ∀ k, k < 7 → parseFieldDescriptor (TX6 k).2.2.1 = some (tyX6 k) := by decide +kernel
abbrev cX6_init : ByteArray := prog_1_method_1_code
def yX6_init : MethodName := ⟨RX6, "<init>", "()V"⟩
abbrev cX6_track : ByteArray := prog_1_method_2_code
def yX6_track : MethodName := ⟨RX6, "track", "(I)I"⟩
abbrev cX6_speed : ByteArray := prog_1_method_3_code
def yX6_speed : MethodName := ⟨RX6, "speed", "(I)I"⟩
abbrev cX6_write : ByteArray := prog_1_method_4_code
def yX6_write : MethodName := ⟨RX6, "write", "(II)I"⟩
abbrev cX6_mark : ByteArray := prog_1_method_5_code
def yX6_mark : MethodName := ⟨RX6, "mark", "(I)I"⟩
abbrev cX6_sector : ByteArray := prog_1_method_6_code
def yX6_sector : MethodName := ⟨RX6, "sector", "(IIIIZ)I"⟩
abbrev cX6_weak : ByteArray := prog_1_method_7_code
def yX6_weak : MethodName := ⟨RX6, "weak", "(IIZ)Z"⟩
abbrev cX6_dirt : ByteArray := prog_1_method_8_code
def yX6_dirt : MethodName := ⟨RX6, "dirt", "(III)I"⟩
abbrev cX6_clean : ByteArray := prog_1_method_9_code
def yX6_clean : MethodName := ⟨RX6, "clean", "(I)I"⟩
abbrev cX6_read : ByteArray := prog_1_method_10_code
def yX6_read : MethodName := ⟨RX6, "read", "(I)I"⟩
abbrev cX6_copy : ByteArray := prog_1_method_11_code
def yX6_copy : MethodName := ⟨RX6, "copy", "(IIZ)I"⟩
abbrev cX6_ofCell : ByteArray := prog_1_method_12_code
def yX6_ofCell : MethodName := ⟨RX6, "ofCell", "(III)I"⟩
abbrev cX6_ofTrack : ByteArray := prog_1_method_13_code
def yX6_ofTrack : MethodName := ⟨RX6, "ofTrack", "(II)I"⟩
abbrev cX6_vote : ByteArray := prog_1_method_14_code
def yX6_vote : MethodName := ⟨RX6, "vote", "(II)I"⟩
abbrev cX6_turn : ByteArray := prog_1_method_15_code
def yX6_turn : MethodName := ⟨RX6, "turn", "(IIZ)I"⟩
abbrev cX6_period : ByteArray := prog_1_method_16_code
def yX6_period : MethodName := ⟨RX6, "period", "(II)D"⟩
abbrev cX6_ofSector : ByteArray := prog_1_method_17_code
def yX6_ofSector : MethodName := ⟨RX6, "ofSector", "(III)I"⟩
abbrev cX6_chain : ByteArray := prog_1_method_18_code
def yX6_chain : MethodName := ⟨RX6, "chain", "(II)I"⟩
abbrev cX6_many : ByteArray := prog_1_method_19_code
def yX6_many : MethodName := ⟨RX6, "many", "(I)I"⟩
abbrev cX6_sure : ByteArray := prog_1_method_20_code
def yX6_sure : MethodName := ⟨RX6, "sure", "(I)D"⟩
abbrev cX6_plainLong : ByteArray := prog_1_method_21_code
def yX6_plainLong : MethodName := ⟨RX6, "plainLong", "(I)I"⟩
abbrev cX6_wouldLose : ByteArray := prog_1_method_22_code
def yX6_wouldLose : MethodName := ⟨RX6, "wouldLose", "(I)I"⟩
abbrev cX6_goodBy : ByteArray := prog_1_method_23_code
def yX6_goodBy : MethodName := ⟨RX6, "goodBy", "(II)I"⟩
abbrev cX6_digest : ByteArray := prog_1_method_24_code
def yX6_digest : MethodName := ⟨RX6, "digest", "()J"⟩
abbrev cX6_digestOfTrack : ByteArray := prog_1_method_25_code
def yX6_digestOfTrack : MethodName := ⟨RX6, "digestOfTrack", "(IJ)J"⟩
abbrev cX6_digestOfSectors : ByteArray := prog_1_method_26_code
def yX6_digestOfSectors : MethodName := ⟨RX6, "digestOfSectors", "(IJ)J"⟩
abbrev cX6_shedCells : ByteArray := prog_1_method_27_code
def yX6_shedCells : MethodName := ⟨RX6, "shedCells", "()I"⟩
abbrev cX6_existing : ByteArray := prog_1_method_28_code
def yX6_existing : MethodName := ⟨RX6, "existing", "(I)LFluxBench$Track;"⟩
abbrev cX6_existingTurn : ByteArray := prog_1_method_29_code
def yX6_existingTurn : MethodName := ⟨RX6, "existingTurn", "(II)LFluxBench$Turn;"⟩
abbrev cX6_requirePlace : ByteArray := prog_1_method_30_code
def yX6_requirePlace : MethodName := ⟨RX6, "requirePlace", "(LFluxBench$Surface;I)V"⟩
abbrev cX6_requireCode : ByteArray := prog_1_method_31_code
def yX6_requireCode : MethodName := ⟨RX6, "requireCode", "(I)V"⟩
abbrev cX6_requireByte : ByteArray := prog_1_method_32_code
def yX6_requireByte : MethodName := ⟨RX6, "requireByte", "(I)V"⟩
abbrev cX6_requireWhat : ByteArray := prog_1_method_33_code
def yX6_requireWhat : MethodName := ⟨RX6, "requireWhat", "(II)V"⟩
abbrev cX6_requireRoom : ByteArray := prog_1_method_34_code
def yX6_requireRoom : MethodName := ⟨RX6, "requireRoom", "(LFluxBench$Track;I)V"⟩
def RX7 : String := "FluxBenchModel$Found"
def TX7 : u_T := fun k => match k with
  | 0 => ("FluxBenchModel$Found", "kind", "I", true)
  | 1 => ("FluxBenchModel$Found", "place", "I", true)
  | 2 => ("FluxBenchModel$Found", "number", "I", false)
  | 3 => ("FluxBenchModel$Found", "count", "I", false)
  | 4 => ("FluxBenchModel$Found", "data", "[I", true)
  | 5 => ("FluxBenchModel$Found", "sum", "I", false)
  | _ => ("FluxBenchModel$Found", "isGood", "Z", false)
def tyX7 : Nat → FieldType := fun k => match k with
  | 0 => .int
  | 1 => .int
  | 2 => .int
  | 3 => .int
  | 4 => .array .int
  | 5 => .int
  | _ => .boolean
abbrev wsX70 : List Cond := u_ws RX7 TX7 7
theorem nmX7 : ∀ a, a < 7 → ∀ b, b < 7 → a ≠ b → (TX7 a).2.1 ≠ (TX7 b).2.1 := by decide +kernel
theorem tyX7_ok : ∀ k, k < 7 → parseFieldDescriptor (TX7 k).2.2.1 = some (tyX7 k) := by decide +kernel
abbrev cX7_init : ByteArray := prog_10_method_1_code
def yX7_init : MethodName := ⟨RX7, "<init>", "(II)V"⟩
def RX8 : String := "FluxBenchModel$Track"
def TX8 : u_T := fun k => match k with
  | 0 => ("FluxBenchModel$Track", "fives", "[I", true)
  | 1 => ("FluxBenchModel$Track", "code", "I", false)
  | 2 => ("FluxBenchModel$Track", "bits", "[I", true)
  | 3 => ("FluxBenchModel$Track", "widths", "[I", true)
  | 4 => ("FluxBenchModel$Track", "weak", "[Z", true)
  | 5 => ("FluxBenchModel$Track", "states", "[I", true)
  | 6 => ("FluxBenchModel$Track", "dirtyReads", "[I", true)
  | 7 => ("FluxBenchModel$Track", "many", "I", false)
  | 8 => ("FluxBenchModel$Track", "last", "I", false)
  | 9 => ("FluxBenchModel$Track", "turns", "Ljava/util/ArrayList;", true)
  | _ => ("FluxBenchModel$Track", "reads", "I", false)
def tyX8 : Nat → FieldType := fun k => match k with
  | 0 => .array .int
  | 1 => .int
  | 2 => .array .int
  | 3 => .array .int
  | 4 => .array .boolean
  | 5 => .array .int
  | 6 => .array .int
  | 7 => .int
  | 8 => .int
  | 9 => .object "java/util/ArrayList"
  | _ => .int
abbrev wsX80 : List Cond := u_ws RX8 TX8 11
theorem nmX8 : ∀ a, a < 11 → ∀ b, b < 11 → a ≠ b → (TX8 a).2.1 ≠ (TX8 b).2.1 := by decide +kernel
theorem tyX8_ok : ∀ k, k < 11 → parseFieldDescriptor (TX8 k).2.2.1 = some (tyX8 k) := by decide +kernel
abbrev cX8_init : ByteArray := prog_11_method_1_code
def yX8_init : MethodName := ⟨RX8, "<init>", "(I)V"⟩
abbrev cX8_clear : ByteArray := prog_11_method_2_code
def yX8_clear : MethodName := ⟨RX8, "clear", "()V"⟩
abbrev cX8_add : ByteArray := prog_11_method_3_code
def yX8_add : MethodName := ⟨RX8, "add", "(II)V"⟩
abbrev cX8_byteLong : ByteArray := prog_11_method_4_code
def yX8_byteLong : MethodName := ⟨RX8, "byteLong", "()I"⟩
abbrev cX8_sectorLong : ByteArray := prog_11_method_5_code
def yX8_sectorLong : MethodName := ⟨RX8, "sectorLong", "(I)I"⟩
abbrev cX8_write : ByteArray := prog_11_method_6_code
def yX8_write : MethodName := ⟨RX8, "write", "(II)V"⟩
abbrev cX8_mark : ByteArray := prog_11_method_7_code
def yX8_mark : MethodName := ⟨RX8, "mark", "(I)V"⟩
abbrev cX8_sector : ByteArray := prog_11_method_8_code
def yX8_sector : MethodName := ⟨RX8, "sector", "(II[III)V"⟩
abbrev cX8_sum : ByteArray := prog_11_method_9_code
def yX8_sum : MethodName := ⟨RX8, "sum", "(I)I"⟩
abbrev cX8_shortest : ByteArray := prog_11_method_10_code
def yX8_shortest : MethodName := ⟨RX8, "shortest", "()I"⟩
abbrev cX8_longest : ByteArray := prog_11_method_11_code
def yX8_longest : MethodName := ⟨RX8, "longest", "()I"⟩
abbrev cX8_vote : ByteArray := prog_11_method_12_code
def yX8_vote : MethodName := ⟨RX8, "vote", "(I)I"⟩
abbrev cX8_unsure : ByteArray := prog_11_method_13_code
def yX8_unsure : MethodName := ⟨RX8, "unsure", "()I"⟩
abbrev cX8_votes : ByteArray := prog_11_method_14_code
def yX8_votes : MethodName := ⟨RX8, "votes", "()[I"⟩
abbrev cX8_found : ByteArray := prog_11_method_15_code
def yX8_found : MethodName := ⟨RX8, "found", "(I)Ljava/util/ArrayList;"⟩
abbrev cX8_isMark : ByteArray := prog_11_method_16_code
def yX8_isMark : MethodName := ⟨RX8, "isMark", "([II)Z"⟩
abbrev cX8_findAt : ByteArray := prog_11_method_17_code
def yX8_findAt : MethodName := ⟨RX8, "findAt", "([III)LFluxBenchModel$Found;"⟩
abbrev cX8_fromFive : ByteArray := prog_11_method_18_code
def yX8_fromFive : MethodName := ⟨RX8, "fromFive", "(I)I"⟩
abbrev cX8_byteAt : ByteArray := prog_11_method_19_code
def yX8_byteAt : MethodName := ⟨RX8, "byteAt", "([III)I"⟩
abbrev cX8_guards : ByteArray := prog_11_method_20_code
def yX8_guards : MethodName := ⟨RX8, "guards", "()I"⟩
abbrev cX8_kept : ByteArray := prog_11_method_21_code
def yX8_kept : MethodName := ⟨RX8, "kept", "()Ljava/util/ArrayList;"⟩
abbrev cX8_firstGood : ByteArray := prog_11_method_22_code
def yX8_firstGood : MethodName := ⟨RX8, "firstGood", "(Ljava/util/ArrayList;I)LFluxBenchModel$Found;"⟩
abbrev cX8_plainFrom : ByteArray := prog_11_method_23_code
def yX8_plainFrom : MethodName := ⟨RX8, "plainFrom", "(LFluxBenchModel$Track;)V"⟩
abbrev cX8_calm : ByteArray := prog_11_method_24_code
def yX8_calm : MethodName := ⟨RX8, "calm", "()LFluxBenchModel$Turn;"⟩
def RX9 : String := "FluxBenchModel$Turn"
def TX9 : u_T := fun k => match k with
  | 0 => ("FluxBenchModel$Turn", "cells", "[I", false)
  | 1 => ("FluxBenchModel$Turn", "many", "I", false)
  | _ => ("FluxBenchModel$Turn", "period", "D", false)
def tyX9 : Nat → FieldType := fun k => match k with
  | 0 => .array .int
  | 1 => .int
  | _ => .double
abbrev wsX90 : List Cond := u_ws RX9 TX9 3
theorem nmX9 : ∀ a, a < 3 → ∀ b, b < 3 → a ≠ b → (TX9 a).2.1 ≠ (TX9 b).2.1 := by decide +kernel
theorem tyX9_ok : ∀ k, k < 3 → parseFieldDescriptor (TX9 k).2.2.1 = some (tyX9 k) := by decide +kernel
abbrev cX9_init : ByteArray := prog_12_method_1_code
def yX9_init : MethodName := ⟨RX9, "<init>", "()V"⟩
abbrev cX9_add : ByteArray := prog_12_method_2_code
def yX9_add : MethodName := ⟨RX9, "add", "(I)V"⟩
abbrev cX9_hear : ByteArray := prog_12_method_3_code
def yX9_hear : MethodName := ⟨RX9, "hear", "(I)V"⟩
abbrev cX9_at : ByteArray := prog_12_method_4_code
def yX9_at : MethodName := ⟨RX9, "at", "(I)I"⟩
def RX10 : String := "FluxBenchModel"
def TX10 : u_T := fun k => match k with
  | 0 => ("FluxBenchModel", "thrown", "I", false)
  | 1 => ("FluxBenchModel", "tracks", "Ljava/util/ArrayList;", true)
  | 2 => ("FluxBenchModel", "speed", "I", false)
  | 3 => ("FluxBenchModel", "draw", "I", false)
  | 4 => ("FluxBenchModel", "reads", "I", false)
  | 5 => ("FluxBenchModel", "plain", "I", false)
  | 6 => ("FluxBenchModel", "raw", "I", false)
  | _ => ("FluxBenchModel", "sum", "J", false)
def tyX10 : Nat → FieldType := fun k => match k with
  | 0 => .int
  | 1 => .object "java/util/ArrayList"
  | 2 => .int
  | 3 => .int
  | 4 => .int
  | 5 => .int
  | 6 => .int
  | _ => .long
abbrev wsX100 : List Cond := u_ws RX10 TX10 8
theorem nmX10 : ∀ a, a < 8 → ∀ b, b < 8 → a ≠ b → (TX10 a).2.1 ≠ (TX10 b).2.1 := by decide +kernel
theorem tyX10_ok : ∀ k, k < 8 → parseFieldDescriptor (TX10 k).2.2.1 = some (tyX10 k) := by decide +kernel
abbrev cX10_init : ByteArray := prog_9_method_1_code
def yX10_init : MethodName := ⟨RX10, "<init>", "()V"⟩
abbrev cX10_thrown : ByteArray := prog_9_method_2_code
def yX10_thrown : MethodName := ⟨RX10, "thrown", "()I"⟩
abbrev cX10_refuse : ByteArray := prog_9_method_3_code
def yX10_refuse : MethodName := ⟨RX10, "refuse", "(I)I"⟩
abbrev cX10_is : ByteArray := prog_9_method_4_code
def yX10_is : MethodName := ⟨RX10, "is", "(III)Z"⟩
abbrev cX10_isTrack : ByteArray := prog_9_method_5_code
def yX10_isTrack : MethodName := ⟨RX10, "isTrack", "(I)Z"⟩
abbrev cX10_track : ByteArray := prog_9_method_6_code
def yX10_track : MethodName := ⟨RX10, "track", "(I)I"⟩
abbrev cX10_speed : ByteArray := prog_9_method_7_code
def yX10_speed : MethodName := ⟨RX10, "speed", "(I)I"⟩
abbrev cX10_write : ByteArray := prog_9_method_8_code
def yX10_write : MethodName := ⟨RX10, "write", "(II)I"⟩
abbrev cX10_mark : ByteArray := prog_9_method_9_code
def yX10_mark : MethodName := ⟨RX10, "mark", "(I)I"⟩
abbrev cX10_sector : ByteArray := prog_9_method_10_code
def yX10_sector : MethodName := ⟨RX10, "sector", "(IIIIZ)I"⟩
abbrev cX10_isPlace : ByteArray := prog_9_method_11_code
def yX10_isPlace : MethodName := ⟨RX10, "isPlace", "(II)Z"⟩
abbrev cX10_weak : ByteArray := prog_9_method_12_code
def yX10_weak : MethodName := ⟨RX10, "weak", "(IIZ)Z"⟩
abbrev cX10_dirt : ByteArray := prog_9_method_13_code
def yX10_dirt : MethodName := ⟨RX10, "dirt", "(III)I"⟩
abbrev cX10_clean : ByteArray := prog_9_method_14_code
def yX10_clean : MethodName := ⟨RX10, "clean", "(I)I"⟩
abbrev cX10_comes : ByteArray := prog_9_method_15_code
def yX10_comes : MethodName := ⟨RX10, "comes", "(LFluxBenchModel$Track;I)I"⟩
abbrev cX10_read : ByteArray := prog_9_method_16_code
def yX10_read : MethodName := ⟨RX10, "read", "(I)I"⟩
abbrev cX10_copy : ByteArray := prog_9_method_17_code
def yX10_copy : MethodName := ⟨RX10, "copy", "(IIZ)I"⟩
abbrev cX10_ofCell : ByteArray := prog_9_method_18_code
def yX10_ofCell : MethodName := ⟨RX10, "ofCell", "(III)I"⟩
abbrev cX10_ofTrackNow : ByteArray := prog_9_method_19_code
def yX10_ofTrackNow : MethodName := ⟨RX10, "ofTrackNow", "(LFluxBenchModel$Track;I)I"⟩
abbrev cX10_ofTrack : ByteArray := prog_9_method_20_code
def yX10_ofTrack : MethodName := ⟨RX10, "ofTrack", "(II)I"⟩
abbrev cX10_vote : ByteArray := prog_9_method_21_code
def yX10_vote : MethodName := ⟨RX10, "vote", "(II)I"⟩
abbrev cX10_isTurn : ByteArray := prog_9_method_22_code
def yX10_isTurn : MethodName := ⟨RX10, "isTurn", "(II)Z"⟩
abbrev cX10_turnNow : ByteArray := prog_9_method_23_code
def yX10_turnNow : MethodName := ⟨RX10, "turnNow", "(LFluxBenchModel$Turn;Z)I"⟩
abbrev cX10_turn : ByteArray := prog_9_method_24_code
def yX10_turn : MethodName := ⟨RX10, "turn", "(IIZ)I"⟩
abbrev cX10_period : ByteArray := prog_9_method_25_code
def yX10_period : MethodName := ⟨RX10, "period", "(II)D"⟩
abbrev cX10_sectors : ByteArray := prog_9_method_26_code
def yX10_sectors : MethodName := ⟨RX10, "sectors", "(LFluxBenchModel$Track;)Ljava/util/ArrayList;"⟩
abbrev cX10_ofSectorNow : ByteArray := prog_9_method_27_code
def yX10_ofSectorNow : MethodName := ⟨RX10, "ofSectorNow", "(LFluxBenchModel$Found;I)I"⟩
abbrev cX10_ofSector : ByteArray := prog_9_method_28_code
def yX10_ofSector : MethodName := ⟨RX10, "ofSector", "(III)I"⟩
abbrev cX10_chain : ByteArray := prog_9_method_29_code
def yX10_chain : MethodName := ⟨RX10, "chain", "(II)I"⟩
abbrev cX10_manyNow : ByteArray := prog_9_method_30_code
def yX10_manyNow : MethodName := ⟨RX10, "manyNow", "(I)I"⟩
abbrev cX10_many : ByteArray := prog_9_method_31_code
def yX10_many : MethodName := ⟨RX10, "many", "(I)I"⟩
abbrev cX10_sure : ByteArray := prog_9_method_32_code
def yX10_sure : MethodName := ⟨RX10, "sure", "(I)D"⟩
abbrev cX10_plainOf : ByteArray := prog_9_method_33_code
def yX10_plainOf : MethodName := ⟨RX10, "plainOf", "(LFluxBenchModel$Track;)LFluxBenchModel$Track;"⟩
abbrev cX10_plainLong : ByteArray := prog_9_method_34_code
def yX10_plainLong : MethodName := ⟨RX10, "plainLong", "(I)I"⟩
abbrev cX10_loseNow : ByteArray := prog_9_method_35_code
def yX10_loseNow : MethodName := ⟨RX10, "loseNow", "(LFluxBenchModel$Track;)I"⟩
abbrev cX10_wouldLose : ByteArray := prog_9_method_36_code
def yX10_wouldLose : MethodName := ⟨RX10, "wouldLose", "(I)I"⟩
abbrev cX10_goodNow : ByteArray := prog_9_method_37_code
def yX10_goodNow : MethodName := ⟨RX10, "goodNow", "(LFluxBenchModel$Track;I)I"⟩
abbrev cX10_goodBy : ByteArray := prog_9_method_38_code
def yX10_goodBy : MethodName := ⟨RX10, "goodBy", "(II)I"⟩
abbrev cX10_add : ByteArray := prog_9_method_39_code
def yX10_add : MethodName := ⟨RX10, "add", "(I)V"⟩
abbrev cX10_digest : ByteArray := prog_9_method_40_code
def yX10_digest : MethodName := ⟨RX10, "digest", "()J"⟩
def RJx145de : String := "java/io/Serializable"
def TJx145de : u_T := fun k => match k with
  | _ => ("", "", "", false)
def tyJx145de : Nat → FieldType := fun k => match k with
  | _ => .int
abbrev wsJx145de0 : List Cond := u_ws RJx145de TJx145de 0
theorem nmJx145de : ∀ a, a < 0 → ∀ b, b < 0 → a ≠ b → (TJx145de a).2.1 ≠ (TJx145de b).2.1 := by decide +kernel
theorem tyJx145de_ok : ∀ k, k < 0 → parseFieldDescriptor (TJx145de k).2.2.1 = some (tyJx145de k) := by decide +kernel
def RJx8e188 : String := "java/lang/Cloneable"
def TJx8e188 : u_T := fun k => match k with
  | _ => ("", "", "", false)
def tyJx8e188 : Nat → FieldType := fun k => match k with
  | _ => .int
abbrev wsJx8e1880 : List Cond := u_ws RJx8e188 TJx8e188 0
theorem nmJx8e188 : ∀ a, a < 0 → ∀ b, b < 0 → a ≠ b → (TJx8e188 a).2.1 ≠ (TJx8e188 b).2.1 := by decide +kernel
theorem tyJx8e188_ok : ∀ k, k < 0 → parseFieldDescriptor (TJx8e188 k).2.2.1 = some (tyJx8e188 k) := by decide +kernel
def RJxb160c : String := "java/lang/Comparable"
def TJxb160c : u_T := fun k => match k with
  | _ => ("", "", "", false)
def tyJxb160c : Nat → FieldType := fun k => match k with
  | _ => .int
abbrev wsJxb160c0 : List Cond := u_ws RJxb160c TJxb160c 0
theorem nmJxb160c : ∀ a, a < 0 → ∀ b, b < 0 → a ≠ b → (TJxb160c a).2.1 ≠ (TJxb160c b).2.1 := by decide +kernel
theorem tyJxb160c_ok : ∀ k, k < 0 → parseFieldDescriptor (TJxb160c k).2.2.1 = some (tyJxb160c k) := by decide +kernel
def RJxe99ae : String := "java/lang/Double"
def TJxe99ae : u_T := fun k => match k with
  | _ => ("", "", "", false)
def tyJxe99ae : Nat → FieldType := fun k => match k with
  | _ => .int
abbrev wsJxe99ae0 : List Cond := u_ws RJxe99ae TJxe99ae 0
theorem nmJxe99ae : ∀ a, a < 0 → ∀ b, b < 0 → a ≠ b → (TJxe99ae a).2.1 ≠ (TJxe99ae b).2.1 := by decide +kernel
theorem tyJxe99ae_ok : ∀ k, k < 0 → parseFieldDescriptor (TJxe99ae k).2.2.1 = some (tyJxe99ae k) := by decide +kernel
def RJxab1ab : String := "java/lang/Iterable"
def TJxab1ab : u_T := fun k => match k with
  | _ => ("", "", "", false)
def tyJxab1ab : Nat → FieldType := fun k => match k with
  | _ => .int
abbrev wsJxab1ab0 : List Cond := u_ws RJxab1ab TJxab1ab 0
theorem nmJxab1ab : ∀ a, a < 0 → ∀ b, b < 0 → a ≠ b → (TJxab1ab a).2.1 ≠ (TJxab1ab b).2.1 := by decide +kernel
theorem tyJxab1ab_ok : ∀ k, k < 0 → parseFieldDescriptor (TJxab1ab k).2.2.1 = some (tyJxab1ab k) := by decide +kernel
def RJ9 : String := "java/lang/Math"
def TJ9 : u_T := fun k => match k with
  | _ => ("", "", "", false)
def tyJ9 : Nat → FieldType := fun k => match k with
  | _ => .int
abbrev wsJ90 : List Cond := u_ws RJ9 TJ9 0
theorem nmJ9 : ∀ a, a < 0 → ∀ b, b < 0 → a ≠ b → (TJ9 a).2.1 ≠ (TJ9 b).2.1 := by decide +kernel
theorem tyJ9_ok : ∀ k, k < 0 → parseFieldDescriptor (TJ9 k).2.2.1 = some (tyJ9 k) := by decide +kernel
abbrev cJ9_rint_294c1 : ByteArray := prog_22_method_18_code
def yJ9_rint_294c1 : MethodName := ⟨RJ9, "rint", "(D)D"⟩
abbrev cJ9_floorMod_7cf53 : ByteArray := prog_22_method_50_code
def yJ9_floorMod_7cf53 : MethodName := ⟨RJ9, "floorMod", "(II)I"⟩
abbrev cJ9_abs_294c1 : ByteArray := prog_22_method_64_code
def yJ9_abs_294c1 : MethodName := ⟨RJ9, "abs", "(D)D"⟩
abbrev cJ9_max_7cf53 : ByteArray := prog_22_method_65_code
def yJ9_max_7cf53 : MethodName := ⟨RJ9, "max", "(II)I"⟩
abbrev cJ9_max_eb370 : ByteArray := prog_22_method_68_code
def yJ9_max_eb370 : MethodName := ⟨RJ9, "max", "(DD)D"⟩
abbrev cJ9_min_7cf53 : ByteArray := prog_22_method_69_code
def yJ9_min_7cf53 : MethodName := ⟨RJ9, "min", "(II)I"⟩
abbrev cJ9_min_eb370 : ByteArray := prog_22_method_72_code
def yJ9_min_eb370 : MethodName := ⟨RJ9, "min", "(DD)D"⟩
abbrev cJ9_copySign_eb370 : ByteArray := prog_22_method_89_code
def yJ9_copySign_eb370 : MethodName := ⟨RJ9, "copySign", "(DD)D"⟩
def RJxd2413 : String := "java/lang/Number"
def TJxd2413 : u_T := fun k => match k with
  | _ => ("", "", "", false)
def tyJxd2413 : Nat → FieldType := fun k => match k with
  | _ => .int
abbrev wsJxd24130 : List Cond := u_ws RJxd2413 TJxd2413 0
theorem nmJxd2413 : ∀ a, a < 0 → ∀ b, b < 0 → a ≠ b → (TJxd2413 a).2.1 ≠ (TJxd2413 b).2.1 := by decide +kernel
theorem tyJxd2413_ok : ∀ k, k < 0 → parseFieldDescriptor (TJxd2413 k).2.2.1 = some (tyJxd2413 k) := by decide +kernel
def RJxfc994 : String := "java/lang/StrictMath"
def TJxfc994 : u_T := fun k => match k with
  | _ => ("", "", "", false)
def tyJxfc994 : Nat → FieldType := fun k => match k with
  | _ => .int
abbrev wsJxfc9940 : List Cond := u_ws RJxfc994 TJxfc994 0
theorem nmJxfc994 : ∀ a, a < 0 → ∀ b, b < 0 → a ≠ b → (TJxfc994 a).2.1 ≠ (TJxfc994 b).2.1 := by decide +kernel
theorem tyJxfc994_ok : ∀ k, k < 0 → parseFieldDescriptor (TJxfc994 k).2.2.1 = some (tyJxfc994 k) := by decide +kernel
abbrev cJxfc994_rint_294c1 : ByteArray := prog_25_method_19_code
def yJxfc994_rint_294c1 : MethodName := ⟨RJxfc994, "rint", "(D)D"⟩
def RJ0 : String := "java/lang/String"
def TJ0 : u_T := fun k => match k with
  | _ => ("", "", "", false)
def tyJ0 : Nat → FieldType := fun k => match k with
  | _ => .int
abbrev wsJ00 : List Cond := u_ws RJ0 TJ0 0
theorem nmJ0 : ∀ a, a < 0 → ∀ b, b < 0 → a ≠ b → (TJ0 a).2.1 ≠ (TJ0 b).2.1 := by decide +kernel
theorem tyJ0_ok : ∀ k, k < 0 → parseFieldDescriptor (TJ0 k).2.2.1 = some (tyJ0 k) := by decide +kernel
def RJ10 : String := "java/lang/System"
def TJ10 : u_T := fun k => match k with
  | _ => ("", "", "", false)
def tyJ10 : Nat → FieldType := fun k => match k with
  | _ => .int
abbrev wsJ100 : List Cond := u_ws RJ10 TJ10 0
theorem nmJ10 : ∀ a, a < 0 → ∀ b, b < 0 → a ≠ b → (TJ10 a).2.1 ≠ (TJ10 b).2.1 := by decide +kernel
theorem tyJ10_ok : ∀ k, k < 0 → parseFieldDescriptor (TJ10 k).2.2.1 = some (tyJ10 k) := by decide +kernel
def RJxfd54e : String := "java/lang/constant/Constable"
def TJxfd54e : u_T := fun k => match k with
  | _ => ("", "", "", false)
def tyJxfd54e : Nat → FieldType := fun k => match k with
  | _ => .int
abbrev wsJxfd54e0 : List Cond := u_ws RJxfd54e TJxfd54e 0
theorem nmJxfd54e : ∀ a, a < 0 → ∀ b, b < 0 → a ≠ b → (TJxfd54e a).2.1 ≠ (TJxfd54e b).2.1 := by decide +kernel
theorem tyJxfd54e_ok : ∀ k, k < 0 → parseFieldDescriptor (TJxfd54e k).2.2.1 = some (tyJxfd54e k) := by decide +kernel
def RJx3cf43 : String := "java/lang/constant/ConstantDesc"
def TJx3cf43 : u_T := fun k => match k with
  | _ => ("", "", "", false)
def tyJx3cf43 : Nat → FieldType := fun k => match k with
  | _ => .int
abbrev wsJx3cf430 : List Cond := u_ws RJx3cf43 TJx3cf43 0
theorem nmJx3cf43 : ∀ a, a < 0 → ∀ b, b < 0 → a ≠ b → (TJx3cf43 a).2.1 ≠ (TJx3cf43 b).2.1 := by decide +kernel
theorem tyJx3cf43_ok : ∀ k, k < 0 → parseFieldDescriptor (TJx3cf43 k).2.2.1 = some (tyJx3cf43 k) := by decide +kernel
def RJxa1e45 : String := "java/util/AbstractCollection"
def TJxa1e45 : u_T := fun k => match k with
  | _ => ("", "", "", false)
def tyJxa1e45 : Nat → FieldType := fun k => match k with
  | _ => .int
abbrev wsJxa1e450 : List Cond := u_ws RJxa1e45 TJxa1e45 0
theorem nmJxa1e45 : ∀ a, a < 0 → ∀ b, b < 0 → a ≠ b → (TJxa1e45 a).2.1 ≠ (TJxa1e45 b).2.1 := by decide +kernel
theorem tyJxa1e45_ok : ∀ k, k < 0 → parseFieldDescriptor (TJxa1e45 k).2.2.1 = some (tyJxa1e45 k) := by decide +kernel
abbrev cJxa1e45_init_da8c8 : ByteArray := prog_31_method_1_code
def yJxa1e45_init_da8c8 : MethodName := ⟨RJxa1e45, "<init>", "()V"⟩
def RJxc12de : String := "java/util/AbstractList"
def TJxc12de : u_T := fun k => match k with
  | _ => ("", "", "", false)
def tyJxc12de : Nat → FieldType := fun k => match k with
  | _ => .int
abbrev wsJxc12de0 : List Cond := u_ws RJxc12de TJxc12de 0
theorem nmJxc12de : ∀ a, a < 0 → ∀ b, b < 0 → a ≠ b → (TJxc12de a).2.1 ≠ (TJxc12de b).2.1 := by decide +kernel
theorem tyJxc12de_ok : ∀ k, k < 0 → parseFieldDescriptor (TJxc12de k).2.2.1 = some (tyJxc12de k) := by decide +kernel
abbrev cJxc12de_init_da8c8 : ByteArray := prog_32_method_1_code
def yJxc12de_init_da8c8 : MethodName := ⟨RJxc12de, "<init>", "()V"⟩
def RJx35411 : String := "java/util/ArrayList$Itr"
def TJx35411 : u_T := fun k => match k with
  | 0 => ("java/util/ArrayList$Itr", "cursor", "I", false)
  | 1 => ("java/util/ArrayList$Itr", "lastRet", "I", false)
  | 2 => ("java/util/ArrayList$Itr", "expectedModCount", "I", false)
  | _ => ("java/util/ArrayList$Itr", "this$0", "Ljava/util/ArrayList;", true)
def tyJx35411 : Nat → FieldType := fun k => match k with
  | 0 => .int
  | 1 => .int
  | 2 => .int
  | _ => .object "java/util/ArrayList"
abbrev wsJx354110 : List Cond := u_ws RJx35411 TJx35411 4
theorem nmJx35411 : ∀ a, a < 4 → ∀ b, b < 4 → a ≠ b → (TJx35411 a).2.1 ≠ (TJx35411 b).2.1 := by decide +kernel
theorem tyJx35411_ok : ∀ k, k < 4 → parseFieldDescriptor (TJx35411 k).2.2.1 = some (tyJx35411 k) := by decide +kernel
abbrev cJx35411_init_45d68 : ByteArray := prog_34_method_1_code
def yJx35411_init_45d68 : MethodName := ⟨RJx35411, "<init>", "(Ljava/util/ArrayList;)V"⟩
abbrev cJx35411_hasNext_aae02 : ByteArray := prog_34_method_2_code
def yJx35411_hasNext_aae02 : MethodName := ⟨RJx35411, "hasNext", "()Z"⟩
abbrev cJx35411_next_0502b : ByteArray := prog_34_method_3_code
def yJx35411_next_0502b : MethodName := ⟨RJx35411, "next", "()Ljava/lang/Object;"⟩
abbrev cJx35411_checkForComodification_da8c8 : ByteArray := prog_34_method_6_code
def yJx35411_checkForComodification_da8c8 : MethodName := ⟨RJx35411, "checkForComodification", "()V"⟩
def RJx4a65c : String := "java/util/ArrayList"
def TJx4a65c : u_T := fun k => match k with
  | 0 => ("java/util/AbstractList", "modCount", "I", false)
  | 1 => ("java/util/ArrayList", "elementData", "[Ljava/lang/Object;", false)
  | _ => ("java/util/ArrayList", "size", "I", false)
def tyJx4a65c : Nat → FieldType := fun k => match k with
  | 0 => .int
  | 1 => .array (.object "java/lang/Object")
  | _ => .int
abbrev wsJx4a65c0 : List Cond := u_ws RJx4a65c TJx4a65c 3
theorem nmJx4a65c : ∀ a, a < 3 → ∀ b, b < 3 → a ≠ b → (TJx4a65c a).2.1 ≠ (TJx4a65c b).2.1 := by decide +kernel
theorem tyJx4a65c_ok : ∀ k, k < 3 → parseFieldDescriptor (TJx4a65c k).2.2.1 = some (tyJx4a65c k) := by decide +kernel
abbrev cJx4a65c_init_da8c8 : ByteArray := prog_33_method_2_code
def yJx4a65c_init_da8c8 : MethodName := ⟨RJx4a65c, "<init>", "()V"⟩
abbrev cJx4a65c_grow_92f84 : ByteArray := prog_33_method_6_code
def yJx4a65c_grow_92f84 : MethodName := ⟨RJx4a65c, "grow", "(I)[Ljava/lang/Object;"⟩
abbrev cJx4a65c_grow_d5877 : ByteArray := prog_33_method_7_code
def yJx4a65c_grow_d5877 : MethodName := ⟨RJx4a65c, "grow", "()[Ljava/lang/Object;"⟩
abbrev cJx4a65c_size_8abf5 : ByteArray := prog_33_method_8_code
def yJx4a65c_size_8abf5 : MethodName := ⟨RJx4a65c, "size", "()I"⟩
abbrev cJx4a65c_isEmpty_aae02 : ByteArray := prog_33_method_9_code
def yJx4a65c_isEmpty_aae02 : MethodName := ⟨RJx4a65c, "isEmpty", "()Z"⟩
abbrev cJx4a65c_elementData_915e3 : ByteArray := prog_33_method_18_code
def yJx4a65c_elementData_915e3 : MethodName := ⟨RJx4a65c, "elementData", "(I)Ljava/lang/Object;"⟩
abbrev cJx4a65c_get_915e3 : ByteArray := prog_33_method_20_code
def yJx4a65c_get_915e3 : MethodName := ⟨RJx4a65c, "get", "(I)Ljava/lang/Object;"⟩
abbrev cJx4a65c_add_72be8 : ByteArray := prog_33_method_24_code
def yJx4a65c_add_72be8 : MethodName := ⟨RJx4a65c, "add", "(Ljava/lang/Object;[Ljava/lang/Object;I)V"⟩
abbrev cJx4a65c_add_9ea2d : ByteArray := prog_33_method_25_code
def yJx4a65c_add_9ea2d : MethodName := ⟨RJx4a65c, "add", "(Ljava/lang/Object;)Z"⟩
abbrev cJx4a65c_remove_915e3 : ByteArray := prog_33_method_29_code
def yJx4a65c_remove_915e3 : MethodName := ⟨RJx4a65c, "remove", "(I)Ljava/lang/Object;"⟩
abbrev cJx4a65c_fastRemove_b59b0 : ByteArray := prog_33_method_39_code
def yJx4a65c_fastRemove_b59b0 : MethodName := ⟨RJx4a65c, "fastRemove", "([Ljava/lang/Object;I)V"⟩
abbrev cJx4a65c_clear_da8c8 : ByteArray := prog_33_method_40_code
def yJx4a65c_clear_da8c8 : MethodName := ⟨RJx4a65c, "clear", "()V"⟩
abbrev cJx4a65c_iterator_32c93 : ByteArray := prog_33_method_55_code
def yJx4a65c_iterator_32c93 : MethodName := ⟨RJx4a65c, "iterator", "()Ljava/util/Iterator;"⟩
def RJ7 : String := "java/util/Arrays"
def TJ7 : u_T := fun k => match k with
  | _ => ("", "", "", false)
def tyJ7 : Nat → FieldType := fun k => match k with
  | _ => .int
abbrev wsJ70 : List Cond := u_ws RJ7 TJ7 0
theorem nmJ7 : ∀ a, a < 0 → ∀ b, b < 0 → a ≠ b → (TJ7 a).2.1 ≠ (TJ7 b).2.1 := by decide +kernel
theorem tyJ7_ok : ∀ k, k < 0 → parseFieldDescriptor (TJ7 k).2.2.1 = some (tyJ7 k) := by decide +kernel
abbrev cJ7_copyOf_1904c : ByteArray := prog_35_method_119_code
def yJ7_copyOf_1904c : MethodName := ⟨RJ7, "copyOf", "([Ljava/lang/Object;I)[Ljava/lang/Object;"⟩
abbrev cJ7_copyOf_6403c : ByteArray := prog_35_method_120_code
def yJ7_copyOf_6403c : MethodName := ⟨RJ7, "copyOf", "([Ljava/lang/Object;ILjava/lang/Class;)[Ljava/lang/Object;"⟩
def RJx5ef63 : String := "java/util/Collection"
def TJx5ef63 : u_T := fun k => match k with
  | _ => ("", "", "", false)
def tyJx5ef63 : Nat → FieldType := fun k => match k with
  | _ => .int
abbrev wsJx5ef630 : List Cond := u_ws RJx5ef63 TJx5ef63 0
theorem nmJx5ef63 : ∀ a, a < 0 → ∀ b, b < 0 → a ≠ b → (TJx5ef63 a).2.1 ≠ (TJx5ef63 b).2.1 := by decide +kernel
theorem tyJx5ef63_ok : ∀ k, k < 0 → parseFieldDescriptor (TJx5ef63 k).2.2.1 = some (tyJx5ef63 k) := by decide +kernel
def RJx4d0d8 : String := "java/util/Iterator"
def TJx4d0d8 : u_T := fun k => match k with
  | _ => ("", "", "", false)
def tyJx4d0d8 : Nat → FieldType := fun k => match k with
  | _ => .int
abbrev wsJx4d0d80 : List Cond := u_ws RJx4d0d8 TJx4d0d8 0
theorem nmJx4d0d8 : ∀ a, a < 0 → ∀ b, b < 0 → a ≠ b → (TJx4d0d8 a).2.1 ≠ (TJx4d0d8 b).2.1 := by decide +kernel
theorem tyJx4d0d8_ok : ∀ k, k < 0 → parseFieldDescriptor (TJx4d0d8 k).2.2.1 = some (tyJx4d0d8 k) := by decide +kernel
def RJxbd725 : String := "java/util/List"
def TJxbd725 : u_T := fun k => match k with
  | _ => ("", "", "", false)
def tyJxbd725 : Nat → FieldType := fun k => match k with
  | _ => .int
abbrev wsJxbd7250 : List Cond := u_ws RJxbd725 TJxbd725 0
theorem nmJxbd725 : ∀ a, a < 0 → ∀ b, b < 0 → a ≠ b → (TJxbd725 a).2.1 ≠ (TJxbd725 b).2.1 := by decide +kernel
theorem tyJxbd725_ok : ∀ k, k < 0 → parseFieldDescriptor (TJxbd725 k).2.2.1 = some (tyJxbd725 k) := by decide +kernel
def RJ15 : String := "java/util/Objects"
def TJ15 : u_T := fun k => match k with
  | _ => ("", "", "", false)
def tyJ15 : Nat → FieldType := fun k => match k with
  | _ => .int
abbrev wsJ150 : List Cond := u_ws RJ15 TJ15 0
theorem nmJ15 : ∀ a, a < 0 → ∀ b, b < 0 → a ≠ b → (TJ15 a).2.1 ≠ (TJ15 b).2.1 := by decide +kernel
theorem tyJ15_ok : ∀ k, k < 0 → parseFieldDescriptor (TJ15 k).2.2.1 = some (tyJ15 k) := by decide +kernel
abbrev cJ15_checkIndex_7cf53 : ByteArray := prog_39_method_17_code
def yJ15_checkIndex_7cf53 : MethodName := ⟨RJ15, "checkIndex", "(II)I"⟩
def RJxf0a74 : String := "java/util/RandomAccess"
def TJxf0a74 : u_T := fun k => match k with
  | _ => ("", "", "", false)
def tyJxf0a74 : Nat → FieldType := fun k => match k with
  | _ => .int
abbrev wsJxf0a740 : List Cond := u_ws RJxf0a74 TJxf0a74 0
theorem nmJxf0a74 : ∀ a, a < 0 → ∀ b, b < 0 → a ≠ b → (TJxf0a74 a).2.1 ≠ (TJxf0a74 b).2.1 := by decide +kernel
theorem tyJxf0a74_ok : ∀ k, k < 0 → parseFieldDescriptor (TJxf0a74 k).2.2.1 = some (tyJxf0a74 k) := by decide +kernel
def RJxa66e6 : String := "java/util/SequencedCollection"
def TJxa66e6 : u_T := fun k => match k with
  | _ => ("", "", "", false)
def tyJxa66e6 : Nat → FieldType := fun k => match k with
  | _ => .int
abbrev wsJxa66e60 : List Cond := u_ws RJxa66e6 TJxa66e6 0
theorem nmJxa66e6 : ∀ a, a < 0 → ∀ b, b < 0 → a ≠ b → (TJxa66e6 a).2.1 ≠ (TJxa66e6 b).2.1 := by decide +kernel
theorem tyJxa66e6_ok : ∀ k, k < 0 → parseFieldDescriptor (TJxa66e6 k).2.2.1 = some (tyJxa66e6 k) := by decide +kernel
def RJ8 : String := "jdk/internal/util/ArraysSupport"
def TJ8 : u_T := fun k => match k with
  | _ => ("", "", "", false)
def tyJ8 : Nat → FieldType := fun k => match k with
  | _ => .int
abbrev wsJ80 : List Cond := u_ws RJ8 TJ8 0
theorem nmJ8 : ∀ a, a < 0 → ∀ b, b < 0 → a ≠ b → (TJ8 a).2.1 ≠ (TJ8 b).2.1 := by decide +kernel
theorem tyJ8_ok : ∀ k, k < 0 → parseFieldDescriptor (TJ8 k).2.2.1 = some (tyJ8 k) := by decide +kernel
abbrev cJ8_newLength_cabcc : ByteArray := prog_42_method_27_code
def yJ8_newLength_cabcc : MethodName := ⟨RJ8, "newLength", "(III)I"⟩
abbrev cJ8_hugeLength_7cf53 : ByteArray := prog_42_method_28_code
def yJ8_hugeLength_7cf53 : MethodName := ⟨RJ8, "hugeLength", "(II)I"⟩
def RJ3 : String := "jdk/internal/util/Preconditions"
def TJ3 : u_T := fun k => match k with
  | _ => ("", "", "", false)
def tyJ3 : Nat → FieldType := fun k => match k with
  | _ => .int
abbrev wsJ30 : List Cond := u_ws RJ3 TJ3 0
theorem nmJ3 : ∀ a, a < 0 → ∀ b, b < 0 → a ≠ b → (TJ3 a).2.1 ≠ (TJ3 b).2.1 := by decide +kernel
theorem tyJ3_ok : ∀ k, k < 0 → parseFieldDescriptor (TJ3 k).2.2.1 = some (tyJ3 k) := by decide +kernel
abbrev cJ3_checkIndex_8e157 : ByteArray := prog_43_method_11_code
def yJ3_checkIndex_8e157 : MethodName := ⟨RJ3, "checkIndex", "(IILjava/util/function/BiFunction;)I"⟩
def RL : String := "FluxBenchLaw"
abbrev cL_track : ByteArray := method_3_code
def yL_track : MethodName := ⟨RL, "track", "(LFluxBench;I[J)I"⟩
abbrev cL_speed : ByteArray := method_4_code
def yL_speed : MethodName := ⟨RL, "speed", "(LFluxBench;I[J)I"⟩
abbrev cL_write : ByteArray := method_5_code
def yL_write : MethodName := ⟨RL, "write", "(LFluxBench;II[J)I"⟩
abbrev cL_mark : ByteArray := method_6_code
def yL_mark : MethodName := ⟨RL, "mark", "(LFluxBench;I[J)I"⟩
abbrev cL_sector : ByteArray := method_7_code
def yL_sector : MethodName := ⟨RL, "sector", "(LFluxBench;IIIIZ[J)I"⟩
abbrev cL_weak : ByteArray := method_8_code
def yL_weak : MethodName := ⟨RL, "weak", "(LFluxBench;IIZ[J)I"⟩
abbrev cL_dirt : ByteArray := method_9_code
def yL_dirt : MethodName := ⟨RL, "dirt", "(LFluxBench;III[J)I"⟩
abbrev cL_clean : ByteArray := method_10_code
def yL_clean : MethodName := ⟨RL, "clean", "(LFluxBench;I[J)I"⟩
abbrev cL_read : ByteArray := method_11_code
def yL_read : MethodName := ⟨RL, "read", "(LFluxBench;I[J)I"⟩
abbrev cL_copy : ByteArray := method_12_code
def yL_copy : MethodName := ⟨RL, "copy", "(LFluxBench;IIZ[J)I"⟩
abbrev cL_ofCell : ByteArray := method_13_code
def yL_ofCell : MethodName := ⟨RL, "ofCell", "(LFluxBench;III[J)I"⟩
abbrev cL_ofTrack : ByteArray := method_14_code
def yL_ofTrack : MethodName := ⟨RL, "ofTrack", "(LFluxBench;II[J)I"⟩
abbrev cL_vote : ByteArray := method_15_code
def yL_vote : MethodName := ⟨RL, "vote", "(LFluxBench;II[J)I"⟩
abbrev cL_turn : ByteArray := method_16_code
def yL_turn : MethodName := ⟨RL, "turn", "(LFluxBench;IIZ[J)I"⟩
abbrev cL_period : ByteArray := method_17_code
def yL_period : MethodName := ⟨RL, "period", "(LFluxBench;II[D)I"⟩
abbrev cL_ofSector : ByteArray := method_18_code
def yL_ofSector : MethodName := ⟨RL, "ofSector", "(LFluxBench;III[J)I"⟩
abbrev cL_chain : ByteArray := method_19_code
def yL_chain : MethodName := ⟨RL, "chain", "(LFluxBench;II[J)I"⟩
abbrev cL_many : ByteArray := method_20_code
def yL_many : MethodName := ⟨RL, "many", "(LFluxBench;I[J)I"⟩
abbrev cL_sure : ByteArray := method_21_code
def yL_sure : MethodName := ⟨RL, "sure", "(LFluxBench;I[D)I"⟩
abbrev cL_plainLong : ByteArray := method_22_code
def yL_plainLong : MethodName := ⟨RL, "plainLong", "(LFluxBench;I[J)I"⟩
abbrev cL_wouldLose : ByteArray := method_23_code
def yL_wouldLose : MethodName := ⟨RL, "wouldLose", "(LFluxBench;I[J)I"⟩
abbrev cL_goodBy : ByteArray := method_24_code
def yL_goodBy : MethodName := ⟨RL, "goodBy", "(LFluxBench;II[J)I"⟩
abbrev cL_law : ByteArray := code
def yL_law : MethodName := ⟨RL, "law", "([I)Z"⟩
