def RX0 : String := "BeamSetter$Group"
def TX0 : u_T := fun k => match k with
  | 0 => ("BeamSetter$Group", "size", "I", false)
  | 1 => ("BeamSetter$Group", "last", "I", false)
  | 2 => ("BeamSetter$Group", "span", "I", false)
  | 3 => ("BeamSetter$Group", "wanted", "I", false)
  | 4 => ("BeamSetter$Group", "kneed", "Z", false)
  | 5 => ("BeamSetter$Group", "xs", "[I", true)
  | 6 => ("BeamSetter$Group", "heads", "[I", true)
  | 7 => ("BeamSetter$Group", "beams", "[I", true)
  | 8 => ("BeamSetter$Group", "ways", "[I", true)
  | 9 => ("BeamSetter$Group", "ideals", "[I", true)
  | 10 => ("BeamSetter$Group", "keys", "[J", true)
  | 11 => ("BeamSetter$Group", "keyCount", "I", false)
  | 12 => ("BeamSetter$Group", "taken", "[Z", true)
  | 13 => ("BeamSetter$Group", "bases", "[I", true)
  | 14 => ("BeamSetter$Group", "baseSum", "I", false)
  | 15 => ("BeamSetter$Group", "waySum", "I", false)
  | 16 => ("BeamSetter$Group", "low", "I", false)
  | _ => ("BeamSetter$Group", "high", "I", false)
def tyX0 : Nat → FieldType := fun k => match k with
  | 0 => .int
  | 1 => .int
  | 2 => .int
  | 3 => .int
  | 4 => .boolean
  | 5 => .array .int
  | 6 => .array .int
  | 7 => .array .int
  | 8 => .array .int
  | 9 => .array .int
  | 10 => .array .long
  | 11 => .int
  | 12 => .array .boolean
  | 13 => .array .int
  | 14 => .int
  | 15 => .int
  | 16 => .int
  | _ => .int
abbrev wsX00 : List Cond := u_ws RX0 TX0 18
theorem nmX0 : ∀ a, a < 18 → ∀ b, b < 18 → a ≠ b → (TX0 a).2.1 ≠ (TX0 b).2.1 := by decide +kernel
theorem tyX0_ok : ∀ k, k < 18 → parseFieldDescriptor (TX0 k).2.2.1 = some (tyX0 k) := by decide +kernel
abbrev cX0_init : ByteArray := prog_2_method_1_code
def yX0_init : MethodName := ⟨RX0, "<init>", "()V"⟩
abbrev cX0_load : ByteArray := prog_2_method_2_code
def yX0_load : MethodName := ⟨RX0, "load", "(LBeamSetter$Piece;[IIII)V"⟩
abbrev cX0_decideWays : ByteArray := prog_2_method_3_code
def yX0_decideWays : MethodName := ⟨RX0, "decideWays", "(I)V"⟩
abbrev cX0_lowerSideOfKnee : ByteArray := prog_2_method_4_code
def yX0_lowerSideOfKnee : MethodName := ⟨RX0, "lowerSideOfKnee", "(I)I"⟩
abbrev cX0_markTaken : ByteArray := prog_2_method_5_code
def yX0_markTaken : MethodName := ⟨RX0, "markTaken", "()V"⟩
abbrev cX0_commonWay : ByteArray := prog_2_method_6_code
def yX0_commonWay : MethodName := ⟨RX0, "commonWay", "()I"⟩
abbrev cX0_decideWant : ByteArray := prog_2_method_7_code
def yX0_decideWant : MethodName := ⟨RX0, "decideWant", "()V"⟩
abbrev cX0_idealLength : ByteArray := prog_2_method_8_code
def yX0_idealLength : MethodName := ⟨RX0, "idealLength", "(III)I"⟩
abbrev cX0_shortestLength : ByteArray := prog_2_method_9_code
def yX0_shortestLength : MethodName := ⟨RX0, "shortestLength", "(I)I"⟩
abbrev cX0_isSetting : ByteArray := prog_2_method_10_code
def yX0_isSetting : MethodName := ⟨RX0, "isSetting", "(II)Z"⟩
abbrev cX0_tilt : ByteArray := prog_2_method_11_code
def yX0_tilt : MethodName := ⟨RX0, "tilt", "(I)V"⟩
abbrev cX0_allows : ByteArray := prog_2_method_12_code
def yX0_allows : MethodName := ⟨RX0, "allows", "(II)Z"⟩
abbrev cX0_stemsAt : ByteArray := prog_2_method_13_code
def yX0_stemsAt : MethodName := ⟨RX0, "stemsAt", "(I)I"⟩
abbrev cX0_slopeOf : ByteArray := prog_2_method_14_code
def yX0_slopeOf : MethodName := ⟨RX0, "slopeOf", "(I)I"⟩
abbrev cX0_staffAt : ByteArray := prog_2_method_15_code
def yX0_staffAt : MethodName := ⟨RX0, "staffAt", "(II)I"⟩
abbrev cX0_staffAtEnd : ByteArray := prog_2_method_16_code
def yX0_staffAtEnd : MethodName := ⟨RX0, "staffAtEnd", "(III)I"⟩
abbrev cX0_touchCost : ByteArray := prog_2_method_17_code
def yX0_touchCost : MethodName := ⟨RX0, "touchCost", "(II)I"⟩
abbrev cX0_mostBeams : ByteArray := prog_2_method_21_code
def yX0_mostBeams : MethodName := ⟨RX0, "mostBeams", "()I"⟩
abbrev cX0_howManyUp : ByteArray := prog_2_method_22_code
def yX0_howManyUp : MethodName := ⟨RX0, "howManyUp", "()I"⟩
abbrev cX0_keyAt : ByteArray := prog_2_method_23_code
def yX0_keyAt : MethodName := ⟨RX0, "keyAt", "(III)J"⟩
abbrev cX0_keyOfSetting : ByteArray := prog_2_method_24_code
def yX0_keyOfSetting : MethodName := ⟨RX0, "keyOfSetting", "(II)J"⟩
abbrev cX0_uglinessOf : ByteArray := prog_2_method_25_code
def yX0_uglinessOf : MethodName := ⟨RX0, "uglinessOf", "(J)I"⟩
abbrev cX0_heightIn : ByteArray := prog_2_method_26_code
def yX0_heightIn : MethodName := ⟨RX0, "heightIn", "(J)I"⟩
abbrev cX0_leftOf : ByteArray := prog_2_method_27_code
def yX0_leftOf : MethodName := ⟨RX0, "leftOf", "(J)I"⟩
abbrev cX0_rightOf : ByteArray := prog_2_method_28_code
def yX0_rightOf : MethodName := ⟨RX0, "rightOf", "(J)I"⟩
abbrev cX0_tell : ByteArray := prog_2_method_29_code
def yX0_tell : MethodName := ⟨RX0, "tell", "(JI)I"⟩
abbrev cX0_tellSetting : ByteArray := prog_2_method_30_code
def yX0_tellSetting : MethodName := ⟨RX0, "tellSetting", "(III)I"⟩
abbrev cX0_findBest : ByteArray := prog_2_method_33_code
def yX0_findBest : MethodName := ⟨RX0, "findBest", "()J"⟩
abbrev cX0_bestSloping : ByteArray := prog_2_method_35_code
def yX0_bestSloping : MethodName := ⟨RX0, "bestSloping", "(IJ)J"⟩
abbrev cX0_gather : ByteArray := prog_2_method_36_code
def yX0_gather : MethodName := ⟨RX0, "gather", "()I"⟩
abbrev cX0_rankOf : ByteArray := prog_2_method_37_code
def yX0_rankOf : MethodName := ⟨RX0, "rankOf", "(J)I"⟩
abbrev cX0_sortKeys : ByteArray := prog_2_method_38_code
def yX0_sortKeys : MethodName := ⟨RX0, "sortKeys", "()V"⟩
def RX1 : String := "BeamSetter$History"
def TX1 : u_T := fun k => match k with
  | 0 => ("BeamSetter$History", "who", "[I", true)
  | 1 => ("BeamSetter$History", "where", "[I", true)
  | _ => ("BeamSetter$History", "size", "I", false)
def tyX1 : Nat → FieldType := fun k => match k with
  | 0 => .array .int
  | 1 => .array .int
  | _ => .int
abbrev wsX10 : List Cond := u_ws RX1 TX1 3
theorem nmX1 : ∀ a, a < 3 → ∀ b, b < 3 → a ≠ b → (TX1 a).2.1 ≠ (TX1 b).2.1 := by decide +kernel
theorem tyX1_ok : ∀ k, k < 3 → parseFieldDescriptor (TX1 k).2.2.1 = some (tyX1 k) := by decide +kernel
abbrev cX1_init : ByteArray := prog_3_method_1_code
def yX1_init : MethodName := ⟨RX1, "<init>", "()V"⟩
abbrev cX1_remember : ByteArray := prog_3_method_2_code
def yX1_remember : MethodName := ⟨RX1, "remember", "(II)V"⟩
abbrev cX1_latestElement : ByteArray := prog_3_method_3_code
def yX1_latestElement : MethodName := ⟨RX1, "latestElement", "()I"⟩
abbrev cX1_latestPosition : ByteArray := prog_3_method_4_code
def yX1_latestPosition : MethodName := ⟨RX1, "latestPosition", "()I"⟩
abbrev cX1_forgetLatest : ByteArray := prog_3_method_5_code
def yX1_forgetLatest : MethodName := ⟨RX1, "forgetLatest", "()V"⟩
def RX2 : String := "BeamSetter$Piece"
def TX2 : u_T := fun k => match k with
  | 0 => ("BeamSetter$Piece", "lines", "I", false)
  | 1 => ("BeamSetter$Piece", "beats", "I", false)
  | 2 => ("BeamSetter$Piece", "unit", "I", false)
  | 3 => ("BeamSetter$Piece", "knee", "I", false)
  | 4 => ("BeamSetter$Piece", "partCount", "I", false)
  | 5 => ("BeamSetter$Piece", "parts", "[I", true)
  | 6 => ("BeamSetter$Piece", "widths", "[I", true)
  | 7 => ("BeamSetter$Piece", "size", "I", false)
  | 8 => ("BeamSetter$Piece", "kinds", "[I", true)
  | 9 => ("BeamSetter$Piece", "sounds", "[Z", true)
  | 10 => ("BeamSetter$Piece", "heads", "[I", true)
  | 11 => ("BeamSetter$Piece", "times", "[I", true)
  | 12 => ("BeamSetter$Piece", "xs", "[I", true)
  | 13 => ("BeamSetter$Piece", "groupOf", "[I", true)
  | 14 => ("BeamSetter$Piece", "groups", "I", false)
  | 15 => ("BeamSetter$Piece", "firsts", "[I", true)
  | _ => ("BeamSetter$Piece", "lengths", "[I", true)
def tyX2 : Nat → FieldType := fun k => match k with
  | 0 => .int
  | 1 => .int
  | 2 => .int
  | 3 => .int
  | 4 => .int
  | 5 => .array .int
  | 6 => .array .int
  | 7 => .int
  | 8 => .array .int
  | 9 => .array .boolean
  | 10 => .array .int
  | 11 => .array .int
  | 12 => .array .int
  | 13 => .array .int
  | 14 => .int
  | 15 => .array .int
  | _ => .array .int
abbrev wsX20 : List Cond := u_ws RX2 TX2 17
theorem nmX2 : ∀ a, a < 17 → ∀ b, b < 17 → a ≠ b → (TX2 a).2.1 ≠ (TX2 b).2.1 := by decide +kernel
theorem tyX2_ok : ∀ k, k < 17 → parseFieldDescriptor (TX2 k).2.2.1 = some (tyX2 k) := by decide +kernel
abbrev cX2_init : ByteArray := prog_4_method_1_code
def yX2_init : MethodName := ⟨RX2, "<init>", "()V"⟩
abbrev cX2_clear : ByteArray := prog_4_method_2_code
def yX2_clear : MethodName := ⟨RX2, "clear", "()V"⟩
abbrev cX2_setMetre : ByteArray := prog_4_method_3_code
def yX2_setMetre : MethodName := ⟨RX2, "setMetre", "(II)V"⟩
abbrev cX2_isKind : ByteArray := prog_4_method_4_code
def yX2_isKind : MethodName := ⟨RX2, "isKind", "(I)Z"⟩
abbrev cX2_beamsOfKind : ByteArray := prog_4_method_5_code
def yX2_beamsOfKind : MethodName := ⟨RX2, "beamsOfKind", "(I)I"⟩
abbrev cX2_longOfKind : ByteArray := prog_4_method_6_code
def yX2_longOfKind : MethodName := ⟨RX2, "longOfKind", "(I)I"⟩
abbrev cX2_beatLong : ByteArray := prog_4_method_7_code
def yX2_beatLong : MethodName := ⟨RX2, "beatLong", "()I"⟩
abbrev cX2_measureLong : ByteArray := prog_4_method_8_code
def yX2_measureLong : MethodName := ⟨RX2, "measureLong", "()I"⟩
abbrev cX2_timeOfNext : ByteArray := prog_4_method_9_code
def yX2_timeOfNext : MethodName := ⟨RX2, "timeOfNext", "()I"⟩
abbrev cX2_xOfNext : ByteArray := prog_4_method_10_code
def yX2_xOfNext : MethodName := ⟨RX2, "xOfNext", "()I"⟩
abbrev cX2_fits : ByteArray := prog_4_method_11_code
def yX2_fits : MethodName := ⟨RX2, "fits", "(I)Z"⟩
abbrev cX2_add : ByteArray := prog_4_method_12_code
def yX2_add : MethodName := ⟨RX2, "add", "(ZII)V"⟩
abbrev cX2_timeWithin : ByteArray := prog_4_method_13_code
def yX2_timeWithin : MethodName := ⟨RX2, "timeWithin", "(I)I"⟩
abbrev cX2_measureOf : ByteArray := prog_4_method_14_code
def yX2_measureOf : MethodName := ⟨RX2, "measureOf", "(I)I"⟩
abbrev cX2_partOf : ByteArray := prog_4_method_15_code
def yX2_partOf : MethodName := ⟨RX2, "partOf", "(II)I"⟩
abbrev cX2_beamsOf : ByteArray := prog_4_method_16_code
def yX2_beamsOf : MethodName := ⟨RX2, "beamsOf", "(I)I"⟩
abbrev cX2_runFrom : ByteArray := prog_4_method_17_code
def yX2_runFrom : MethodName := ⟨RX2, "runFrom", "(II)I"⟩
abbrev cX2_findGroups : ByteArray := prog_4_method_19_code
def yX2_findGroups : MethodName := ⟨RX2, "findGroups", "()V"⟩
abbrev cX2_countNotes : ByteArray := prog_4_method_28_code
def yX2_countNotes : MethodName := ⟨RX2, "countNotes", "()I"⟩
abbrev cX2_countMeasures : ByteArray := prog_4_method_29_code
def yX2_countMeasures : MethodName := ⟨RX2, "countMeasures", "()I"⟩
def RX3 : String := "BeamSetter$Reader"
def TX3 : u_T := fun k => match k with
  | 0 => ("BeamSetter$Reader", "fault", "I", false)
  | 1 => ("BeamSetter$Reader", "place", "I", false)
  | 2 => ("BeamSetter$Reader", "bytes", "[I", true)
  | 3 => ("BeamSetter$Reader", "length", "I", false)
  | 4 => ("BeamSetter$Reader", "at", "I", false)
  | 5 => ("BeamSetter$Reader", "value", "I", false)
  | 6 => ("BeamSetter$Reader", "start", "I", false)
  | 7 => ("BeamSetter$Reader", "piece", "LBeamSetter$Piece;", false)
  | 8 => ("BeamSetter$Reader", "told", "[Z", true)
  | _ => ("BeamSetter$Reader", "toldWide", "[Z", true)
def tyX3 : Nat → FieldType := fun k => match k with
  | 0 => .int
  | 1 => .int
  | 2 => .array .int
  | 3 => .int
  | 4 => .int
  | 5 => .int
  | 6 => .int
  | 7 => .object "BeamSetter$Piece"
  | 8 => .array .boolean
  | _ => .array .boolean
abbrev wsX30 : List Cond := u_ws RX3 TX3 10
theorem nmX3 : ∀ a, a < 10 → ∀ b, b < 10 → a ≠ b → (TX3 a).2.1 ≠ (TX3 b).2.1 := by decide +kernel
theorem tyX3_ok : ∀ k, k < 10 → parseFieldDescriptor (TX3 k).2.2.1 = some (tyX3 k) := by decide +kernel
abbrev cX3_init : ByteArray := prog_5_method_1_code
def yX3_init : MethodName := ⟨RX3, "<init>", "([ILBeamSetter$Piece;)V"⟩
abbrev cX3_read : ByteArray := prog_5_method_2_code
def yX3_read : MethodName := ⟨RX3, "read", "(ILBeamSetter$Piece;)Z"⟩
abbrev cX3_forgetTold : ByteArray := prog_5_method_3_code
def yX3_forgetTold : MethodName := ⟨RX3, "forgetTold", "()V"⟩
abbrev cX3_fail : ByteArray := prog_5_method_4_code
def yX3_fail : MethodName := ⟨RX3, "fail", "(II)Z"⟩
abbrev cX3_here : ByteArray := prog_5_method_5_code
def yX3_here : MethodName := ⟨RX3, "here", "()I"⟩
abbrev cX3_isDigitHere : ByteArray := prog_5_method_6_code
def yX3_isDigitHere : MethodName := ⟨RX3, "isDigitHere", "()Z"⟩
abbrev cX3_isLetterHere : ByteArray := prog_5_method_7_code
def yX3_isLetterHere : MethodName := ⟨RX3, "isLetterHere", "()Z"⟩
abbrev cX3_skipBlanks : ByteArray := prog_5_method_8_code
def yX3_skipBlanks : MethodName := ⟨RX3, "skipBlanks", "()V"⟩
abbrev cX3_readLine : ByteArray := prog_5_method_9_code
def yX3_readLine : MethodName := ⟨RX3, "readLine", "()Z"⟩
abbrev cX3_isTooLate : ByteArray := prog_5_method_10_code
def yX3_isTooLate : MethodName := ⟨RX3, "isTooLate", "(I)Z"⟩
abbrev cX3_takeWord : ByteArray := prog_5_method_11_code
def yX3_takeWord : MethodName := ⟨RX3, "takeWord", "()I"⟩
abbrev cX3_spells : ByteArray := prog_5_method_12_code
def yX3_spells : MethodName := ⟨RX3, "spells", "(ILjava/lang/String;)Z"⟩
abbrev cX3_takeEnd : ByteArray := prog_5_method_13_code
def yX3_takeEnd : MethodName := ⟨RX3, "takeEnd", "()Z"⟩
abbrev cX3_takeNumber : ByteArray := prog_5_method_14_code
def yX3_takeNumber : MethodName := ⟨RX3, "takeNumber", "()Z"⟩
abbrev cX3_takeNumberWithin : ByteArray := prog_5_method_15_code
def yX3_takeNumberWithin : MethodName := ⟨RX3, "takeNumberWithin", "(II)Z"⟩
abbrev cX3_takeKind : ByteArray := prog_5_method_16_code
def yX3_takeKind : MethodName := ⟨RX3, "takeKind", "()Z"⟩
abbrev cX3_takePosition : ByteArray := prog_5_method_17_code
def yX3_takePosition : MethodName := ⟨RX3, "takePosition", "()Z"⟩
abbrev cX3_readMetre : ByteArray := prog_5_method_18_code
def yX3_readMetre : MethodName := ⟨RX3, "readMetre", "()Z"⟩
abbrev cX3_readSplit : ByteArray := prog_5_method_19_code
def yX3_readSplit : MethodName := ⟨RX3, "readSplit", "()Z"⟩
abbrev cX3_readKnee : ByteArray := prog_5_method_20_code
def yX3_readKnee : MethodName := ⟨RX3, "readKnee", "()Z"⟩
abbrev cX3_readWide : ByteArray := prog_5_method_21_code
def yX3_readWide : MethodName := ⟨RX3, "readWide", "()Z"⟩
abbrev cX3_readElement : ByteArray := prog_5_method_22_code
def yX3_readElement : MethodName := ⟨RX3, "readElement", "(Z)Z"⟩
def RX4 : String := "BeamSetter$Smoother"
def TX4 : u_T := fun k => match k with
  | 0 => ("BeamSetter$Smoother", "together", "I", false)
  | 1 => ("BeamSetter$Smoother", "behind", "[I", true)
  | _ => ("BeamSetter$Smoother", "byLeft", "[I", true)
def tyX4 : Nat → FieldType := fun k => match k with
  | 0 => .int
  | 1 => .array .int
  | _ => .array .int
abbrev wsX40 : List Cond := u_ws RX4 TX4 3
theorem nmX4 : ∀ a, a < 3 → ∀ b, b < 3 → a ≠ b → (TX4 a).2.1 ≠ (TX4 b).2.1 := by decide +kernel
theorem tyX4_ok : ∀ k, k < 3 → parseFieldDescriptor (TX4 k).2.2.1 = some (tyX4 k) := by decide +kernel
abbrev cX4_init : ByteArray := prog_6_method_1_code
def yX4_init : MethodName := ⟨RX4, "<init>", "()V"⟩
def RX5 : String := "BeamSetter$Tape"
def TX5 : u_T := fun k => match k with
  | 0 => ("BeamSetter$Tape", "bytes", "[I", true)
  | _ => ("BeamSetter$Tape", "size", "I", false)
def tyX5 : Nat → FieldType := fun k => match k with
  | 0 => .array .int
  | _ => .int
abbrev wsX50 : List Cond := u_ws RX5 TX5 2
theorem nmX5 : ∀ a, a < 2 → ∀ b, b < 2 → a ≠ b → (TX5 a).2.1 ≠ (TX5 b).2.1 := by decide +kernel
theorem tyX5_ok : ∀ k, k < 2 → parseFieldDescriptor (TX5 k).2.2.1 = some (tyX5 k) := by decide +kernel
abbrev cX5_init : ByteArray := prog_7_method_1_code
def yX5_init : MethodName := ⟨RX5, "<init>", "()V"⟩
abbrev cX5_hasRoomFor : ByteArray := prog_7_method_2_code
def yX5_hasRoomFor : MethodName := ⟨RX5, "hasRoomFor", "(I)Z"⟩
abbrev cX5_append : ByteArray := prog_7_method_3_code
def yX5_append : MethodName := ⟨RX5, "append", "(I)V"⟩
def RX6 : String := "BeamSetter$Totals"
def TX6 : u_T := fun k => match k with
  | 0 => ("BeamSetter$Totals", "ugliness", "I", false)
  | 1 => ("BeamSetter$Totals", "aside", "I", false)
  | 2 => ("BeamSetter$Totals", "worst", "I", false)
  | _ => ("BeamSetter$Totals", "kneed", "I", false)
def tyX6 : Nat → FieldType := fun k => match k with
  | 0 => .int
  | 1 => .int
  | 2 => .int
  | _ => .int
abbrev wsX60 : List Cond := u_ws RX6 TX6 4
theorem nmX6 : ∀ a, a < 4 → ∀ b, b < 4 → a ≠ b → (TX6 a).2.1 ≠ (TX6 b).2.1 := by decide +kernel
theorem tyX6_ok : ∀ k, k < 4 → parseFieldDescriptor (TX6 k).2.2.1 = some (tyX6 k) := by decide +kernel
abbrev cX6_init : ByteArray := prog_8_method_1_code
def yX6_init : MethodName := ⟨RX6, "<init>", "()V"⟩
abbrev cX6_isWhat : ByteArray := prog_8_method_2_code
def yX6_isWhat : MethodName := ⟨RX6, "isWhat", "(I)Z"⟩
abbrev cX6_take : ByteArray := prog_8_method_3_code
def yX6_take : MethodName := ⟨RX6, "take", "(LBeamSetter$Piece;[IILBeamSetter$Group;)V"⟩
abbrev cX6_tell : ByteArray := prog_8_method_4_code
def yX6_tell : MethodName := ⟨RX6, "tell", "(I)I"⟩
def RX7 : String := "BeamSetter"
def TX7 : u_T := fun k => match k with
  | 0 => ("BeamSetter", "tape", "LBeamSetter$Tape;", true)
  | 1 => ("BeamSetter", "reader", "LBeamSetter$Reader;", true)
  | 2 => ("BeamSetter", "history", "LBeamSetter$History;", true)
  | 3 => ("BeamSetter", "group", "LBeamSetter$Group;", true)
  | 4 => ("BeamSetter", "totals", "LBeamSetter$Totals;", true)
  | 5 => ("BeamSetter", "smoother", "LBeamSetter$Smoother;", true)
  | 6 => ("BeamSetter", "tried", "[I", true)
  | 7 => ("BeamSetter", "piece", "LBeamSetter$Piece;", false)
  | _ => ("BeamSetter", "spare", "LBeamSetter$Piece;", false)
def tyX7 : Nat → FieldType := fun k => match k with
  | 0 => .object "BeamSetter$Tape"
  | 1 => .object "BeamSetter$Reader"
  | 2 => .object "BeamSetter$History"
  | 3 => .object "BeamSetter$Group"
  | 4 => .object "BeamSetter$Totals"
  | 5 => .object "BeamSetter$Smoother"
  | 6 => .array .int
  | 7 => .object "BeamSetter$Piece"
  | _ => .object "BeamSetter$Piece"
abbrev wsX70 : List Cond := u_ws RX7 TX7 9
theorem nmX7 : ∀ a, a < 9 → ∀ b, b < 9 → a ≠ b → (TX7 a).2.1 ≠ (TX7 b).2.1 := by decide +kernel
theorem tyX7_ok : ∀ k, k < 9 → parseFieldDescriptor (TX7 k).2.2.1 = some (tyX7 k) := by decide +kernel
abbrev cX7_init : ByteArray := prog_1_method_1_code
def yX7_init : MethodName := ⟨RX7, "<init>", "()V"⟩
abbrev cX7_feed : ByteArray := prog_1_method_2_code
def yX7_feed : MethodName := ⟨RX7, "feed", "(IIIII)I"⟩
abbrev cX7_text : ByteArray := prog_1_method_3_code
def yX7_text : MethodName := ⟨RX7, "text", "(I)I"⟩
abbrev cX7_position : ByteArray := prog_1_method_6_code
def yX7_position : MethodName := ⟨RX7, "position", "(I)I"⟩
abbrev cX7_direction : ByteArray := prog_1_method_7_code
def yX7_direction : MethodName := ⟨RX7, "direction", "(I)I"⟩
abbrev cX7_put : ByteArray := prog_1_method_8_code
def yX7_put : MethodName := ⟨RX7, "put", "(II)I"⟩
abbrev cX7_undo : ByteArray := prog_1_method_9_code
def yX7_undo : MethodName := ⟨RX7, "undo", "()I"⟩
abbrev cX7_group : ByteArray := prog_1_method_10_code
def yX7_group : MethodName := ⟨RX7, "group", "(II)I"⟩
abbrev cX7_ugliness : ByteArray := prog_1_method_13_code
def yX7_ugliness : MethodName := ⟨RX7, "ugliness", "(IIII)I"⟩
abbrev cX7_best : ByteArray := prog_1_method_14_code
def yX7_best : MethodName := ⟨RX7, "best", "(II)I"⟩
abbrev cX7_ranked : ByteArray := prog_1_method_15_code
def yX7_ranked : MethodName := ⟨RX7, "ranked", "(III)I"⟩
abbrev cX7_rank : ByteArray := prog_1_method_16_code
def yX7_rank : MethodName := ⟨RX7, "rank", "(III)I"⟩
abbrev cX7_total : ByteArray := prog_1_method_20_code
def yX7_total : MethodName := ⟨RX7, "total", "(I)I"⟩
abbrev cX7_ifPut : ByteArray := prog_1_method_21_code
def yX7_ifPut : MethodName := ⟨RX7, "ifPut", "(III)I"⟩
abbrev cX7_alone : ByteArray := prog_1_method_28_code
def yX7_alone : MethodName := ⟨RX7, "alone", "(I)I"⟩
abbrev cX7_count : ByteArray := prog_1_method_38_code
def yX7_count : MethodName := ⟨RX7, "count", "(I)I"⟩
abbrev cX7_isElement : ByteArray := prog_1_method_39_code
def yX7_isElement : MethodName := ⟨RX7, "isElement", "(I)Z"⟩
abbrev cX7_isNote : ByteArray := prog_1_method_40_code
def yX7_isNote : MethodName := ⟨RX7, "isNote", "(I)Z"⟩
abbrev cX7_isGrouped : ByteArray := prog_1_method_41_code
def yX7_isGrouped : MethodName := ⟨RX7, "isGrouped", "(I)Z"⟩
abbrev cX7_isGroup : ByteArray := prog_1_method_42_code
def yX7_isGroup : MethodName := ⟨RX7, "isGroup", "(I)Z"⟩
abbrev cX7_isPosition : ByteArray := prog_1_method_43_code
def yX7_isPosition : MethodName := ⟨RX7, "isPosition", "(I)Z"⟩
abbrev cX7_load : ByteArray := prog_1_method_45_code
def yX7_load : MethodName := ⟨RX7, "load", "(I)V"⟩
abbrev cX7_loadTried : ByteArray := prog_1_method_46_code
def yX7_loadTried : MethodName := ⟨RX7, "loadTried", "(I)V"⟩
abbrev cX7_loadAround : ByteArray := prog_1_method_47_code
def yX7_loadAround : MethodName := ⟨RX7, "loadAround", "(I)I"⟩
abbrev cX7_tryShifted : ByteArray := prog_1_method_48_code
def yX7_tryShifted : MethodName := ⟨RX7, "tryShifted", "(I)Z"⟩
abbrev cX7_tellBest : ByteArray := prog_1_method_49_code
def yX7_tellBest : MethodName := ⟨RX7, "tellBest", "(I)I"⟩
def RX8 : String := "BeamSetterModel"
def TX8 : u_T := fun k => match k with
  | _ => ("", "", "", false)
def tyX8 : Nat → FieldType := fun k => match k with
  | _ => .int
abbrev wsX80 : List Cond := u_ws RX8 TX8 0
theorem nmX8 : ∀ a, a < 0 → ∀ b, b < 0 → a ≠ b → (TX8 a).2.1 ≠ (TX8 b).2.1 := by decide +kernel
theorem tyX8_ok : ∀ k, k < 0 → parseFieldDescriptor (TX8 k).2.2.1 = some (tyX8 k) := by decide +kernel
def RJx145de : String := "java/io/Serializable"
def TJx145de : u_T := fun k => match k with
  | _ => ("", "", "", false)
def tyJx145de : Nat → FieldType := fun k => match k with
  | _ => .int
abbrev wsJx145de0 : List Cond := u_ws RJx145de TJx145de 0
theorem nmJx145de : ∀ a, a < 0 → ∀ b, b < 0 → a ≠ b → (TJx145de a).2.1 ≠ (TJx145de b).2.1 := by decide +kernel
theorem tyJx145de_ok : ∀ k, k < 0 → parseFieldDescriptor (TJx145de k).2.2.1 = some (tyJx145de k) := by decide +kernel
def RJ5 : String := "java/lang/AbstractStringBuilder"
def TJ5 : u_T := fun k => match k with
  | _ => ("", "", "", false)
def tyJ5 : Nat → FieldType := fun k => match k with
  | _ => .int
abbrev wsJ50 : List Cond := u_ws RJ5 TJ5 0
theorem nmJ5 : ∀ a, a < 0 → ∀ b, b < 0 → a ≠ b → (TJ5 a).2.1 ≠ (TJ5 b).2.1 := by decide +kernel
theorem tyJ5_ok : ∀ k, k < 0 → parseFieldDescriptor (TJ5 k).2.2.1 = some (tyJ5 k) := by decide +kernel
abbrev cJ5_init_d00df : ByteArray := prog_12_method_2_code
def yJ5_init_d00df : MethodName := ⟨RJ5, "<init>", "(I)V"⟩
abbrev cJ5_length_8abf5 : ByteArray := prog_12_method_6_code
def yJ5_length_8abf5 : MethodName := ⟨RJ5, "length", "()I"⟩
abbrev cJ5_ensureCapacityInternal_d00df : ByteArray := prog_12_method_9_code
def yJ5_ensureCapacityInternal_d00df : MethodName := ⟨RJ5, "ensureCapacityInternal", "(I)V"⟩
abbrev cJ5_newCapacity_0f7a4 : ByteArray := prog_12_method_10_code
def yJ5_newCapacity_0f7a4 : MethodName := ⟨RJ5, "newCapacity", "(I)I"⟩
abbrev cJ5_inflate_da8c8 : ByteArray := prog_12_method_11_code
def yJ5_inflate_da8c8 : MethodName := ⟨RJ5, "inflate", "()V"⟩
abbrev cJ5_append_cf1ce : ByteArray := prog_12_method_22_code
def yJ5_append_cf1ce : MethodName := ⟨RJ5, "append", "(Ljava/lang/String;)Ljava/lang/AbstractStringBuilder;"⟩
abbrev cJ5_appendNull_278bc : ByteArray := prog_12_method_26_code
def yJ5_appendNull_278bc : MethodName := ⟨RJ5, "appendNull", "()Ljava/lang/AbstractStringBuilder;"⟩
abbrev cJ5_append_c97b9 : ByteArray := prog_12_method_32_code
def yJ5_append_c97b9 : MethodName := ⟨RJ5, "append", "(I)Ljava/lang/AbstractStringBuilder;"⟩
abbrev cJ5_getValue_6d5f1 : ByteArray := prog_12_method_64_code
def yJ5_getValue_6d5f1 : MethodName := ⟨RJ5, "getValue", "()[B"⟩
abbrev cJ5_isLatin1_aae02 : ByteArray := prog_12_method_68_code
def yJ5_isLatin1_aae02 : MethodName := ⟨RJ5, "isLatin1", "()Z"⟩
abbrev cJ5_inflateIfNeededFor_a7421 : ByteArray := prog_12_method_71_code
def yJ5_inflateIfNeededFor_a7421 : MethodName := ⟨RJ5, "inflateIfNeededFor", "(Ljava/lang/String;)V"⟩
abbrev cJ5_putStringAt_47b60 : ByteArray := prog_12_method_73_code
def yJ5_putStringAt_47b60 : MethodName := ⟨RJ5, "putStringAt", "(ILjava/lang/String;)V"⟩
def RJx2cfe8 : String := "java/lang/Appendable"
def TJx2cfe8 : u_T := fun k => match k with
  | _ => ("", "", "", false)
def tyJx2cfe8 : Nat → FieldType := fun k => match k with
  | _ => .int
abbrev wsJx2cfe80 : List Cond := u_ws RJx2cfe8 TJx2cfe8 0
theorem nmJx2cfe8 : ∀ a, a < 0 → ∀ b, b < 0 → a ≠ b → (TJx2cfe8 a).2.1 ≠ (TJx2cfe8 b).2.1 := by decide +kernel
theorem tyJx2cfe8_ok : ∀ k, k < 0 → parseFieldDescriptor (TJx2cfe8 k).2.2.1 = some (tyJx2cfe8 k) := by decide +kernel
def RJx9f9b0 : String := "java/lang/CharSequence"
def TJx9f9b0 : u_T := fun k => match k with
  | _ => ("", "", "", false)
def tyJx9f9b0 : Nat → FieldType := fun k => match k with
  | _ => .int
abbrev wsJx9f9b00 : List Cond := u_ws RJx9f9b0 TJx9f9b0 0
theorem nmJx9f9b0 : ∀ a, a < 0 → ∀ b, b < 0 → a ≠ b → (TJx9f9b0 a).2.1 ≠ (TJx9f9b0 b).2.1 := by decide +kernel
theorem tyJx9f9b0_ok : ∀ k, k < 0 → parseFieldDescriptor (TJx9f9b0 k).2.2.1 = some (tyJx9f9b0 k) := by decide +kernel
def RJx8e188 : String := "java/lang/Cloneable"
def TJx8e188 : u_T := fun k => match k with
  | _ => ("", "", "", false)
def tyJx8e188 : Nat → FieldType := fun k => match k with
  | _ => .int
abbrev wsJx8e1880 : List Cond := u_ws RJx8e188 TJx8e188 0
theorem nmJx8e188 : ∀ a, a < 0 → ∀ b, b < 0 → a ≠ b → (TJx8e188 a).2.1 ≠ (TJx8e188 b).2.1 := by decide +kernel
theorem tyJx8e188_ok : ∀ k, k < 0 → parseFieldDescriptor (TJx8e188 k).2.2.1 = some (tyJx8e188 k) := by decide +kernel
def RJxb160c : String := "java/lang/Comparable"
def TJxb160c : u_T := fun k => match k with
  | _ => ("", "", "", false)
def tyJxb160c : Nat → FieldType := fun k => match k with
  | _ => .int
abbrev wsJxb160c0 : List Cond := u_ws RJxb160c TJxb160c 0
theorem nmJxb160c : ∀ a, a < 0 → ∀ b, b < 0 → a ≠ b → (TJxb160c a).2.1 ≠ (TJxb160c b).2.1 := by decide +kernel
theorem tyJxb160c_ok : ∀ k, k < 0 → parseFieldDescriptor (TJxb160c k).2.2.1 = some (tyJxb160c k) := by decide +kernel
def RJ6 : String := "java/lang/Integer"
def TJ6 : u_T := fun k => match k with
  | _ => ("", "", "", false)
def tyJ6 : Nat → FieldType := fun k => match k with
  | _ => .int
abbrev wsJ60 : List Cond := u_ws RJ6 TJ6 0
theorem nmJ6 : ∀ a, a < 0 → ∀ b, b < 0 → a ≠ b → (TJ6 a).2.1 ≠ (TJ6 b).2.1 := by decide +kernel
theorem tyJ6_ok : ∀ k, k < 0 → parseFieldDescriptor (TJ6 k).2.2.1 = some (tyJ6 k) := by decide +kernel
abbrev cJ6_getChars_ba4f3 : ByteArray := prog_19_method_12_code
def yJ6_getChars_ba4f3 : MethodName := ⟨RJ6, "getChars", "(II[B)I"⟩
abbrev cJ6_stringSize_0f7a4 : ByteArray := prog_19_method_13_code
def yJ6_stringSize_0f7a4 : MethodName := ⟨RJ6, "stringSize", "(I)I"⟩
abbrev cJ6_signum_0f7a4 : ByteArray := prog_19_method_56_code
def yJ6_signum_0f7a4 : MethodName := ⟨RJ6, "signum", "(I)I"⟩
def RJ9 : String := "java/lang/Math"
def TJ9 : u_T := fun k => match k with
  | _ => ("", "", "", false)
def tyJ9 : Nat → FieldType := fun k => match k with
  | _ => .int
abbrev wsJ90 : List Cond := u_ws RJ9 TJ9 0
theorem nmJ9 : ∀ a, a < 0 → ∀ b, b < 0 → a ≠ b → (TJ9 a).2.1 ≠ (TJ9 b).2.1 := by decide +kernel
theorem tyJ9_ok : ∀ k, k < 0 → parseFieldDescriptor (TJ9 k).2.2.1 = some (tyJ9 k) := by decide +kernel
abbrev cJ9_floorDiv_7cf53 : ByteArray := prog_20_method_47_code
def yJ9_floorDiv_7cf53 : MethodName := ⟨RJ9, "floorDiv", "(II)I"⟩
abbrev cJ9_floorMod_7cf53 : ByteArray := prog_20_method_50_code
def yJ9_floorMod_7cf53 : MethodName := ⟨RJ9, "floorMod", "(II)I"⟩
abbrev cJ9_abs_0f7a4 : ByteArray := prog_20_method_59_code
def yJ9_abs_0f7a4 : MethodName := ⟨RJ9, "abs", "(I)I"⟩
abbrev cJ9_max_7cf53 : ByteArray := prog_20_method_65_code
def yJ9_max_7cf53 : MethodName := ⟨RJ9, "max", "(II)I"⟩
abbrev cJ9_min_7cf53 : ByteArray := prog_20_method_69_code
def yJ9_min_7cf53 : MethodName := ⟨RJ9, "min", "(II)I"⟩
abbrev cJ9_min_f86c9 : ByteArray := prog_20_method_70_code
def yJ9_min_f86c9 : MethodName := ⟨RJ9, "min", "(JJ)J"⟩
def RJxd2413 : String := "java/lang/Number"
def TJxd2413 : u_T := fun k => match k with
  | _ => ("", "", "", false)
def tyJxd2413 : Nat → FieldType := fun k => match k with
  | _ => .int
abbrev wsJxd24130 : List Cond := u_ws RJxd2413 TJxd2413 0
theorem nmJxd2413 : ∀ a, a < 0 → ∀ b, b < 0 → a ≠ b → (TJxd2413 a).2.1 ≠ (TJxd2413 b).2.1 := by decide +kernel
theorem tyJxd2413_ok : ∀ k, k < 0 → parseFieldDescriptor (TJxd2413 k).2.2.1 = some (tyJxd2413 k) := by decide +kernel
def RJ0 : String := "java/lang/String"
def TJ0 : u_T := fun k => match k with
  | 0 => ("java/lang/String", "value", "[B", true)
  | 1 => ("java/lang/String", "coder", "B", true)
  | 2 => ("java/lang/String", "hash", "I", false)
  | _ => ("java/lang/String", "hashIsZero", "Z", false)
def tyJ0 : Nat → FieldType := fun k => match k with
  | 0 => .array .byte
  | 1 => .byte
  | 2 => .int
  | _ => .boolean
abbrev wsJ00 : List Cond := u_ws RJ0 TJ0 4
theorem nmJ0 : ∀ a, a < 4 → ∀ b, b < 4 → a ≠ b → (TJ0 a).2.1 ≠ (TJ0 b).2.1 := by decide +kernel
theorem tyJ0_ok : ∀ k, k < 4 → parseFieldDescriptor (TJ0 k).2.2.1 = some (tyJ0 k) := by decide +kernel
abbrev cJ0_init_81219 : ByteArray := prog_23_method_53_code
def yJ0_init_81219 : MethodName := ⟨RJ0, "<init>", "(Ljava/lang/StringBuilder;)V"⟩
abbrev cJ0_length_8abf5 : ByteArray := prog_23_method_54_code
def yJ0_length_8abf5 : MethodName := ⟨RJ0, "length", "()I"⟩
abbrev cJ0_charAt_5068e : ByteArray := prog_23_method_56_code
def yJ0_charAt_5068e : MethodName := ⟨RJ0, "charAt", "(I)C"⟩
abbrev cJ0_getBytes_840e7 : ByteArray := prog_23_method_147_code
def yJ0_getBytes_840e7 : MethodName := ⟨RJ0, "getBytes", "([BIB)V"⟩
abbrev cJ0_init_db425 : ByteArray := prog_23_method_150_code
def yJ0_init_db425 : MethodName := ⟨RJ0, "<init>", "(Ljava/lang/AbstractStringBuilder;Ljava/lang/Void;)V"⟩
abbrev cJ0_coder_7d493 : ByteArray := prog_23_method_152_code
def yJ0_coder_7d493 : MethodName := ⟨RJ0, "coder", "()B"⟩
abbrev cJ0_isLatin1_aae02 : ByteArray := prog_23_method_154_code
def yJ0_isLatin1_aae02 : MethodName := ⟨RJ0, "isLatin1", "()Z"⟩
abbrev cJ0_checkIndex_df160 : ByteArray := prog_23_method_155_code
def yJ0_checkIndex_df160 : MethodName := ⟨RJ0, "checkIndex", "(II)V"⟩
abbrev cJ0_checkBoundsOffCount_cabcc : ByteArray := prog_23_method_157_code
def yJ0_checkBoundsOffCount_cabcc : MethodName := ⟨RJ0, "checkBoundsOffCount", "(III)I"⟩
abbrev cJ0_checkBoundsBeginEnd_23922 : ByteArray := prog_23_method_158_code
def yJ0_checkBoundsBeginEnd_23922 : MethodName := ⟨RJ0, "checkBoundsBeginEnd", "(III)V"⟩
def RJ4 : String := "java/lang/StringBuilder"
def TJ4 : u_T := fun k => match k with
  | 0 => ("java/lang/AbstractStringBuilder", "value", "[B", false)
  | 1 => ("java/lang/AbstractStringBuilder", "coder", "B", false)
  | 2 => ("java/lang/AbstractStringBuilder", "maybeLatin1", "Z", false)
  | _ => ("java/lang/AbstractStringBuilder", "count", "I", false)
def tyJ4 : Nat → FieldType := fun k => match k with
  | 0 => .array .byte
  | 1 => .byte
  | 2 => .boolean
  | _ => .int
abbrev wsJ40 : List Cond := u_ws RJ4 TJ4 4
theorem nmJ4 : ∀ a, a < 4 → ∀ b, b < 4 → a ≠ b → (TJ4 a).2.1 ≠ (TJ4 b).2.1 := by decide +kernel
theorem tyJ4_ok : ∀ k, k < 4 → parseFieldDescriptor (TJ4 k).2.2.1 = some (tyJ4 k) := by decide +kernel
abbrev cJ4_init_da8c8 : ByteArray := prog_24_method_1_code
def yJ4_init_da8c8 : MethodName := ⟨RJ4, "<init>", "()V"⟩
abbrev cJ4_append_15ec4 : ByteArray := prog_24_method_7_code
def yJ4_append_15ec4 : MethodName := ⟨RJ4, "append", "(Ljava/lang/String;)Ljava/lang/StringBuilder;"⟩
abbrev cJ4_append_bf812 : ByteArray := prog_24_method_15_code
def yJ4_append_bf812 : MethodName := ⟨RJ4, "append", "(I)Ljava/lang/StringBuilder;"⟩
abbrev cJ4_toString_0e30d : ByteArray := prog_24_method_42_code
def yJ4_toString_0e30d : MethodName := ⟨RJ4, "toString", "()Ljava/lang/String;"⟩
abbrev cJ4_length_8abf5 : ByteArray := prog_24_method_93_code
def yJ4_length_8abf5 : MethodName := ⟨RJ4, "length", "()I"⟩
def RJ1 : String := "java/lang/StringLatin1"
def TJ1 : u_T := fun k => match k with
  | _ => ("", "", "", false)
def tyJ1 : Nat → FieldType := fun k => match k with
  | _ => .int
abbrev wsJ10 : List Cond := u_ws RJ1 TJ1 0
theorem nmJ1 : ∀ a, a < 0 → ∀ b, b < 0 → a ≠ b → (TJ1 a).2.1 ≠ (TJ1 b).2.1 := by decide +kernel
theorem tyJ1_ok : ∀ k, k < 0 → parseFieldDescriptor (TJ1 k).2.2.1 = some (tyJ1 k) := by decide +kernel
abbrev cJ1_charAt_3b067 : ByteArray := prog_25_method_2_code
def yJ1_charAt_3b067 : MethodName := ⟨RJ1, "charAt", "([BI)C"⟩
abbrev cJ1_inflate_0e8fd : ByteArray := prog_25_method_50_code
def yJ1_inflate_0e8fd : MethodName := ⟨RJ1, "inflate", "([BI[BII)V"⟩
def RJ2 : String := "java/lang/StringUTF16"
def TJ2 : u_T := fun k => match k with
  | _ => ("", "", "", false)
def tyJ2 : Nat → FieldType := fun k => match k with
  | _ => .int
abbrev wsJ20 : List Cond := u_ws RJ2 TJ2 0
theorem nmJ2 : ∀ a, a < 0 → ∀ b, b < 0 → a ≠ b → (TJ2 a).2.1 ≠ (TJ2 b).2.1 := by decide +kernel
theorem tyJ2_ok : ∀ k, k < 0 → parseFieldDescriptor (TJ2 k).2.2.1 = some (tyJ2 k) := by decide +kernel
abbrev cJ2_newBytesFor_77867 : ByteArray := prog_26_method_2_code
def yJ2_newBytesFor_77867 : MethodName := ⟨RJ2, "newBytesFor", "(I)[B"⟩
abbrev cJ2_newBytesLength_0f7a4 : ByteArray := prog_26_method_3_code
def yJ2_newBytesLength_0f7a4 : MethodName := ⟨RJ2, "newBytesLength", "(I)I"⟩
abbrev cJ2_putChar_b72d1 : ByteArray := prog_26_method_4_code
def yJ2_putChar_b72d1 : MethodName := ⟨RJ2, "putChar", "([BII)V"⟩
abbrev cJ2_getChar_3b067 : ByteArray := prog_26_method_5_code
def yJ2_getChar_3b067 : MethodName := ⟨RJ2, "getChar", "([BI)C"⟩
abbrev cJ2_length_9d52b : ByteArray := prog_26_method_6_code
def yJ2_length_9d52b : MethodName := ⟨RJ2, "length", "([B)I"⟩
abbrev cJ2_coderFromArrayLen_85cad : ByteArray := prog_26_method_15_code
def yJ2_coderFromArrayLen_85cad : MethodName := ⟨RJ2, "coderFromArrayLen", "([BI)B"⟩
abbrev cJ2_compress_39247 : ByteArray := prog_26_method_17_code
def yJ2_compress_39247 : MethodName := ⟨RJ2, "compress", "([BII)[B"⟩
abbrev cJ2_compress_5af95 : ByteArray := prog_26_method_22_code
def yJ2_compress_5af95 : MethodName := ⟨RJ2, "compress", "([BI[BII)I"⟩
abbrev cJ2_getChars_46870 : ByteArray := prog_26_method_77_code
def yJ2_getChars_46870 : MethodName := ⟨RJ2, "getChars", "(III[B)I"⟩
abbrev cJ2_putCharsAt_cd4e5 : ByteArray := prog_26_method_81_code
def yJ2_putCharsAt_cd4e5 : MethodName := ⟨RJ2, "putCharsAt", "([BICCCC)I"⟩
abbrev cJ2_charAt_3b067 : ByteArray := prog_26_method_83_code
def yJ2_charAt_3b067 : MethodName := ⟨RJ2, "charAt", "([BI)C"⟩
abbrev cJ2_inflate_0e8fd : ByteArray := prog_26_method_86_code
def yJ2_inflate_0e8fd : MethodName := ⟨RJ2, "inflate", "([BI[BII)V"⟩
abbrev cJ2_getChars_ba4f3 : ByteArray := prog_26_method_89_code
def yJ2_getChars_ba4f3 : MethodName := ⟨RJ2, "getChars", "(II[B)I"⟩
abbrev cJ2_checkIndex_2214a : ByteArray := prog_26_method_91_code
def yJ2_checkIndex_2214a : MethodName := ⟨RJ2, "checkIndex", "(I[B)V"⟩
abbrev cJ2_checkBoundsBeginEnd_d044e : ByteArray := prog_26_method_93_code
def yJ2_checkBoundsBeginEnd_d044e : MethodName := ⟨RJ2, "checkBoundsBeginEnd", "(II[B)V"⟩
abbrev cJ2_checkBoundsOffCount_d044e : ByteArray := prog_26_method_94_code
def yJ2_checkBoundsOffCount_d044e : MethodName := ⟨RJ2, "checkBoundsOffCount", "(II[B)V"⟩
def RJ10 : String := "java/lang/System"
def TJ10 : u_T := fun k => match k with
  | _ => ("", "", "", false)
def tyJ10 : Nat → FieldType := fun k => match k with
  | _ => .int
abbrev wsJ100 : List Cond := u_ws RJ10 TJ10 0
theorem nmJ10 : ∀ a, a < 0 → ∀ b, b < 0 → a ≠ b → (TJ10 a).2.1 ≠ (TJ10 b).2.1 := by decide +kernel
theorem tyJ10_ok : ∀ k, k < 0 → parseFieldDescriptor (TJ10 k).2.2.1 = some (tyJ10 k) := by decide +kernel
def RJxfd54e : String := "java/lang/constant/Constable"
def TJxfd54e : u_T := fun k => match k with
  | _ => ("", "", "", false)
def tyJxfd54e : Nat → FieldType := fun k => match k with
  | _ => .int
abbrev wsJxfd54e0 : List Cond := u_ws RJxfd54e TJxfd54e 0
theorem nmJxfd54e : ∀ a, a < 0 → ∀ b, b < 0 → a ≠ b → (TJxfd54e a).2.1 ≠ (TJxfd54e b).2.1 := by decide +kernel
theorem tyJxfd54e_ok : ∀ k, k < 0 → parseFieldDescriptor (TJxfd54e k).2.2.1 = some (tyJxfd54e k) := by decide +kernel
def RJx3cf43 : String := "java/lang/constant/ConstantDesc"
def TJx3cf43 : u_T := fun k => match k with
  | _ => ("", "", "", false)
def tyJx3cf43 : Nat → FieldType := fun k => match k with
  | _ => .int
abbrev wsJx3cf430 : List Cond := u_ws RJx3cf43 TJx3cf43 0
theorem nmJx3cf43 : ∀ a, a < 0 → ∀ b, b < 0 → a ≠ b → (TJx3cf43 a).2.1 ≠ (TJx3cf43 b).2.1 := by decide +kernel
theorem tyJx3cf43_ok : ∀ k, k < 0 → parseFieldDescriptor (TJx3cf43 k).2.2.1 = some (tyJx3cf43 k) := by decide +kernel
def RJ7 : String := "java/util/Arrays"
def TJ7 : u_T := fun k => match k with
  | _ => ("", "", "", false)
def tyJ7 : Nat → FieldType := fun k => match k with
  | _ => .int
abbrev wsJ70 : List Cond := u_ws RJ7 TJ7 0
theorem nmJ7 : ∀ a, a < 0 → ∀ b, b < 0 → a ≠ b → (TJ7 a).2.1 ≠ (TJ7 b).2.1 := by decide +kernel
theorem tyJ7_ok : ∀ k, k < 0 → parseFieldDescriptor (TJ7 k).2.2.1 = some (tyJ7 k) := by decide +kernel
abbrev cJ7_copyOf_9075b : ByteArray := prog_31_method_121_code
def yJ7_copyOf_9075b : MethodName := ⟨RJ7, "copyOf", "([BI)[B"⟩
abbrev cJ7_checkLength_df160 : ByteArray := prog_31_method_131_code
def yJ7_checkLength_df160 : MethodName := ⟨RJ7, "checkLength", "(II)V"⟩
abbrev cJ7_copyOfRange_39247 : ByteArray := prog_31_method_132_code
def yJ7_copyOfRange_39247 : MethodName := ⟨RJ7, "copyOfRange", "([BII)[B"⟩
abbrev cJ7_copyOfRangeByte_39247 : ByteArray := prog_31_method_133_code
def yJ7_copyOfRangeByte_39247 : MethodName := ⟨RJ7, "copyOfRangeByte", "([BII)[B"⟩
def RJ8 : String := "jdk/internal/util/ArraysSupport"
def TJ8 : u_T := fun k => match k with
  | _ => ("", "", "", false)
def tyJ8 : Nat → FieldType := fun k => match k with
  | _ => .int
abbrev wsJ80 : List Cond := u_ws RJ8 TJ8 0
theorem nmJ8 : ∀ a, a < 0 → ∀ b, b < 0 → a ≠ b → (TJ8 a).2.1 ≠ (TJ8 b).2.1 := by decide +kernel
theorem tyJ8_ok : ∀ k, k < 0 → parseFieldDescriptor (TJ8 k).2.2.1 = some (tyJ8 k) := by decide +kernel
abbrev cJ8_newLength_cabcc : ByteArray := prog_33_method_27_code
def yJ8_newLength_cabcc : MethodName := ⟨RJ8, "newLength", "(III)I"⟩
abbrev cJ8_hugeLength_7cf53 : ByteArray := prog_33_method_28_code
def yJ8_hugeLength_7cf53 : MethodName := ⟨RJ8, "hugeLength", "(II)I"⟩
def RJ3 : String := "jdk/internal/util/Preconditions"
def TJ3 : u_T := fun k => match k with
  | _ => ("", "", "", false)
def tyJ3 : Nat → FieldType := fun k => match k with
  | _ => .int
abbrev wsJ30 : List Cond := u_ws RJ3 TJ3 0
theorem nmJ3 : ∀ a, a < 0 → ∀ b, b < 0 → a ≠ b → (TJ3 a).2.1 ≠ (TJ3 b).2.1 := by decide +kernel
theorem tyJ3_ok : ∀ k, k < 0 → parseFieldDescriptor (TJ3 k).2.2.1 = some (tyJ3 k) := by decide +kernel
abbrev cJ3_checkIndex_8e157 : ByteArray := prog_34_method_11_code
def yJ3_checkIndex_8e157 : MethodName := ⟨RJ3, "checkIndex", "(IILjava/util/function/BiFunction;)I"⟩
abbrev cJ3_checkFromToIndex_8c36e : ByteArray := prog_34_method_12_code
def yJ3_checkFromToIndex_8c36e : MethodName := ⟨RJ3, "checkFromToIndex", "(IIILjava/util/function/BiFunction;)I"⟩
abbrev cJ3_checkFromIndexSize_8c36e : ByteArray := prog_34_method_13_code
def yJ3_checkFromIndexSize_8c36e : MethodName := ⟨RJ3, "checkFromIndexSize", "(IIILjava/util/function/BiFunction;)I"⟩
def RL : String := "BeamSetterLaw"
abbrev cL_cell : ByteArray := method_2_code
def yL_cell : MethodName := ⟨RL, "cell", "([II)I"⟩
abbrev cL_in : ByteArray := method_3_code
def yL_in : MethodName := ⟨RL, "in", "(II)I"⟩
abbrev cL_put : ByteArray := method_4_code
def yL_put : MethodName := ⟨RL, "put", "(LBeamSetter;Ljava/lang/String;)V"⟩
abbrev cL_kind : ByteArray := method_5_code
def yL_kind : MethodName := ⟨RL, "kind", "([II)I"⟩
abbrev cL_position : ByteArray := method_6_code
def yL_position : MethodName := ⟨RL, "position", "([II)I"⟩
abbrev cL_many : ByteArray := method_7_code
def yL_many : MethodName := ⟨RL, "many", "([I)I"⟩
abbrev cL_place : ByteArray := method_8_code
def yL_place : MethodName := ⟨RL, "place", "([II)I"⟩
abbrev cL_knee : ByteArray := method_9_code
def yL_knee : MethodName := ⟨RL, "knee", "([I)I"⟩
abbrev cL_wide : ByteArray := method_10_code
def yL_wide : MethodName := ⟨RL, "wide", "([II)I"⟩
abbrev cL_text : ByteArray := method_11_code
def yL_text : MethodName := ⟨RL, "text", "([I)Ljava/lang/String;"⟩
abbrev cL_ways : ByteArray := method_12_code
def yL_ways : MethodName := ⟨RL, "ways", "([I[I)[I"⟩
abbrev cL_isKneed : ByteArray := method_13_code
def yL_isKneed : MethodName := ⟨RL, "isKneed", "([I)Z"⟩
abbrev cL_judged : ByteArray := method_14_code
def yL_judged : MethodName := ⟨RL, "judged", "([I[I[I[III)[J"⟩
abbrev cL_isAhead : ByteArray := method_15_code
def yL_isAhead : MethodName := ⟨RL, "isAhead", "([JII[JIII)Z"⟩
abbrev cL_isBest : ByteArray := method_16_code
def yL_isBest : MethodName := ⟨RL, "isBest", "(LBeamSetter;[I[I)Z"⟩
abbrev cL_law : ByteArray := code
def yL_law : MethodName := ⟨RL, "law", "([I)Z"⟩
abbrev vwCl : List vw_C := [(RX0, TX0, 18), (RX1, TX1, 3), (RX2, TX2, 17), (RX3, TX3, 10), (RX4, TX4, 3), (RX5, TX5, 2), (RX6, TX6, 4), (RX7, TX7, 9), (RJ0, TJ0, 4), (RJ4, TJ4, 4)]
