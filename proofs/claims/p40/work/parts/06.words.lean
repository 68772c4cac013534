set_option maxRecDepth 20000 in
theorem k_s0 : Cond.selects "BeamSetter$Reader" (⟨"BeamSetter$Reader", "forgetTold", "()V"⟩ : MethodName) ⟨"BeamSetter$Reader", "forgetTold", "()V"⟩ ∈ TW := tw_in 0 (by decide +kernel) rfl
set_option maxRecDepth 20000 in
theorem k_s1 : Cond.selects "BeamSetter$Reader" (⟨"BeamSetter$Reader", "skipBlanks", "()V"⟩ : MethodName) ⟨"BeamSetter$Reader", "skipBlanks", "()V"⟩ ∈ TW := tw_in 1 (by decide +kernel) rfl
set_option maxRecDepth 20000 in
theorem k_s2 : Cond.selects "BeamSetter$Reader" (⟨"BeamSetter$Reader", "readLine", "()Z"⟩ : MethodName) ⟨"BeamSetter$Reader", "readLine", "()Z"⟩ ∈ TW := tw_in 2 (by decide +kernel) rfl
set_option maxRecDepth 20000 in
theorem k_s3 : Cond.selects "BeamSetter$Reader" (⟨"BeamSetter$Reader", "takeWord", "()I"⟩ : MethodName) ⟨"BeamSetter$Reader", "takeWord", "()I"⟩ ∈ TW := tw_in 3 (by decide +kernel) rfl
set_option maxRecDepth 20000 in
theorem k_s4 : Cond.selects "BeamSetter$Reader" (⟨"BeamSetter$Reader", "isLetterHere", "()Z"⟩ : MethodName) ⟨"BeamSetter$Reader", "isLetterHere", "()Z"⟩ ∈ TW := tw_in 4 (by decide +kernel) rfl
set_option maxRecDepth 20000 in
theorem k_s5 : Cond.selects "BeamSetter$Reader" (⟨"BeamSetter$Reader", "spells", "(ILjava/lang/String;)Z"⟩ : MethodName) ⟨"BeamSetter$Reader", "spells", "(ILjava/lang/String;)Z"⟩ ∈ TW := tw_in 5 (by decide +kernel) rfl
set_option maxRecDepth 20000 in
theorem k_s6 : Cond.selects "BeamSetter$Reader" (⟨"BeamSetter$Reader", "isTooLate", "(I)Z"⟩ : MethodName) ⟨"BeamSetter$Reader", "isTooLate", "(I)Z"⟩ ∈ TW := tw_in 6 (by decide +kernel) rfl
set_option maxRecDepth 20000 in
theorem k_s7 : Cond.selects "BeamSetter$Reader" (⟨"BeamSetter$Reader", "fail", "(II)Z"⟩ : MethodName) ⟨"BeamSetter$Reader", "fail", "(II)Z"⟩ ∈ TW := tw_in 7 (by decide +kernel) rfl
set_option maxRecDepth 20000 in
theorem k_s8 : Cond.selects "BeamSetter$Reader" (⟨"BeamSetter$Reader", "readMetre", "()Z"⟩ : MethodName) ⟨"BeamSetter$Reader", "readMetre", "()Z"⟩ ∈ TW := tw_in 8 (by decide +kernel) rfl
set_option maxRecDepth 20000 in
theorem k_s9 : Cond.selects "BeamSetter$Reader" (⟨"BeamSetter$Reader", "takeNumberWithin", "(II)Z"⟩ : MethodName) ⟨"BeamSetter$Reader", "takeNumberWithin", "(II)Z"⟩ ∈ TW := tw_in 9 (by decide +kernel) rfl
set_option maxRecDepth 20000 in
theorem k_s10 : Cond.selects "BeamSetter$Reader" (⟨"BeamSetter$Reader", "takeNumber", "()Z"⟩ : MethodName) ⟨"BeamSetter$Reader", "takeNumber", "()Z"⟩ ∈ TW := tw_in 10 (by decide +kernel) rfl
set_option maxRecDepth 20000 in
theorem k_s11 : Cond.selects "BeamSetter$Reader" (⟨"BeamSetter$Reader", "isDigitHere", "()Z"⟩ : MethodName) ⟨"BeamSetter$Reader", "isDigitHere", "()Z"⟩ ∈ TW := tw_in 11 (by decide +kernel) rfl
set_option maxRecDepth 20000 in
theorem k_s12 : Cond.selects "BeamSetter$Reader" (⟨"BeamSetter$Reader", "readSplit", "()Z"⟩ : MethodName) ⟨"BeamSetter$Reader", "readSplit", "()Z"⟩ ∈ TW := tw_in 12 (by decide +kernel) rfl
set_option maxRecDepth 20000 in
theorem k_s13 : Cond.selects "BeamSetter$Reader" (⟨"BeamSetter$Reader", "here", "()I"⟩ : MethodName) ⟨"BeamSetter$Reader", "here", "()I"⟩ ∈ TW := tw_in 13 (by decide +kernel) rfl
set_option maxRecDepth 20000 in
theorem k_s14 : Cond.selects "BeamSetter$Reader" (⟨"BeamSetter$Reader", "readKnee", "()Z"⟩ : MethodName) ⟨"BeamSetter$Reader", "readKnee", "()Z"⟩ ∈ TW := tw_in 14 (by decide +kernel) rfl
set_option maxRecDepth 20000 in
theorem k_s15 : Cond.selects "BeamSetter$Reader" (⟨"BeamSetter$Reader", "readWide", "()Z"⟩ : MethodName) ⟨"BeamSetter$Reader", "readWide", "()Z"⟩ ∈ TW := tw_in 15 (by decide +kernel) rfl
set_option maxRecDepth 20000 in
theorem k_s16 : Cond.selects "BeamSetter$Reader" (⟨"BeamSetter$Reader", "takeKind", "()Z"⟩ : MethodName) ⟨"BeamSetter$Reader", "takeKind", "()Z"⟩ ∈ TW := tw_in 16 (by decide +kernel) rfl
set_option maxRecDepth 20000 in
theorem k_s17 : Cond.selects "BeamSetter$Reader" (⟨"BeamSetter$Reader", "readElement", "(Z)Z"⟩ : MethodName) ⟨"BeamSetter$Reader", "readElement", "(Z)Z"⟩ ∈ TW := tw_in 17 (by decide +kernel) rfl
set_option maxRecDepth 20000 in
theorem k_s18 : Cond.selects "BeamSetter$Piece" (⟨"BeamSetter$Piece", "timeOfNext", "()I"⟩ : MethodName) ⟨"BeamSetter$Piece", "timeOfNext", "()I"⟩ ∈ TW := tw_in 18 (by decide +kernel) rfl
set_option maxRecDepth 20000 in
theorem k_s19 : Cond.selects "BeamSetter$Piece" (⟨"BeamSetter$Piece", "measureLong", "()I"⟩ : MethodName) ⟨"BeamSetter$Piece", "measureLong", "()I"⟩ ∈ TW := tw_in 19 (by decide +kernel) rfl
set_option maxRecDepth 20000 in
theorem k_s20 : Cond.selects "BeamSetter$Piece" (⟨"BeamSetter$Piece", "beatLong", "()I"⟩ : MethodName) ⟨"BeamSetter$Piece", "beatLong", "()I"⟩ ∈ TW := tw_in 20 (by decide +kernel) rfl
set_option maxRecDepth 20000 in
theorem k_s21 : Cond.selects "BeamSetter$Reader" (⟨"BeamSetter$Reader", "takePosition", "()Z"⟩ : MethodName) ⟨"BeamSetter$Reader", "takePosition", "()Z"⟩ ∈ TW := tw_in 21 (by decide +kernel) rfl
set_option maxRecDepth 20000 in
theorem k_s22 : Cond.selects "BeamSetter$Piece" (⟨"BeamSetter$Piece", "xOfNext", "()I"⟩ : MethodName) ⟨"BeamSetter$Piece", "xOfNext", "()I"⟩ ∈ TW := tw_in 22 (by decide +kernel) rfl
set_option maxRecDepth 20000 in
theorem k_s23 : Cond.selects "BeamSetter$Reader" (⟨"BeamSetter$Reader", "takeEnd", "()Z"⟩ : MethodName) ⟨"BeamSetter$Reader", "takeEnd", "()Z"⟩ ∈ TW := tw_in 23 (by decide +kernel) rfl
set_option maxRecDepth 20000 in
theorem k_s24 : Cond.selects "BeamSetter$Piece" (⟨"BeamSetter$Piece", "runFrom", "(II)I"⟩ : MethodName) ⟨"BeamSetter$Piece", "runFrom", "(II)I"⟩ ∈ TW := tw_in 24 (by decide +kernel) rfl
set_option maxRecDepth 20000 in
theorem k_s25 : Cond.selects "BeamSetter" (⟨"BeamSetter", "isNote", "(I)Z"⟩ : MethodName) ⟨"BeamSetter", "isNote", "(I)Z"⟩ ∈ TW := tw_in 25 (by decide +kernel) rfl
set_option maxRecDepth 20000 in
theorem k_s26 : Cond.selects "BeamSetter" (⟨"BeamSetter", "isElement", "(I)Z"⟩ : MethodName) ⟨"BeamSetter", "isElement", "(I)Z"⟩ ∈ TW := tw_in 26 (by decide +kernel) rfl
set_option maxRecDepth 20000 in
theorem k_s27 : Cond.selects "BeamSetter" (⟨"BeamSetter", "isGroup", "(I)Z"⟩ : MethodName) ⟨"BeamSetter", "isGroup", "(I)Z"⟩ ∈ TW := tw_in 27 (by decide +kernel) rfl
set_option maxRecDepth 20000 in
theorem k_s28 : Cond.selects "BeamSetter" (⟨"BeamSetter", "load", "(I)V"⟩ : MethodName) ⟨"BeamSetter", "load", "(I)V"⟩ ∈ TW := tw_in 28 (by decide +kernel) rfl
set_option maxRecDepth 20000 in
theorem k_s29 : Cond.selects "BeamSetter$Group" (⟨"BeamSetter$Group", "decideWays", "(I)V"⟩ : MethodName) ⟨"BeamSetter$Group", "decideWays", "(I)V"⟩ ∈ TW := tw_in 29 (by decide +kernel) rfl
set_option maxRecDepth 20000 in
theorem k_s30 : Cond.selects "BeamSetter$Group" (⟨"BeamSetter$Group", "lowerSideOfKnee", "(I)I"⟩ : MethodName) ⟨"BeamSetter$Group", "lowerSideOfKnee", "(I)I"⟩ ∈ TW := tw_in 30 (by decide +kernel) rfl
set_option maxRecDepth 20000 in
theorem k_s31 : Cond.selects "BeamSetter$Group" (⟨"BeamSetter$Group", "markTaken", "()V"⟩ : MethodName) ⟨"BeamSetter$Group", "markTaken", "()V"⟩ ∈ TW := tw_in 31 (by decide +kernel) rfl
set_option maxRecDepth 20000 in
theorem k_s32 : Cond.selects "BeamSetter$Group" (⟨"BeamSetter$Group", "commonWay", "()I"⟩ : MethodName) ⟨"BeamSetter$Group", "commonWay", "()I"⟩ ∈ TW := tw_in 32 (by decide +kernel) rfl
set_option maxRecDepth 20000 in
theorem k_s33 : Cond.selects "BeamSetter$Group" (⟨"BeamSetter$Group", "decideWant", "()V"⟩ : MethodName) ⟨"BeamSetter$Group", "decideWant", "()V"⟩ ∈ TW := tw_in 33 (by decide +kernel) rfl
set_option maxRecDepth 20000 in
theorem k_s34 : Cond.selects "BeamSetter" (⟨"BeamSetter", "tellBest", "(I)I"⟩ : MethodName) ⟨"BeamSetter", "tellBest", "(I)I"⟩ ∈ TW := tw_in 34 (by decide +kernel) rfl
set_option maxRecDepth 20000 in
theorem k_s35 : Cond.selects "BeamSetter$Group" (⟨"BeamSetter$Group", "bestSloping", "(IJ)J"⟩ : MethodName) ⟨"BeamSetter$Group", "bestSloping", "(IJ)J"⟩ ∈ TW := tw_in 35 (by decide +kernel) rfl
set_option maxRecDepth 20000 in
theorem k_s36 : Cond.selects "BeamSetter$Group" (⟨"BeamSetter$Group", "tilt", "(I)V"⟩ : MethodName) ⟨"BeamSetter$Group", "tilt", "(I)V"⟩ ∈ TW := tw_in 36 (by decide +kernel) rfl
set_option maxRecDepth 20000 in
theorem k_s37 : Cond.selects "BeamSetter$Group" (⟨"BeamSetter$Group", "slopeOf", "(I)I"⟩ : MethodName) ⟨"BeamSetter$Group", "slopeOf", "(I)I"⟩ ∈ TW := tw_in 37 (by decide +kernel) rfl
set_option maxRecDepth 20000 in
theorem k_s38 : Cond.selects "BeamSetter$Group" (⟨"BeamSetter$Group", "stemsAt", "(I)I"⟩ : MethodName) ⟨"BeamSetter$Group", "stemsAt", "(I)I"⟩ ∈ TW := tw_in 38 (by decide +kernel) rfl
set_option maxRecDepth 20000 in
theorem k_s39 : Cond.selects "BeamSetter$Group" (⟨"BeamSetter$Group", "staffAt", "(II)I"⟩ : MethodName) ⟨"BeamSetter$Group", "staffAt", "(II)I"⟩ ∈ TW := tw_in 39 (by decide +kernel) rfl
set_option maxRecDepth 20000 in
theorem k_s40 : Cond.selects "BeamSetter$Group" (⟨"BeamSetter$Group", "staffAtEnd", "(III)I"⟩ : MethodName) ⟨"BeamSetter$Group", "staffAtEnd", "(III)I"⟩ ∈ TW := tw_in 40 (by decide +kernel) rfl
set_option maxRecDepth 20000 in
theorem k_s41 : Cond.selects "BeamSetter$Group" (⟨"BeamSetter$Group", "keyAt", "(III)J"⟩ : MethodName) ⟨"BeamSetter$Group", "keyAt", "(III)J"⟩ ∈ TW := tw_in 41 (by decide +kernel) rfl
set_option maxRecDepth 20000 in
theorem k_s42 : Cond.selects "BeamSetter$Group" (⟨"BeamSetter$Group", "heightIn", "(J)I"⟩ : MethodName) ⟨"BeamSetter$Group", "heightIn", "(J)I"⟩ ∈ TW := tw_in 42 (by decide +kernel) rfl
set_option maxRecDepth 20000 in
theorem k_s43 : Cond.selects "BeamSetter" (⟨"BeamSetter", "isGrouped", "(I)Z"⟩ : MethodName) ⟨"BeamSetter", "isGrouped", "(I)Z"⟩ ∈ TW := tw_in 43 (by decide +kernel) rfl
set_option maxRecDepth 20000 in
theorem k_s44 : Cond.selects "BeamSetter" (⟨"BeamSetter", "tryShifted", "(I)Z"⟩ : MethodName) ⟨"BeamSetter", "tryShifted", "(I)Z"⟩ ∈ TW := tw_in 44 (by decide +kernel) rfl
set_option maxRecDepth 20000 in
theorem k_s45 : Cond.selects "BeamSetter" (⟨"BeamSetter", "loadTried", "(I)V"⟩ : MethodName) ⟨"BeamSetter", "loadTried", "(I)V"⟩ ∈ TW := tw_in 45 (by decide +kernel) rfl
set_option maxRecDepth 20000 in
theorem k_s46 : Cond.selects "BeamSetter" (⟨"BeamSetter", "loadAround", "(I)I"⟩ : MethodName) ⟨"BeamSetter", "loadAround", "(I)I"⟩ ∈ TW := tw_in 46 (by decide +kernel) rfl
set_option maxRecDepth 20000 in
theorem k_48 : (Cond.initialized "BeamSetterLaw") ∈ TW := tw_in 48 (by decide +kernel) rfl
set_option maxRecDepth 20000 in
theorem k_49 : (Cond.initialized "BeamSetter") ∈ TW := tw_in 49 (by decide +kernel) rfl
set_option maxRecDepth 20000 in
theorem k_50 : (Cond.initialized "BeamSetter$Tape") ∈ TW := tw_in 50 (by decide +kernel) rfl
set_option maxRecDepth 20000 in
theorem k_51 : (Cond.initialized "BeamSetter$History") ∈ TW := tw_in 51 (by decide +kernel) rfl
set_option maxRecDepth 20000 in
theorem k_52 : (Cond.initialized "BeamSetter$Group") ∈ TW := tw_in 52 (by decide +kernel) rfl
set_option maxRecDepth 20000 in
theorem k_53 : (Cond.initialized "BeamSetter$Totals") ∈ TW := tw_in 53 (by decide +kernel) rfl
set_option maxRecDepth 20000 in
theorem k_55 : (Cond.initialized "BeamSetter$Piece") ∈ TW := tw_in 55 (by decide +kernel) rfl
set_option maxRecDepth 20000 in
theorem k_56 : (Cond.initialized "java/lang/Math") ∈ TW := tw_in 56 (by decide +kernel) rfl
set_option maxRecDepth 20000 in
theorem k_57 : (Cond.initialized "BeamSetter$Reader") ∈ TW := tw_in 57 (by decide +kernel) rfl
set_option maxRecDepth 20000 in
theorem k_68 : (Cond.initialized "java/lang/Integer") ∈ TW := tw_in 68 (by decide +kernel) rfl
set_option maxRecDepth 20000 in
theorem k_88 : (Cond.fieldLink "BeamSetter$Tape" (9 : Nat) "BeamSetter$Tape" "bytes" "[I") ∈ TW := tw_in 88 (by decide +kernel) rfl
set_option maxRecDepth 20000 in
theorem k_90 : (Cond.fieldLink "BeamSetter$Tape" (13 : Nat) "BeamSetter$Tape" "size" "I") ∈ TW := tw_in 90 (by decide +kernel) rfl
set_option maxRecDepth 20000 in
theorem k_91 : (Cond.fieldLink "BeamSetter" (78 : Nat) "BeamSetter$Tape" "size" "I") ∈ TW := tw_in 91 (by decide +kernel) rfl
set_option maxRecDepth 20000 in
theorem k_97 : (Cond.arrayClass FieldType.int) ∈ TW := tw_in 97 (by decide +kernel) rfl
set_option maxRecDepth 20000 in
theorem k_104 : (Cond.fieldLink "BeamSetter$History" (11 : Nat) "BeamSetter$History" "who" "[I") ∈ TW := tw_in 104 (by decide +kernel) rfl
set_option maxRecDepth 20000 in
theorem k_105 : (Cond.fieldLink "BeamSetter$History" (15 : Nat) "BeamSetter$History" "where" "[I") ∈ TW := tw_in 105 (by decide +kernel) rfl
set_option maxRecDepth 20000 in
theorem k_106 : (Cond.fieldLink "BeamSetter$History" (18 : Nat) "BeamSetter$History" "size" "I") ∈ TW := tw_in 106 (by decide +kernel) rfl
set_option maxRecDepth 20000 in
theorem k_107 : (Cond.fieldLink "BeamSetter" (86 : Nat) "BeamSetter$History" "size" "I") ∈ TW := tw_in 107 (by decide +kernel) rfl
set_option maxRecDepth 20000 in
theorem k_121 : (Cond.fieldLink "BeamSetter$Group" (53 : Nat) "BeamSetter$Group" "size" "I") ∈ TW := tw_in 121 (by decide +kernel) rfl
set_option maxRecDepth 20000 in
theorem k_122 : (Cond.fieldLink "BeamSetter" (182 : Nat) "BeamSetter$Group" "size" "I") ∈ TW := tw_in 122 (by decide +kernel) rfl
set_option maxRecDepth 20000 in
theorem k_123 : (Cond.fieldLink "BeamSetter$Group" (62 : Nat) "BeamSetter$Group" "last" "I") ∈ TW := tw_in 123 (by decide +kernel) rfl
set_option maxRecDepth 20000 in
theorem k_124 : (Cond.fieldLink "BeamSetter$Group" (65 : Nat) "BeamSetter$Group" "span" "I") ∈ TW := tw_in 124 (by decide +kernel) rfl
set_option maxRecDepth 20000 in
theorem k_125 : (Cond.fieldLink "BeamSetter" (187 : Nat) "BeamSetter$Group" "span" "I") ∈ TW := tw_in 125 (by decide +kernel) rfl
set_option maxRecDepth 20000 in
theorem k_126 : (Cond.fieldLink "BeamSetter$Group" (101 : Nat) "BeamSetter$Group" "wanted" "I") ∈ TW := tw_in 126 (by decide +kernel) rfl
set_option maxRecDepth 20000 in
theorem k_127 : (Cond.fieldLink "BeamSetter$Group" (83 : Nat) "BeamSetter$Group" "kneed" "Z") ∈ TW := tw_in 127 (by decide +kernel) rfl
set_option maxRecDepth 20000 in
theorem k_128 : (Cond.fieldLink "BeamSetter$Totals" (42 : Nat) "BeamSetter$Group" "kneed" "Z") ∈ TW := tw_in 128 (by decide +kernel) rfl
set_option maxRecDepth 20000 in
theorem k_129 : (Cond.fieldLink "BeamSetter" (183 : Nat) "BeamSetter$Group" "kneed" "Z") ∈ TW := tw_in 129 (by decide +kernel) rfl
set_option maxRecDepth 20000 in
theorem k_130 : (Cond.fieldLink "BeamSetter$Group" (13 : Nat) "BeamSetter$Group" "xs" "[I") ∈ TW := tw_in 130 (by decide +kernel) rfl
set_option maxRecDepth 20000 in
theorem k_131 : (Cond.fieldLink "BeamSetter$Group" (17 : Nat) "BeamSetter$Group" "heads" "[I") ∈ TW := tw_in 131 (by decide +kernel) rfl
set_option maxRecDepth 20000 in
theorem k_132 : (Cond.fieldLink "BeamSetter$Group" (20 : Nat) "BeamSetter$Group" "beams" "[I") ∈ TW := tw_in 132 (by decide +kernel) rfl
set_option maxRecDepth 20000 in
theorem k_133 : (Cond.fieldLink "BeamSetter$Group" (23 : Nat) "BeamSetter$Group" "ways" "[I") ∈ TW := tw_in 133 (by decide +kernel) rfl
set_option maxRecDepth 20000 in
theorem k_134 : (Cond.fieldLink "BeamSetter" (148 : Nat) "BeamSetter$Group" "ways" "[I") ∈ TW := tw_in 134 (by decide +kernel) rfl
set_option maxRecDepth 20000 in
theorem k_135 : (Cond.fieldLink "BeamSetter$Group" (26 : Nat) "BeamSetter$Group" "ideals" "[I") ∈ TW := tw_in 135 (by decide +kernel) rfl
set_option maxRecDepth 20000 in
theorem k_136 : (Cond.fieldLink "BeamSetter$Group" (29 : Nat) "BeamSetter$Group" "keys" "[J") ∈ TW := tw_in 136 (by decide +kernel) rfl
set_option maxRecDepth 20000 in
theorem k_137 : (Cond.fieldLink "BeamSetter" (222 : Nat) "BeamSetter$Group" "keys" "[J") ∈ TW := tw_in 137 (by decide +kernel) rfl
set_option maxRecDepth 20000 in
theorem k_138 : (Cond.fieldLink "BeamSetter$Group" (54 : Nat) "BeamSetter$Group" "keyCount" "I") ∈ TW := tw_in 138 (by decide +kernel) rfl
set_option maxRecDepth 20000 in
theorem k_139 : (Cond.fieldLink "BeamSetter$Group" (33 : Nat) "BeamSetter$Group" "taken" "[Z") ∈ TW := tw_in 139 (by decide +kernel) rfl
set_option maxRecDepth 20000 in
theorem k_140 : (Cond.fieldLink "BeamSetter$Group" (37 : Nat) "BeamSetter$Group" "bases" "[I") ∈ TW := tw_in 140 (by decide +kernel) rfl
set_option maxRecDepth 20000 in
theorem k_141 : (Cond.fieldLink "BeamSetter$Group" (110 : Nat) "BeamSetter$Group" "baseSum" "I") ∈ TW := tw_in 141 (by decide +kernel) rfl
set_option maxRecDepth 20000 in
theorem k_142 : (Cond.fieldLink "BeamSetter$Group" (91 : Nat) "BeamSetter$Group" "waySum" "I") ∈ TW := tw_in 142 (by decide +kernel) rfl
set_option maxRecDepth 20000 in
theorem k_143 : (Cond.fieldLink "BeamSetter$Group" (104 : Nat) "BeamSetter$Group" "low" "I") ∈ TW := tw_in 143 (by decide +kernel) rfl
set_option maxRecDepth 20000 in
theorem k_144 : (Cond.fieldLink "BeamSetter$Group" (107 : Nat) "BeamSetter$Group" "high" "I") ∈ TW := tw_in 144 (by decide +kernel) rfl
set_option maxRecDepth 20000 in
theorem k_182 : (Cond.arrayClass FieldType.long) ∈ TW := tw_in 182 (by decide +kernel) rfl
set_option maxRecDepth 20000 in
theorem k_190 : (Cond.fieldLink "BeamSetter$Totals" (9 : Nat) "BeamSetter$Totals" "ugliness" "I") ∈ TW := tw_in 190 (by decide +kernel) rfl
set_option maxRecDepth 20000 in
theorem k_191 : (Cond.fieldLink "BeamSetter$Totals" (15 : Nat) "BeamSetter$Totals" "aside" "I") ∈ TW := tw_in 191 (by decide +kernel) rfl
set_option maxRecDepth 20000 in
theorem k_192 : (Cond.fieldLink "BeamSetter$Totals" (18 : Nat) "BeamSetter$Totals" "worst" "I") ∈ TW := tw_in 192 (by decide +kernel) rfl
set_option maxRecDepth 20000 in
theorem k_193 : (Cond.fieldLink "BeamSetter$Totals" (21 : Nat) "BeamSetter$Totals" "kneed" "I") ∈ TW := tw_in 193 (by decide +kernel) rfl
set_option maxRecDepth 20000 in
theorem k_225 : (Cond.instanceMethod ({ cls := "BeamSetter$Piece", name := "clear", desc := "()V" } : MethodName)) ∈ TW := tw_in 225 (by decide +kernel) rfl
set_option maxRecDepth 20000 in
theorem k_226 : (Cond.selects "BeamSetter$Piece" ({ cls := "BeamSetter$Piece", name := "clear", desc := "()V" } : MethodName) ({ cls := "BeamSetter$Piece", name := "clear", desc := "()V" } : MethodName)) ∈ TW := tw_in 226 (by decide +kernel) rfl
set_option maxRecDepth 20000 in
theorem k_227 : (Cond.code ({ cls := "BeamSetter$Piece", name := "clear", desc := "()V" } : MethodName) prog_4_method_2_code (1 : Nat) (none : Option FieldType)) ∈ TW := tw_in 227 (by decide +kernel) rfl
set_option maxRecDepth 20000 in
theorem k_228 : (Cond.methodLink "BeamSetter$Piece" (59 : Nat) ({ cls := "BeamSetter$Piece", name := "setMetre", desc := "(II)V" } : MethodName)) ∈ TW := tw_in 228 (by decide +kernel) rfl
set_option maxRecDepth 20000 in
theorem k_229 : (Cond.instanceMethod ({ cls := "BeamSetter$Piece", name := "setMetre", desc := "(II)V" } : MethodName)) ∈ TW := tw_in 229 (by decide +kernel) rfl
set_option maxRecDepth 20000 in
theorem k_230 : (Cond.selects "BeamSetter$Piece" ({ cls := "BeamSetter$Piece", name := "setMetre", desc := "(II)V" } : MethodName) ({ cls := "BeamSetter$Piece", name := "setMetre", desc := "(II)V" } : MethodName)) ∈ TW := tw_in 230 (by decide +kernel) rfl
set_option maxRecDepth 20000 in
theorem k_231 : (Cond.code ({ cls := "BeamSetter$Piece", name := "setMetre", desc := "(II)V" } : MethodName) prog_4_method_3_code (5 : Nat) (none : Option FieldType)) ∈ TW := tw_in 231 (by decide +kernel) rfl
set_option maxRecDepth 20000 in
theorem k_232 : (Cond.methodLink "BeamSetter$Piece" (63 : Nat) ({ cls := "java/lang/Math", name := "min", desc := "(II)I" } : MethodName)) ∈ TW := tw_in 232 (by decide +kernel) rfl
set_option maxRecDepth 20000 in
theorem k_233 : (Cond.static ({ cls := "java/lang/Math", name := "min", desc := "(II)I" } : MethodName)) ∈ TW := tw_in 233 (by decide +kernel) rfl
set_option maxRecDepth 20000 in
theorem k_234 : (Cond.code ({ cls := "java/lang/Math", name := "min", desc := "(II)I" } : MethodName) prog_20_method_69_code (2 : Nat) (some FieldType.int)) ∈ TW := tw_in 234 (by decide +kernel) rfl
set_option maxRecDepth 20000 in
theorem k_235 : (Cond.fieldLink "BeamSetter$Piece" (46 : Nat) "BeamSetter$Piece" "lines" "I") ∈ TW := tw_in 235 (by decide +kernel) rfl
set_option maxRecDepth 20000 in
theorem k_236 : (Cond.fieldLink "BeamSetter$Reader" (60 : Nat) "BeamSetter$Piece" "lines" "I") ∈ TW := tw_in 236 (by decide +kernel) rfl
set_option maxRecDepth 20000 in
theorem k_237 : (Cond.fieldLink "BeamSetter" (87 : Nat) "BeamSetter$Piece" "lines" "I") ∈ TW := tw_in 237 (by decide +kernel) rfl
set_option maxRecDepth 20000 in
theorem k_238 : (Cond.fieldLink "BeamSetter$Piece" (69 : Nat) "BeamSetter$Piece" "beats" "I") ∈ TW := tw_in 238 (by decide +kernel) rfl
set_option maxRecDepth 20000 in
theorem k_239 : (Cond.fieldLink "BeamSetter$Reader" (153 : Nat) "BeamSetter$Piece" "beats" "I") ∈ TW := tw_in 239 (by decide +kernel) rfl
set_option maxRecDepth 20000 in
theorem k_240 : (Cond.fieldLink "BeamSetter" (370 : Nat) "BeamSetter$Piece" "beats" "I") ∈ TW := tw_in 240 (by decide +kernel) rfl
set_option maxRecDepth 20000 in
theorem k_241 : (Cond.fieldLink "BeamSetter$Piece" (72 : Nat) "BeamSetter$Piece" "unit" "I") ∈ TW := tw_in 241 (by decide +kernel) rfl
set_option maxRecDepth 20000 in
theorem k_242 : (Cond.fieldLink "BeamSetter" (373 : Nat) "BeamSetter$Piece" "unit" "I") ∈ TW := tw_in 242 (by decide +kernel) rfl
set_option maxRecDepth 20000 in
theorem k_243 : (Cond.fieldLink "BeamSetter$Piece" (56 : Nat) "BeamSetter$Piece" "knee" "I") ∈ TW := tw_in 243 (by decide +kernel) rfl
set_option maxRecDepth 20000 in
theorem k_244 : (Cond.fieldLink "BeamSetter$Reader" (162 : Nat) "BeamSetter$Piece" "knee" "I") ∈ TW := tw_in 244 (by decide +kernel) rfl
set_option maxRecDepth 20000 in
theorem k_245 : (Cond.fieldLink "BeamSetter" (294 : Nat) "BeamSetter$Piece" "knee" "I") ∈ TW := tw_in 245 (by decide +kernel) rfl
set_option maxRecDepth 20000 in
theorem k_246 : (Cond.fieldLink "BeamSetter$Piece" (75 : Nat) "BeamSetter$Piece" "partCount" "I") ∈ TW := tw_in 246 (by decide +kernel) rfl
set_option maxRecDepth 20000 in
theorem k_247 : (Cond.fieldLink "BeamSetter$Reader" (159 : Nat) "BeamSetter$Piece" "partCount" "I") ∈ TW := tw_in 247 (by decide +kernel) rfl
set_option maxRecDepth 20000 in
theorem k_248 : (Cond.fieldLink "BeamSetter" (376 : Nat) "BeamSetter$Piece" "partCount" "I") ∈ TW := tw_in 248 (by decide +kernel) rfl
set_option maxRecDepth 20000 in
theorem k_249 : (Cond.fieldLink "BeamSetter$Piece" (9 : Nat) "BeamSetter$Piece" "parts" "[I") ∈ TW := tw_in 249 (by decide +kernel) rfl
set_option maxRecDepth 20000 in
theorem k_250 : (Cond.fieldLink "BeamSetter$Reader" (156 : Nat) "BeamSetter$Piece" "parts" "[I") ∈ TW := tw_in 250 (by decide +kernel) rfl
set_option maxRecDepth 20000 in
theorem k_251 : (Cond.fieldLink "BeamSetter$Piece" (15 : Nat) "BeamSetter$Piece" "widths" "[I") ∈ TW := tw_in 251 (by decide +kernel) rfl
set_option maxRecDepth 20000 in
theorem k_252 : (Cond.fieldLink "BeamSetter$Reader" (171 : Nat) "BeamSetter$Piece" "widths" "[I") ∈ TW := tw_in 252 (by decide +kernel) rfl
set_option maxRecDepth 20000 in
theorem k_253 : (Cond.fieldLink "BeamSetter" (379 : Nat) "BeamSetter$Piece" "widths" "[I") ∈ TW := tw_in 253 (by decide +kernel) rfl
set_option maxRecDepth 20000 in
theorem k_254 : (Cond.fieldLink "BeamSetter$Piece" (50 : Nat) "BeamSetter$Piece" "size" "I") ∈ TW := tw_in 254 (by decide +kernel) rfl
set_option maxRecDepth 20000 in
theorem k_255 : (Cond.fieldLink "BeamSetter$Group" (40 : Nat) "BeamSetter$Piece" "size" "I") ∈ TW := tw_in 255 (by decide +kernel) rfl
set_option maxRecDepth 20000 in
theorem k_256 : (Cond.fieldLink "BeamSetter$Reader" (78 : Nat) "BeamSetter$Piece" "size" "I") ∈ TW := tw_in 256 (by decide +kernel) rfl
set_option maxRecDepth 20000 in
theorem k_257 : (Cond.fieldLink "BeamSetter" (322 : Nat) "BeamSetter$Piece" "size" "I") ∈ TW := tw_in 257 (by decide +kernel) rfl
set_option maxRecDepth 20000 in
theorem k_258 : (Cond.fieldLink "BeamSetter$Piece" (18 : Nat) "BeamSetter$Piece" "kinds" "[I") ∈ TW := tw_in 258 (by decide +kernel) rfl
set_option maxRecDepth 20000 in
theorem k_259 : (Cond.fieldLink "BeamSetter$Piece" (21 : Nat) "BeamSetter$Piece" "sounds" "[Z") ∈ TW := tw_in 259 (by decide +kernel) rfl
set_option maxRecDepth 20000 in
theorem k_260 : (Cond.fieldLink "BeamSetter" (109 : Nat) "BeamSetter$Piece" "sounds" "[Z") ∈ TW := tw_in 260 (by decide +kernel) rfl
set_option maxRecDepth 20000 in
theorem k_261 : (Cond.fieldLink "BeamSetter$Piece" (25 : Nat) "BeamSetter$Piece" "heads" "[I") ∈ TW := tw_in 261 (by decide +kernel) rfl
set_option maxRecDepth 20000 in
theorem k_262 : (Cond.fieldLink "BeamSetter" (144 : Nat) "BeamSetter$Piece" "heads" "[I") ∈ TW := tw_in 262 (by decide +kernel) rfl
set_option maxRecDepth 20000 in
theorem k_263 : (Cond.fieldLink "BeamSetter$Piece" (28 : Nat) "BeamSetter$Piece" "times" "[I") ∈ TW := tw_in 263 (by decide +kernel) rfl
set_option maxRecDepth 20000 in
theorem k_264 : (Cond.fieldLink "BeamSetter$Piece" (31 : Nat) "BeamSetter$Piece" "xs" "[I") ∈ TW := tw_in 264 (by decide +kernel) rfl
set_option maxRecDepth 20000 in
theorem k_265 : (Cond.fieldLink "BeamSetter$Group" (57 : Nat) "BeamSetter$Piece" "xs" "[I") ∈ TW := tw_in 265 (by decide +kernel) rfl
set_option maxRecDepth 20000 in
theorem k_266 : (Cond.fieldLink "BeamSetter$Piece" (34 : Nat) "BeamSetter$Piece" "groupOf" "[I") ∈ TW := tw_in 266 (by decide +kernel) rfl
set_option maxRecDepth 20000 in
theorem k_267 : (Cond.fieldLink "BeamSetter" (130 : Nat) "BeamSetter$Piece" "groupOf" "[I") ∈ TW := tw_in 267 (by decide +kernel) rfl
set_option maxRecDepth 20000 in
theorem k_268 : (Cond.fieldLink "BeamSetter$Piece" (53 : Nat) "BeamSetter$Piece" "groups" "I") ∈ TW := tw_in 268 (by decide +kernel) rfl
set_option maxRecDepth 20000 in
theorem k_269 : (Cond.fieldLink "BeamSetter$Totals" (24 : Nat) "BeamSetter$Piece" "groups" "I") ∈ TW := tw_in 269 (by decide +kernel) rfl
set_option maxRecDepth 20000 in
theorem k_270 : (Cond.fieldLink "BeamSetter" (316 : Nat) "BeamSetter$Piece" "groups" "I") ∈ TW := tw_in 270 (by decide +kernel) rfl
set_option maxRecDepth 20000 in
theorem k_271 : (Cond.fieldLink "BeamSetter$Piece" (37 : Nat) "BeamSetter$Piece" "firsts" "[I") ∈ TW := tw_in 271 (by decide +kernel) rfl
set_option maxRecDepth 20000 in
theorem k_272 : (Cond.fieldLink "BeamSetter$Totals" (29 : Nat) "BeamSetter$Piece" "firsts" "[I") ∈ TW := tw_in 272 (by decide +kernel) rfl
set_option maxRecDepth 20000 in
theorem k_273 : (Cond.fieldLink "BeamSetter" (179 : Nat) "BeamSetter$Piece" "firsts" "[I") ∈ TW := tw_in 273 (by decide +kernel) rfl
set_option maxRecDepth 20000 in
theorem k_274 : (Cond.fieldLink "BeamSetter$Piece" (40 : Nat) "BeamSetter$Piece" "lengths" "[I") ∈ TW := tw_in 274 (by decide +kernel) rfl
set_option maxRecDepth 20000 in
theorem k_275 : (Cond.fieldLink "BeamSetter$Totals" (33 : Nat) "BeamSetter$Piece" "lengths" "[I") ∈ TW := tw_in 275 (by decide +kernel) rfl
set_option maxRecDepth 20000 in
theorem k_276 : (Cond.fieldLink "BeamSetter" (341 : Nat) "BeamSetter$Piece" "lengths" "[I") ∈ TW := tw_in 276 (by decide +kernel) rfl
set_option maxRecDepth 20000 in
theorem k_318 : (Cond.fieldLink "BeamSetter$Reader" (42 : Nat) "BeamSetter$Reader" "fault" "I") ∈ TW := tw_in 318 (by decide +kernel) rfl
set_option maxRecDepth 20000 in
theorem k_319 : (Cond.fieldLink "BeamSetter$Reader" (9 : Nat) "BeamSetter$Reader" "place" "I") ∈ TW := tw_in 319 (by decide +kernel) rfl
set_option maxRecDepth 20000 in
theorem k_320 : (Cond.fieldLink "BeamSetter$Reader" (22 : Nat) "BeamSetter$Reader" "bytes" "[I") ∈ TW := tw_in 320 (by decide +kernel) rfl
set_option maxRecDepth 20000 in
theorem k_321 : (Cond.fieldLink "BeamSetter$Reader" (36 : Nat) "BeamSetter$Reader" "length" "I") ∈ TW := tw_in 321 (by decide +kernel) rfl
set_option maxRecDepth 20000 in
theorem k_322 : (Cond.fieldLink "BeamSetter$Reader" (39 : Nat) "BeamSetter$Reader" "at" "I") ∈ TW := tw_in 322 (by decide +kernel) rfl
set_option maxRecDepth 20000 in
theorem k_323 : (Cond.fieldLink "BeamSetter$Reader" (136 : Nat) "BeamSetter$Reader" "value" "I") ∈ TW := tw_in 323 (by decide +kernel) rfl
set_option maxRecDepth 20000 in
theorem k_324 : (Cond.fieldLink "BeamSetter$Reader" (130 : Nat) "BeamSetter$Reader" "start" "I") ∈ TW := tw_in 324 (by decide +kernel) rfl
set_option maxRecDepth 20000 in
theorem k_325 : (Cond.fieldLink "BeamSetter$Reader" (26 : Nat) "BeamSetter$Reader" "piece" "LBeamSetter$Piece;") ∈ TW := tw_in 325 (by decide +kernel) rfl
set_option maxRecDepth 20000 in
theorem k_326 : (Cond.fieldLink "BeamSetter$Reader" (15 : Nat) "BeamSetter$Reader" "told" "[Z") ∈ TW := tw_in 326 (by decide +kernel) rfl
set_option maxRecDepth 20000 in
theorem k_327 : (Cond.fieldLink "BeamSetter$Reader" (19 : Nat) "BeamSetter$Reader" "toldWide" "[Z") ∈ TW := tw_in 327 (by decide +kernel) rfl
set_option maxRecDepth 20000 in
theorem k_349 : (Cond.fieldLink "BeamSetter" (10 : Nat) "BeamSetter" "tape" "LBeamSetter$Tape;") ∈ TW := tw_in 349 (by decide +kernel) rfl
set_option maxRecDepth 20000 in
theorem k_350 : (Cond.fieldLink "BeamSetter" (66 : Nat) "BeamSetter" "reader" "LBeamSetter$Reader;") ∈ TW := tw_in 350 (by decide +kernel) rfl
set_option maxRecDepth 20000 in
theorem k_351 : (Cond.fieldLink "BeamSetter" (19 : Nat) "BeamSetter" "history" "LBeamSetter$History;") ∈ TW := tw_in 351 (by decide +kernel) rfl
set_option maxRecDepth 20000 in
theorem k_352 : (Cond.fieldLink "BeamSetter" (26 : Nat) "BeamSetter" "group" "LBeamSetter$Group;") ∈ TW := tw_in 352 (by decide +kernel) rfl
set_option maxRecDepth 20000 in
theorem k_353 : (Cond.fieldLink "BeamSetter" (33 : Nat) "BeamSetter" "totals" "LBeamSetter$Totals;") ∈ TW := tw_in 353 (by decide +kernel) rfl
set_option maxRecDepth 20000 in
theorem k_355 : (Cond.fieldLink "BeamSetter" (46 : Nat) "BeamSetter" "tried" "[I") ∈ TW := tw_in 355 (by decide +kernel) rfl
set_option maxRecDepth 20000 in
theorem k_356 : (Cond.fieldLink "BeamSetter" (51 : Nat) "BeamSetter" "piece" "LBeamSetter$Piece;") ∈ TW := tw_in 356 (by decide +kernel) rfl
set_option maxRecDepth 20000 in
theorem k_357 : (Cond.fieldLink "BeamSetter" (55 : Nat) "BeamSetter" "spare" "LBeamSetter$Piece;") ∈ TW := tw_in 357 (by decide +kernel) rfl
set_option maxRecDepth 20000 in
theorem k_377 : (Cond.methodLink "BeamSetterLaw" (166 : Nat) ({ cls := "BeamSetter", name := "text", desc := "(I)I" } : MethodName)) ∈ TW := tw_in 377 (by decide +kernel) rfl
set_option maxRecDepth 20000 in
theorem k_378 : (Cond.instanceMethod ({ cls := "BeamSetter", name := "text", desc := "(I)I" } : MethodName)) ∈ TW := tw_in 378 (by decide +kernel) rfl
set_option maxRecDepth 20000 in
theorem k_379 : (Cond.selects "BeamSetter" ({ cls := "BeamSetter", name := "text", desc := "(I)I" } : MethodName) ({ cls := "BeamSetter", name := "text", desc := "(I)I" } : MethodName)) ∈ TW := tw_in 379 (by decide +kernel) rfl
set_option maxRecDepth 20000 in
theorem k_380 : (Cond.code ({ cls := "BeamSetter", name := "text", desc := "(I)I" } : MethodName) prog_1_method_3_code (3 : Nat) (some FieldType.int)) ∈ TW := tw_in 380 (by decide +kernel) rfl
set_option maxRecDepth 20000 in
theorem k_381 : (Cond.methodLink "BeamSetter" (82 : Nat) ({ cls := "BeamSetter$Reader", name := "read", desc := "(ILBeamSetter$Piece;)Z" } : MethodName)) ∈ TW := tw_in 381 (by decide +kernel) rfl
set_option maxRecDepth 20000 in
theorem k_382 : (Cond.instanceMethod ({ cls := "BeamSetter$Reader", name := "read", desc := "(ILBeamSetter$Piece;)Z" } : MethodName)) ∈ TW := tw_in 382 (by decide +kernel) rfl
set_option maxRecDepth 20000 in
theorem k_383 : (Cond.selects "BeamSetter$Reader" ({ cls := "BeamSetter$Reader", name := "read", desc := "(ILBeamSetter$Piece;)Z" } : MethodName) ({ cls := "BeamSetter$Reader", name := "read", desc := "(ILBeamSetter$Piece;)Z" } : MethodName)) ∈ TW := tw_in 383 (by decide +kernel) rfl
set_option maxRecDepth 20000 in
theorem k_384 : (Cond.code ({ cls := "BeamSetter$Reader", name := "read", desc := "(ILBeamSetter$Piece;)Z" } : MethodName) prog_5_method_2_code (4 : Nat) (some FieldType.boolean)) ∈ TW := tw_in 384 (by decide +kernel) rfl
set_option maxRecDepth 20000 in
theorem k_385 : (Cond.methodLink "BeamSetter$Reader" (30 : Nat) ({ cls := "java/lang/Math", name := "min", desc := "(II)I" } : MethodName)) ∈ TW := tw_in 385 (by decide +kernel) rfl
set_option maxRecDepth 20000 in
theorem k_386 : (Cond.methodLink "BeamSetter$Reader" (45 : Nat) ({ cls := "BeamSetter$Piece", name := "clear", desc := "()V" } : MethodName)) ∈ TW := tw_in 386 (by decide +kernel) rfl
set_option maxRecDepth 20000 in
theorem k_387 : (Cond.methodLink "BeamSetter$Reader" (50 : Nat) ({ cls := "BeamSetter$Reader", name := "forgetTold", desc := "()V" } : MethodName)) ∈ TW := tw_in 387 (by decide +kernel) rfl
set_option maxRecDepth 20000 in
theorem k_389 : (Cond.instanceMethod ({ cls := "BeamSetter$Reader", name := "forgetTold", desc := "()V" } : MethodName)) ∈ TW := tw_in 389 (by decide +kernel) rfl
set_option maxRecDepth 20000 in
theorem k_390 : (Cond.code ({ cls := "BeamSetter$Reader", name := "forgetTold", desc := "()V" } : MethodName) prog_5_method_3_code (2 : Nat) (none : Option FieldType)) ∈ TW := tw_in 390 (by decide +kernel) rfl
set_option maxRecDepth 20000 in
theorem k_391 : (Cond.methodLink "BeamSetter$Reader" (53 : Nat) ({ cls := "BeamSetter$Reader", name := "skipBlanks", desc := "()V" } : MethodName)) ∈ TW := tw_in 391 (by decide +kernel) rfl
set_option maxRecDepth 20000 in
theorem k_393 : (Cond.instanceMethod ({ cls := "BeamSetter$Reader", name := "skipBlanks", desc := "()V" } : MethodName)) ∈ TW := tw_in 393 (by decide +kernel) rfl
set_option maxRecDepth 20000 in
theorem k_394 : (Cond.code ({ cls := "BeamSetter$Reader", name := "skipBlanks", desc := "()V" } : MethodName) prog_5_method_8_code (1 : Nat) (none : Option FieldType)) ∈ TW := tw_in 394 (by decide +kernel) rfl
set_option maxRecDepth 20000 in
theorem k_395 : (Cond.methodLink "BeamSetter$Reader" (56 : Nat) ({ cls := "BeamSetter$Reader", name := "readLine", desc := "()Z" } : MethodName)) ∈ TW := tw_in 395 (by decide +kernel) rfl
set_option maxRecDepth 20000 in
theorem k_397 : (Cond.instanceMethod ({ cls := "BeamSetter$Reader", name := "readLine", desc := "()Z" } : MethodName)) ∈ TW := tw_in 397 (by decide +kernel) rfl
set_option maxRecDepth 20000 in
theorem k_398 : (Cond.code ({ cls := "BeamSetter$Reader", name := "readLine", desc := "()Z" } : MethodName) prog_5_method_9_code (4 : Nat) (some FieldType.boolean)) ∈ TW := tw_in 398 (by decide +kernel) rfl
set_option maxRecDepth 20000 in
theorem k_399 : (Cond.methodLink "BeamSetter$Reader" (66 : Nat) ({ cls := "BeamSetter$Reader", name := "takeWord", desc := "()I" } : MethodName)) ∈ TW := tw_in 399 (by decide +kernel) rfl
set_option maxRecDepth 20000 in
theorem k_401 : (Cond.instanceMethod ({ cls := "BeamSetter$Reader", name := "takeWord", desc := "()I" } : MethodName)) ∈ TW := tw_in 401 (by decide +kernel) rfl
set_option maxRecDepth 20000 in
theorem k_402 : (Cond.code ({ cls := "BeamSetter$Reader", name := "takeWord", desc := "()I" } : MethodName) prog_5_method_11_code (2 : Nat) (some FieldType.int)) ∈ TW := tw_in 402 (by decide +kernel) rfl
set_option maxRecDepth 20000 in
theorem k_403 : (Cond.methodLink "BeamSetter$Reader" (100 : Nat) ({ cls := "BeamSetter$Reader", name := "isLetterHere", desc := "()Z" } : MethodName)) ∈ TW := tw_in 403 (by decide +kernel) rfl
set_option maxRecDepth 20000 in
theorem k_405 : (Cond.instanceMethod ({ cls := "BeamSetter$Reader", name := "isLetterHere", desc := "()Z" } : MethodName)) ∈ TW := tw_in 405 (by decide +kernel) rfl
set_option maxRecDepth 20000 in
theorem k_406 : (Cond.code ({ cls := "BeamSetter$Reader", name := "isLetterHere", desc := "()Z" } : MethodName) prog_5_method_7_code (1 : Nat) (some FieldType.boolean)) ∈ TW := tw_in 406 (by decide +kernel) rfl
set_option maxRecDepth 20000 in
theorem k_408 : (Cond.methodLink "BeamSetter$Reader" (105 : Nat) ({ cls := "BeamSetter$Reader", name := "spells", desc := "(ILjava/lang/String;)Z" } : MethodName)) ∈ TW := tw_in 408 (by decide +kernel) rfl
set_option maxRecDepth 20000 in
theorem k_410 : (Cond.instanceMethod ({ cls := "BeamSetter$Reader", name := "spells", desc := "(ILjava/lang/String;)Z" } : MethodName)) ∈ TW := tw_in 410 (by decide +kernel) rfl
set_option maxRecDepth 20000 in
theorem k_411 : (Cond.code ({ cls := "BeamSetter$Reader", name := "spells", desc := "(ILjava/lang/String;)Z" } : MethodName) prog_5_method_12_code (4 : Nat) (some FieldType.boolean)) ∈ TW := tw_in 411 (by decide +kernel) rfl
set_option maxRecDepth 20000 in
theorem k_465 : (Cond.methodLink "BeamSetter$Reader" (70 : Nat) ({ cls := "BeamSetter$Reader", name := "isTooLate", desc := "(I)Z" } : MethodName)) ∈ TW := tw_in 465 (by decide +kernel) rfl
set_option maxRecDepth 20000 in
theorem k_467 : (Cond.instanceMethod ({ cls := "BeamSetter$Reader", name := "isTooLate", desc := "(I)Z" } : MethodName)) ∈ TW := tw_in 467 (by decide +kernel) rfl
set_option maxRecDepth 20000 in
theorem k_468 : (Cond.code ({ cls := "BeamSetter$Reader", name := "isTooLate", desc := "(I)Z" } : MethodName) prog_5_method_10_code (2 : Nat) (some FieldType.boolean)) ∈ TW := tw_in 468 (by decide +kernel) rfl
set_option maxRecDepth 20000 in
theorem k_469 : (Cond.methodLink "BeamSetter$Reader" (74 : Nat) ({ cls := "BeamSetter$Reader", name := "fail", desc := "(II)Z" } : MethodName)) ∈ TW := tw_in 469 (by decide +kernel) rfl
set_option maxRecDepth 20000 in
theorem k_471 : (Cond.instanceMethod ({ cls := "BeamSetter$Reader", name := "fail", desc := "(II)Z" } : MethodName)) ∈ TW := tw_in 471 (by decide +kernel) rfl
set_option maxRecDepth 20000 in
theorem k_472 : (Cond.code ({ cls := "BeamSetter$Reader", name := "fail", desc := "(II)Z" } : MethodName) prog_5_method_4_code (3 : Nat) (some FieldType.boolean)) ∈ TW := tw_in 472 (by decide +kernel) rfl
set_option maxRecDepth 20000 in
theorem k_473 : (Cond.methodLink "BeamSetter$Reader" (81 : Nat) ({ cls := "BeamSetter$Reader", name := "readMetre", desc := "()Z" } : MethodName)) ∈ TW := tw_in 473 (by decide +kernel) rfl
set_option maxRecDepth 20000 in
theorem k_475 : (Cond.instanceMethod ({ cls := "BeamSetter$Reader", name := "readMetre", desc := "()Z" } : MethodName)) ∈ TW := tw_in 475 (by decide +kernel) rfl
set_option maxRecDepth 20000 in
theorem k_476 : (Cond.code ({ cls := "BeamSetter$Reader", name := "readMetre", desc := "()Z" } : MethodName) prog_5_method_18_code (2 : Nat) (some FieldType.boolean)) ∈ TW := tw_in 476 (by decide +kernel) rfl
set_option maxRecDepth 20000 in
theorem k_477 : (Cond.methodLink "BeamSetter$Reader" (146 : Nat) ({ cls := "BeamSetter$Reader", name := "takeNumberWithin", desc := "(II)Z" } : MethodName)) ∈ TW := tw_in 477 (by decide +kernel) rfl
set_option maxRecDepth 20000 in
theorem k_479 : (Cond.instanceMethod ({ cls := "BeamSetter$Reader", name := "takeNumberWithin", desc := "(II)Z" } : MethodName)) ∈ TW := tw_in 479 (by decide +kernel) rfl
set_option maxRecDepth 20000 in
theorem k_480 : (Cond.code ({ cls := "BeamSetter$Reader", name := "takeNumberWithin", desc := "(II)Z" } : MethodName) prog_5_method_15_code (3 : Nat) (some FieldType.boolean)) ∈ TW := tw_in 480 (by decide +kernel) rfl
set_option maxRecDepth 20000 in
theorem k_481 : (Cond.methodLink "BeamSetter$Reader" (140 : Nat) ({ cls := "BeamSetter$Reader", name := "takeNumber", desc := "()Z" } : MethodName)) ∈ TW := tw_in 481 (by decide +kernel) rfl
set_option maxRecDepth 20000 in
theorem k_483 : (Cond.instanceMethod ({ cls := "BeamSetter$Reader", name := "takeNumber", desc := "()Z" } : MethodName)) ∈ TW := tw_in 483 (by decide +kernel) rfl
set_option maxRecDepth 20000 in
theorem k_484 : (Cond.code ({ cls := "BeamSetter$Reader", name := "takeNumber", desc := "()Z" } : MethodName) prog_5_method_14_code (1 : Nat) (some FieldType.boolean)) ∈ TW := tw_in 484 (by decide +kernel) rfl
set_option maxRecDepth 20000 in
theorem k_485 : (Cond.methodLink "BeamSetter$Reader" (133 : Nat) ({ cls := "BeamSetter$Reader", name := "isDigitHere", desc := "()Z" } : MethodName)) ∈ TW := tw_in 485 (by decide +kernel) rfl
set_option maxRecDepth 20000 in
theorem k_487 : (Cond.instanceMethod ({ cls := "BeamSetter$Reader", name := "isDigitHere", desc := "()Z" } : MethodName)) ∈ TW := tw_in 487 (by decide +kernel) rfl
set_option maxRecDepth 20000 in
theorem k_488 : (Cond.code ({ cls := "BeamSetter$Reader", name := "isDigitHere", desc := "()Z" } : MethodName) prog_5_method_6_code (1 : Nat) (some FieldType.boolean)) ∈ TW := tw_in 488 (by decide +kernel) rfl
set_option maxRecDepth 20000 in
theorem k_489 : (Cond.constant "BeamSetter$Reader" (139 : Nat) (100000 : Int32)) ∈ TW := tw_in 489 (by decide +kernel) rfl
set_option maxRecDepth 20000 in
theorem k_490 : (Cond.methodLink "BeamSetter$Reader" (149 : Nat) ({ cls := "BeamSetter$Piece", name := "setMetre", desc := "(II)V" } : MethodName)) ∈ TW := tw_in 490 (by decide +kernel) rfl
set_option maxRecDepth 20000 in
theorem k_491 : (Cond.methodLink "BeamSetter$Reader" (84 : Nat) ({ cls := "BeamSetter$Reader", name := "readSplit", desc := "()Z" } : MethodName)) ∈ TW := tw_in 491 (by decide +kernel) rfl
set_option maxRecDepth 20000 in
theorem k_493 : (Cond.instanceMethod ({ cls := "BeamSetter$Reader", name := "readSplit", desc := "()Z" } : MethodName)) ∈ TW := tw_in 493 (by decide +kernel) rfl
set_option maxRecDepth 20000 in
theorem k_494 : (Cond.code ({ cls := "BeamSetter$Reader", name := "readSplit", desc := "()Z" } : MethodName) prog_5_method_19_code (4 : Nat) (some FieldType.boolean)) ∈ TW := tw_in 494 (by decide +kernel) rfl
set_option maxRecDepth 20000 in
theorem k_495 : (Cond.methodLink "BeamSetter$Reader" (127 : Nat) ({ cls := "BeamSetter$Reader", name := "here", desc := "()I" } : MethodName)) ∈ TW := tw_in 495 (by decide +kernel) rfl
set_option maxRecDepth 20000 in
theorem k_497 : (Cond.instanceMethod ({ cls := "BeamSetter$Reader", name := "here", desc := "()I" } : MethodName)) ∈ TW := tw_in 497 (by decide +kernel) rfl
set_option maxRecDepth 20000 in
theorem k_498 : (Cond.code ({ cls := "BeamSetter$Reader", name := "here", desc := "()I" } : MethodName) prog_5_method_5_code (1 : Nat) (some FieldType.int)) ∈ TW := tw_in 498 (by decide +kernel) rfl
set_option maxRecDepth 20000 in
theorem k_499 : (Cond.methodLink "BeamSetter$Reader" (87 : Nat) ({ cls := "BeamSetter$Reader", name := "readKnee", desc := "()Z" } : MethodName)) ∈ TW := tw_in 499 (by decide +kernel) rfl
set_option maxRecDepth 20000 in
theorem k_501 : (Cond.instanceMethod ({ cls := "BeamSetter$Reader", name := "readKnee", desc := "()Z" } : MethodName)) ∈ TW := tw_in 501 (by decide +kernel) rfl
set_option maxRecDepth 20000 in
theorem k_502 : (Cond.code ({ cls := "BeamSetter$Reader", name := "readKnee", desc := "()Z" } : MethodName) prog_5_method_20_code (1 : Nat) (some FieldType.boolean)) ∈ TW := tw_in 502 (by decide +kernel) rfl
set_option maxRecDepth 20000 in
theorem k_503 : (Cond.methodLink "BeamSetter$Reader" (90 : Nat) ({ cls := "BeamSetter$Reader", name := "readWide", desc := "()Z" } : MethodName)) ∈ TW := tw_in 503 (by decide +kernel) rfl
set_option maxRecDepth 20000 in
theorem k_505 : (Cond.instanceMethod ({ cls := "BeamSetter$Reader", name := "readWide", desc := "()Z" } : MethodName)) ∈ TW := tw_in 505 (by decide +kernel) rfl
set_option maxRecDepth 20000 in
theorem k_506 : (Cond.code ({ cls := "BeamSetter$Reader", name := "readWide", desc := "()Z" } : MethodName) prog_5_method_21_code (2 : Nat) (some FieldType.boolean)) ∈ TW := tw_in 506 (by decide +kernel) rfl
set_option maxRecDepth 20000 in
theorem k_507 : (Cond.methodLink "BeamSetter$Reader" (164 : Nat) ({ cls := "BeamSetter$Reader", name := "takeKind", desc := "()Z" } : MethodName)) ∈ TW := tw_in 507 (by decide +kernel) rfl
set_option maxRecDepth 20000 in
theorem k_509 : (Cond.instanceMethod ({ cls := "BeamSetter$Reader", name := "takeKind", desc := "()Z" } : MethodName)) ∈ TW := tw_in 509 (by decide +kernel) rfl
set_option maxRecDepth 20000 in
theorem k_510 : (Cond.code ({ cls := "BeamSetter$Reader", name := "takeKind", desc := "()Z" } : MethodName) prog_5_method_16_code (1 : Nat) (some FieldType.boolean)) ∈ TW := tw_in 510 (by decide +kernel) rfl
set_option maxRecDepth 20000 in
theorem k_511 : (Cond.methodLink "BeamSetter$Reader" (143 : Nat) ({ cls := "BeamSetter$Piece", name := "isKind", desc := "(I)Z" } : MethodName)) ∈ TW := tw_in 511 (by decide +kernel) rfl
set_option maxRecDepth 20000 in
theorem k_512 : (Cond.static ({ cls := "BeamSetter$Piece", name := "isKind", desc := "(I)Z" } : MethodName)) ∈ TW := tw_in 512 (by decide +kernel) rfl
set_option maxRecDepth 20000 in
theorem k_513 : (Cond.code ({ cls := "BeamSetter$Piece", name := "isKind", desc := "(I)Z" } : MethodName) prog_4_method_4_code (1 : Nat) (some FieldType.boolean)) ∈ TW := tw_in 513 (by decide +kernel) rfl
set_option maxRecDepth 20000 in
theorem k_514 : (Cond.methodLink "BeamSetter$Reader" (167 : Nat) ({ cls := "BeamSetter$Piece", name := "beamsOfKind", desc := "(I)I" } : MethodName)) ∈ TW := tw_in 514 (by decide +kernel) rfl
set_option maxRecDepth 20000 in
theorem k_515 : (Cond.static ({ cls := "BeamSetter$Piece", name := "beamsOfKind", desc := "(I)I" } : MethodName)) ∈ TW := tw_in 515 (by decide +kernel) rfl
set_option maxRecDepth 20000 in
theorem k_516 : (Cond.code ({ cls := "BeamSetter$Piece", name := "beamsOfKind", desc := "(I)I" } : MethodName) prog_4_method_5_code (1 : Nat) (some FieldType.int)) ∈ TW := tw_in 516 (by decide +kernel) rfl
set_option maxRecDepth 20000 in
theorem k_517 : (Cond.methodLink "BeamSetter$Reader" (93 : Nat) ({ cls := "BeamSetter$Reader", name := "readElement", desc := "(Z)Z" } : MethodName)) ∈ TW := tw_in 517 (by decide +kernel) rfl
set_option maxRecDepth 20000 in
theorem k_519 : (Cond.instanceMethod ({ cls := "BeamSetter$Reader", name := "readElement", desc := "(Z)Z" } : MethodName)) ∈ TW := tw_in 519 (by decide +kernel) rfl
set_option maxRecDepth 20000 in
theorem k_520 : (Cond.code ({ cls := "BeamSetter$Reader", name := "readElement", desc := "(Z)Z" } : MethodName) prog_5_method_22_code (3 : Nat) (some FieldType.boolean)) ∈ TW := tw_in 520 (by decide +kernel) rfl
set_option maxRecDepth 20000 in
theorem k_521 : (Cond.methodLink "BeamSetter$Reader" (174 : Nat) ({ cls := "BeamSetter$Piece", name := "fits", desc := "(I)Z" } : MethodName)) ∈ TW := tw_in 521 (by decide +kernel) rfl
set_option maxRecDepth 20000 in
theorem k_522 : (Cond.instanceMethod ({ cls := "BeamSetter$Piece", name := "fits", desc := "(I)Z" } : MethodName)) ∈ TW := tw_in 522 (by decide +kernel) rfl
set_option maxRecDepth 20000 in
theorem k_523 : (Cond.selects "BeamSetter$Piece" ({ cls := "BeamSetter$Piece", name := "fits", desc := "(I)Z" } : MethodName) ({ cls := "BeamSetter$Piece", name := "fits", desc := "(I)Z" } : MethodName)) ∈ TW := tw_in 523 (by decide +kernel) rfl
set_option maxRecDepth 20000 in
theorem k_524 : (Cond.code ({ cls := "BeamSetter$Piece", name := "fits", desc := "(I)Z" } : MethodName) prog_4_method_11_code (2 : Nat) (some FieldType.boolean)) ∈ TW := tw_in 524 (by decide +kernel) rfl
set_option maxRecDepth 20000 in
theorem k_525 : (Cond.methodLink "BeamSetter$Piece" (92 : Nat) ({ cls := "BeamSetter$Piece", name := "timeOfNext", desc := "()I" } : MethodName)) ∈ TW := tw_in 525 (by decide +kernel) rfl
set_option maxRecDepth 20000 in
theorem k_527 : (Cond.instanceMethod ({ cls := "BeamSetter$Piece", name := "timeOfNext", desc := "()I" } : MethodName)) ∈ TW := tw_in 527 (by decide +kernel) rfl
set_option maxRecDepth 20000 in
theorem k_528 : (Cond.code ({ cls := "BeamSetter$Piece", name := "timeOfNext", desc := "()I" } : MethodName) prog_4_method_9_code (1 : Nat) (some FieldType.int)) ∈ TW := tw_in 528 (by decide +kernel) rfl
set_option maxRecDepth 20000 in
theorem k_529 : (Cond.methodLink "BeamSetter$Piece" (89 : Nat) ({ cls := "BeamSetter$Piece", name := "longOfKind", desc := "(I)I" } : MethodName)) ∈ TW := tw_in 529 (by decide +kernel) rfl
set_option maxRecDepth 20000 in
theorem k_530 : (Cond.static ({ cls := "BeamSetter$Piece", name := "longOfKind", desc := "(I)I" } : MethodName)) ∈ TW := tw_in 530 (by decide +kernel) rfl
set_option maxRecDepth 20000 in
theorem k_531 : (Cond.code ({ cls := "BeamSetter$Piece", name := "longOfKind", desc := "(I)I" } : MethodName) prog_4_method_6_code (1 : Nat) (some FieldType.int)) ∈ TW := tw_in 531 (by decide +kernel) rfl
set_option maxRecDepth 20000 in
theorem k_532 : (Cond.methodLink "BeamSetter$Piece" (78 : Nat) ({ cls := "BeamSetter$Piece", name := "beamsOfKind", desc := "(I)I" } : MethodName)) ∈ TW := tw_in 532 (by decide +kernel) rfl
set_option maxRecDepth 20000 in
theorem k_533 : (Cond.methodLink "BeamSetter$Piece" (95 : Nat) ({ cls := "BeamSetter$Piece", name := "measureLong", desc := "()I" } : MethodName)) ∈ TW := tw_in 533 (by decide +kernel) rfl
set_option maxRecDepth 20000 in
theorem k_535 : (Cond.instanceMethod ({ cls := "BeamSetter$Piece", name := "measureLong", desc := "()I" } : MethodName)) ∈ TW := tw_in 535 (by decide +kernel) rfl
set_option maxRecDepth 20000 in
theorem k_536 : (Cond.code ({ cls := "BeamSetter$Piece", name := "measureLong", desc := "()I" } : MethodName) prog_4_method_8_code (1 : Nat) (some FieldType.int)) ∈ TW := tw_in 536 (by decide +kernel) rfl
set_option maxRecDepth 20000 in
theorem k_537 : (Cond.methodLink "BeamSetter$Piece" (82 : Nat) ({ cls := "BeamSetter$Piece", name := "beatLong", desc := "()I" } : MethodName)) ∈ TW := tw_in 537 (by decide +kernel) rfl
set_option maxRecDepth 20000 in
theorem k_539 : (Cond.instanceMethod ({ cls := "BeamSetter$Piece", name := "beatLong", desc := "()I" } : MethodName)) ∈ TW := tw_in 539 (by decide +kernel) rfl
set_option maxRecDepth 20000 in
theorem k_540 : (Cond.code ({ cls := "BeamSetter$Piece", name := "beatLong", desc := "()I" } : MethodName) prog_4_method_7_code (1 : Nat) (some FieldType.int)) ∈ TW := tw_in 540 (by decide +kernel) rfl
set_option maxRecDepth 20000 in
theorem k_541 : (Cond.methodLink "BeamSetter$Piece" (86 : Nat) ({ cls := "java/lang/Math", name := "max", desc := "(II)I" } : MethodName)) ∈ TW := tw_in 541 (by decide +kernel) rfl
set_option maxRecDepth 20000 in
theorem k_542 : (Cond.static ({ cls := "java/lang/Math", name := "max", desc := "(II)I" } : MethodName)) ∈ TW := tw_in 542 (by decide +kernel) rfl
set_option maxRecDepth 20000 in
theorem k_543 : (Cond.code ({ cls := "java/lang/Math", name := "max", desc := "(II)I" } : MethodName) prog_20_method_65_code (2 : Nat) (some FieldType.int)) ∈ TW := tw_in 543 (by decide +kernel) rfl
set_option maxRecDepth 20000 in
theorem k_544 : (Cond.methodLink "BeamSetter$Reader" (177 : Nat) ({ cls := "BeamSetter$Reader", name := "takePosition", desc := "()Z" } : MethodName)) ∈ TW := tw_in 544 (by decide +kernel) rfl
set_option maxRecDepth 20000 in
theorem k_546 : (Cond.instanceMethod ({ cls := "BeamSetter$Reader", name := "takePosition", desc := "()Z" } : MethodName)) ∈ TW := tw_in 546 (by decide +kernel) rfl
set_option maxRecDepth 20000 in
theorem k_547 : (Cond.code ({ cls := "BeamSetter$Reader", name := "takePosition", desc := "()Z" } : MethodName) prog_5_method_17_code (3 : Nat) (some FieldType.boolean)) ∈ TW := tw_in 547 (by decide +kernel) rfl
set_option maxRecDepth 20000 in
theorem k_548 : (Cond.methodLink "BeamSetter$Reader" (180 : Nat) ({ cls := "BeamSetter$Piece", name := "add", desc := "(ZII)V" } : MethodName)) ∈ TW := tw_in 548 (by decide +kernel) rfl
set_option maxRecDepth 20000 in
theorem k_549 : (Cond.instanceMethod ({ cls := "BeamSetter$Piece", name := "add", desc := "(ZII)V" } : MethodName)) ∈ TW := tw_in 549 (by decide +kernel) rfl
set_option maxRecDepth 20000 in
theorem k_550 : (Cond.selects "BeamSetter$Piece" ({ cls := "BeamSetter$Piece", name := "add", desc := "(ZII)V" } : MethodName) ({ cls := "BeamSetter$Piece", name := "add", desc := "(ZII)V" } : MethodName)) ∈ TW := tw_in 550 (by decide +kernel) rfl
set_option maxRecDepth 20000 in
theorem k_551 : (Cond.code ({ cls := "BeamSetter$Piece", name := "add", desc := "(ZII)V" } : MethodName) prog_4_method_12_code (6 : Nat) (none : Option FieldType)) ∈ TW := tw_in 551 (by decide +kernel) rfl
set_option maxRecDepth 20000 in
theorem k_552 : (Cond.methodLink "BeamSetter$Piece" (98 : Nat) ({ cls := "BeamSetter$Piece", name := "xOfNext", desc := "()I" } : MethodName)) ∈ TW := tw_in 552 (by decide +kernel) rfl
set_option maxRecDepth 20000 in
theorem k_554 : (Cond.instanceMethod ({ cls := "BeamSetter$Piece", name := "xOfNext", desc := "()I" } : MethodName)) ∈ TW := tw_in 554 (by decide +kernel) rfl
set_option maxRecDepth 20000 in
theorem k_555 : (Cond.code ({ cls := "BeamSetter$Piece", name := "xOfNext", desc := "()I" } : MethodName) prog_4_method_10_code (1 : Nat) (some FieldType.int)) ∈ TW := tw_in 555 (by decide +kernel) rfl
set_option maxRecDepth 20000 in
theorem k_556 : (Cond.methodLink "BeamSetter$Reader" (97 : Nat) ({ cls := "BeamSetter$Reader", name := "takeEnd", desc := "()Z" } : MethodName)) ∈ TW := tw_in 556 (by decide +kernel) rfl
set_option maxRecDepth 20000 in
theorem k_558 : (Cond.instanceMethod ({ cls := "BeamSetter$Reader", name := "takeEnd", desc := "()Z" } : MethodName)) ∈ TW := tw_in 558 (by decide +kernel) rfl
set_option maxRecDepth 20000 in
theorem k_559 : (Cond.code ({ cls := "BeamSetter$Reader", name := "takeEnd", desc := "()Z" } : MethodName) prog_5_method_13_code (1 : Nat) (some FieldType.boolean)) ∈ TW := tw_in 559 (by decide +kernel) rfl
set_option maxRecDepth 20000 in
theorem k_560 : (Cond.methodLink "BeamSetter$Reader" (63 : Nat) ({ cls := "BeamSetter$Piece", name := "findGroups", desc := "()V" } : MethodName)) ∈ TW := tw_in 560 (by decide +kernel) rfl
set_option maxRecDepth 20000 in
theorem k_561 : (Cond.instanceMethod ({ cls := "BeamSetter$Piece", name := "findGroups", desc := "()V" } : MethodName)) ∈ TW := tw_in 561 (by decide +kernel) rfl
set_option maxRecDepth 20000 in
theorem k_562 : (Cond.selects "BeamSetter$Piece" ({ cls := "BeamSetter$Piece", name := "findGroups", desc := "()V" } : MethodName) ({ cls := "BeamSetter$Piece", name := "findGroups", desc := "()V" } : MethodName)) ∈ TW := tw_in 562 (by decide +kernel) rfl
set_option maxRecDepth 20000 in
theorem k_563 : (Cond.code ({ cls := "BeamSetter$Piece", name := "findGroups", desc := "()V" } : MethodName) prog_4_method_19_code (4 : Nat) (none : Option FieldType)) ∈ TW := tw_in 563 (by decide +kernel) rfl
set_option maxRecDepth 20000 in
theorem k_564 : (Cond.methodLink "BeamSetter$Piece" (113 : Nat) ({ cls := "BeamSetter$Piece", name := "runFrom", desc := "(II)I" } : MethodName)) ∈ TW := tw_in 564 (by decide +kernel) rfl
set_option maxRecDepth 20000 in
theorem k_566 : (Cond.instanceMethod ({ cls := "BeamSetter$Piece", name := "runFrom", desc := "(II)I" } : MethodName)) ∈ TW := tw_in 566 (by decide +kernel) rfl
set_option maxRecDepth 20000 in
theorem k_567 : (Cond.code ({ cls := "BeamSetter$Piece", name := "runFrom", desc := "(II)I" } : MethodName) prog_4_method_17_code (4 : Nat) (some FieldType.int)) ∈ TW := tw_in 567 (by decide +kernel) rfl
set_option maxRecDepth 20000 in
theorem k_568 : (Cond.methodLink "BeamSetter$Piece" (104 : Nat) ({ cls := "BeamSetter$Piece", name := "beamsOf", desc := "(I)I" } : MethodName)) ∈ TW := tw_in 568 (by decide +kernel) rfl
set_option maxRecDepth 20000 in
theorem k_569 : (Cond.instanceMethod ({ cls := "BeamSetter$Piece", name := "beamsOf", desc := "(I)I" } : MethodName)) ∈ TW := tw_in 569 (by decide +kernel) rfl
set_option maxRecDepth 20000 in
theorem k_570 : (Cond.selects "BeamSetter$Piece" ({ cls := "BeamSetter$Piece", name := "beamsOf", desc := "(I)I" } : MethodName) ({ cls := "BeamSetter$Piece", name := "beamsOf", desc := "(I)I" } : MethodName)) ∈ TW := tw_in 570 (by decide +kernel) rfl
set_option maxRecDepth 20000 in
theorem k_571 : (Cond.code ({ cls := "BeamSetter$Piece", name := "beamsOf", desc := "(I)I" } : MethodName) prog_4_method_16_code (2 : Nat) (some FieldType.int)) ∈ TW := tw_in 571 (by decide +kernel) rfl
set_option maxRecDepth 20000 in
theorem k_572 : (Cond.methodLink "BeamSetter$Piece" (107 : Nat) ({ cls := "BeamSetter$Piece", name := "measureOf", desc := "(I)I" } : MethodName)) ∈ TW := tw_in 572 (by decide +kernel) rfl
set_option maxRecDepth 20000 in
theorem k_573 : (Cond.instanceMethod ({ cls := "BeamSetter$Piece", name := "measureOf", desc := "(I)I" } : MethodName)) ∈ TW := tw_in 573 (by decide +kernel) rfl
set_option maxRecDepth 20000 in
theorem k_574 : (Cond.selects "BeamSetter$Piece" ({ cls := "BeamSetter$Piece", name := "measureOf", desc := "(I)I" } : MethodName) ({ cls := "BeamSetter$Piece", name := "measureOf", desc := "(I)I" } : MethodName)) ∈ TW := tw_in 574 (by decide +kernel) rfl
set_option maxRecDepth 20000 in
theorem k_575 : (Cond.code ({ cls := "BeamSetter$Piece", name := "measureOf", desc := "(I)I" } : MethodName) prog_4_method_14_code (2 : Nat) (some FieldType.int)) ∈ TW := tw_in 575 (by decide +kernel) rfl
set_option maxRecDepth 20000 in
theorem k_576 : (Cond.methodLink "BeamSetter$Piece" (110 : Nat) ({ cls := "BeamSetter$Piece", name := "partOf", desc := "(II)I" } : MethodName)) ∈ TW := tw_in 576 (by decide +kernel) rfl
set_option maxRecDepth 20000 in
theorem k_577 : (Cond.instanceMethod ({ cls := "BeamSetter$Piece", name := "partOf", desc := "(II)I" } : MethodName)) ∈ TW := tw_in 577 (by decide +kernel) rfl
set_option maxRecDepth 20000 in
theorem k_578 : (Cond.selects "BeamSetter$Piece" ({ cls := "BeamSetter$Piece", name := "partOf", desc := "(II)I" } : MethodName) ({ cls := "BeamSetter$Piece", name := "partOf", desc := "(II)I" } : MethodName)) ∈ TW := tw_in 578 (by decide +kernel) rfl
set_option maxRecDepth 20000 in
theorem k_579 : (Cond.code ({ cls := "BeamSetter$Piece", name := "partOf", desc := "(II)I" } : MethodName) prog_4_method_15_code (6 : Nat) (some FieldType.int)) ∈ TW := tw_in 579 (by decide +kernel) rfl
set_option maxRecDepth 20000 in
theorem k_580 : (Cond.methodLink "BeamSetter$Piece" (101 : Nat) ({ cls := "BeamSetter$Piece", name := "timeWithin", desc := "(I)I" } : MethodName)) ∈ TW := tw_in 580 (by decide +kernel) rfl
set_option maxRecDepth 20000 in
theorem k_581 : (Cond.instanceMethod ({ cls := "BeamSetter$Piece", name := "timeWithin", desc := "(I)I" } : MethodName)) ∈ TW := tw_in 581 (by decide +kernel) rfl
set_option maxRecDepth 20000 in
theorem k_582 : (Cond.selects "BeamSetter$Piece" ({ cls := "BeamSetter$Piece", name := "timeWithin", desc := "(I)I" } : MethodName) ({ cls := "BeamSetter$Piece", name := "timeWithin", desc := "(I)I" } : MethodName)) ∈ TW := tw_in 582 (by decide +kernel) rfl
set_option maxRecDepth 20000 in
theorem k_583 : (Cond.code ({ cls := "BeamSetter$Piece", name := "timeWithin", desc := "(I)I" } : MethodName) prog_4_method_13_code (2 : Nat) (some FieldType.int)) ∈ TW := tw_in 583 (by decide +kernel) rfl
set_option maxRecDepth 20000 in
theorem k_585 : (Cond.methodLink "BeamSetterLaw" (132 : Nat) ({ cls := "BeamSetter", name := "position", desc := "(I)I" } : MethodName)) ∈ TW := tw_in 585 (by decide +kernel) rfl
set_option maxRecDepth 20000 in
theorem k_586 : (Cond.instanceMethod ({ cls := "BeamSetter", name := "position", desc := "(I)I" } : MethodName)) ∈ TW := tw_in 586 (by decide +kernel) rfl
set_option maxRecDepth 20000 in
theorem k_587 : (Cond.selects "BeamSetter" ({ cls := "BeamSetter", name := "position", desc := "(I)I" } : MethodName) ({ cls := "BeamSetter", name := "position", desc := "(I)I" } : MethodName)) ∈ TW := tw_in 587 (by decide +kernel) rfl
set_option maxRecDepth 20000 in
theorem k_588 : (Cond.code ({ cls := "BeamSetter", name := "position", desc := "(I)I" } : MethodName) prog_1_method_6_code (2 : Nat) (some FieldType.int)) ∈ TW := tw_in 588 (by decide +kernel) rfl
set_option maxRecDepth 20000 in
theorem k_589 : (Cond.methodLink "BeamSetter" (141 : Nat) ({ cls := "BeamSetter", name := "isNote", desc := "(I)Z" } : MethodName)) ∈ TW := tw_in 589 (by decide +kernel) rfl
set_option maxRecDepth 20000 in
theorem k_591 : (Cond.instanceMethod ({ cls := "BeamSetter", name := "isNote", desc := "(I)Z" } : MethodName)) ∈ TW := tw_in 591 (by decide +kernel) rfl
set_option maxRecDepth 20000 in
theorem k_592 : (Cond.code ({ cls := "BeamSetter", name := "isNote", desc := "(I)Z" } : MethodName) prog_1_method_40_code (2 : Nat) (some FieldType.boolean)) ∈ TW := tw_in 592 (by decide +kernel) rfl
set_option maxRecDepth 20000 in
theorem k_593 : (Cond.methodLink "BeamSetter" (96 : Nat) ({ cls := "BeamSetter", name := "isElement", desc := "(I)Z" } : MethodName)) ∈ TW := tw_in 593 (by decide +kernel) rfl
set_option maxRecDepth 20000 in
theorem k_595 : (Cond.instanceMethod ({ cls := "BeamSetter", name := "isElement", desc := "(I)Z" } : MethodName)) ∈ TW := tw_in 595 (by decide +kernel) rfl
set_option maxRecDepth 20000 in
theorem k_596 : (Cond.code ({ cls := "BeamSetter", name := "isElement", desc := "(I)Z" } : MethodName) prog_1_method_39_code (2 : Nat) (some FieldType.boolean)) ∈ TW := tw_in 596 (by decide +kernel) rfl
set_option maxRecDepth 20000 in
theorem k_597 : (Cond.constant "BeamSetter" (147 : Nat) (-1000000 : Int32)) ∈ TW := tw_in 597 (by decide +kernel) rfl
set_option maxRecDepth 20000 in
theorem k_598 : (Cond.methodLink "BeamSetterLaw" (181 : Nat) ({ cls := "BeamSetter", name := "put", desc := "(II)I" } : MethodName)) ∈ TW := tw_in 598 (by decide +kernel) rfl
set_option maxRecDepth 20000 in
theorem k_599 : (Cond.instanceMethod ({ cls := "BeamSetter", name := "put", desc := "(II)I" } : MethodName)) ∈ TW := tw_in 599 (by decide +kernel) rfl
set_option maxRecDepth 20000 in
theorem k_600 : (Cond.selects "BeamSetter" ({ cls := "BeamSetter", name := "put", desc := "(II)I" } : MethodName) ({ cls := "BeamSetter", name := "put", desc := "(II)I" } : MethodName)) ∈ TW := tw_in 600 (by decide +kernel) rfl
set_option maxRecDepth 20000 in
theorem k_601 : (Cond.code ({ cls := "BeamSetter", name := "put", desc := "(II)I" } : MethodName) prog_1_method_8_code (4 : Nat) (some FieldType.int)) ∈ TW := tw_in 601 (by decide +kernel) rfl
set_option maxRecDepth 20000 in
theorem k_602 : (Cond.methodLink "BeamSetter" (154 : Nat) ({ cls := "BeamSetter", name := "isPosition", desc := "(I)Z" } : MethodName)) ∈ TW := tw_in 602 (by decide +kernel) rfl
set_option maxRecDepth 20000 in
theorem k_603 : (Cond.static ({ cls := "BeamSetter", name := "isPosition", desc := "(I)Z" } : MethodName)) ∈ TW := tw_in 603 (by decide +kernel) rfl
set_option maxRecDepth 20000 in
theorem k_604 : (Cond.code ({ cls := "BeamSetter", name := "isPosition", desc := "(I)Z" } : MethodName) prog_1_method_43_code (1 : Nat) (some FieldType.boolean)) ∈ TW := tw_in 604 (by decide +kernel) rfl
set_option maxRecDepth 20000 in
theorem k_605 : (Cond.methodLink "BeamSetter" (157 : Nat) ({ cls := "BeamSetter$History", name := "remember", desc := "(II)V" } : MethodName)) ∈ TW := tw_in 605 (by decide +kernel) rfl
set_option maxRecDepth 20000 in
theorem k_606 : (Cond.instanceMethod ({ cls := "BeamSetter$History", name := "remember", desc := "(II)V" } : MethodName)) ∈ TW := tw_in 606 (by decide +kernel) rfl
set_option maxRecDepth 20000 in
theorem k_607 : (Cond.selects "BeamSetter$History" ({ cls := "BeamSetter$History", name := "remember", desc := "(II)V" } : MethodName) ({ cls := "BeamSetter$History", name := "remember", desc := "(II)V" } : MethodName)) ∈ TW := tw_in 607 (by decide +kernel) rfl
set_option maxRecDepth 20000 in
theorem k_608 : (Cond.code ({ cls := "BeamSetter$History", name := "remember", desc := "(II)V" } : MethodName) prog_3_method_2_code (3 : Nat) (none : Option FieldType)) ∈ TW := tw_in 608 (by decide +kernel) rfl
set_option maxRecDepth 20000 in
theorem k_612 : (Cond.methodLink "BeamSetterLaw" (183 : Nat) ({ cls := "BeamSetter", name := "undo", desc := "()I" } : MethodName)) ∈ TW := tw_in 612 (by decide +kernel) rfl
set_option maxRecDepth 20000 in
theorem k_613 : (Cond.instanceMethod ({ cls := "BeamSetter", name := "undo", desc := "()I" } : MethodName)) ∈ TW := tw_in 613 (by decide +kernel) rfl
set_option maxRecDepth 20000 in
theorem k_614 : (Cond.selects "BeamSetter" ({ cls := "BeamSetter", name := "undo", desc := "()I" } : MethodName) ({ cls := "BeamSetter", name := "undo", desc := "()I" } : MethodName)) ∈ TW := tw_in 614 (by decide +kernel) rfl
set_option maxRecDepth 20000 in
theorem k_615 : (Cond.code ({ cls := "BeamSetter", name := "undo", desc := "()I" } : MethodName) prog_1_method_9_code (2 : Nat) (some FieldType.int)) ∈ TW := tw_in 615 (by decide +kernel) rfl
set_option maxRecDepth 20000 in
theorem k_616 : (Cond.methodLink "BeamSetter" (161 : Nat) ({ cls := "BeamSetter$History", name := "latestElement", desc := "()I" } : MethodName)) ∈ TW := tw_in 616 (by decide +kernel) rfl
set_option maxRecDepth 20000 in
theorem k_617 : (Cond.instanceMethod ({ cls := "BeamSetter$History", name := "latestElement", desc := "()I" } : MethodName)) ∈ TW := tw_in 617 (by decide +kernel) rfl
set_option maxRecDepth 20000 in
theorem k_618 : (Cond.selects "BeamSetter$History" ({ cls := "BeamSetter$History", name := "latestElement", desc := "()I" } : MethodName) ({ cls := "BeamSetter$History", name := "latestElement", desc := "()I" } : MethodName)) ∈ TW := tw_in 618 (by decide +kernel) rfl
set_option maxRecDepth 20000 in
theorem k_619 : (Cond.code ({ cls := "BeamSetter$History", name := "latestElement", desc := "()I" } : MethodName) prog_3_method_3_code (1 : Nat) (some FieldType.int)) ∈ TW := tw_in 619 (by decide +kernel) rfl
set_option maxRecDepth 20000 in
theorem k_620 : (Cond.methodLink "BeamSetter" (165 : Nat) ({ cls := "BeamSetter$History", name := "latestPosition", desc := "()I" } : MethodName)) ∈ TW := tw_in 620 (by decide +kernel) rfl
set_option maxRecDepth 20000 in
theorem k_621 : (Cond.instanceMethod ({ cls := "BeamSetter$History", name := "latestPosition", desc := "()I" } : MethodName)) ∈ TW := tw_in 621 (by decide +kernel) rfl
set_option maxRecDepth 20000 in
theorem k_622 : (Cond.selects "BeamSetter$History" ({ cls := "BeamSetter$History", name := "latestPosition", desc := "()I" } : MethodName) ({ cls := "BeamSetter$History", name := "latestPosition", desc := "()I" } : MethodName)) ∈ TW := tw_in 622 (by decide +kernel) rfl
set_option maxRecDepth 20000 in
theorem k_623 : (Cond.code ({ cls := "BeamSetter$History", name := "latestPosition", desc := "()I" } : MethodName) prog_3_method_4_code (1 : Nat) (some FieldType.int)) ∈ TW := tw_in 623 (by decide +kernel) rfl
set_option maxRecDepth 20000 in
theorem k_624 : (Cond.methodLink "BeamSetter" (168 : Nat) ({ cls := "BeamSetter$History", name := "forgetLatest", desc := "()V" } : MethodName)) ∈ TW := tw_in 624 (by decide +kernel) rfl
set_option maxRecDepth 20000 in
theorem k_625 : (Cond.instanceMethod ({ cls := "BeamSetter$History", name := "forgetLatest", desc := "()V" } : MethodName)) ∈ TW := tw_in 625 (by decide +kernel) rfl
set_option maxRecDepth 20000 in
theorem k_626 : (Cond.selects "BeamSetter$History" ({ cls := "BeamSetter$History", name := "forgetLatest", desc := "()V" } : MethodName) ({ cls := "BeamSetter$History", name := "forgetLatest", desc := "()V" } : MethodName)) ∈ TW := tw_in 626 (by decide +kernel) rfl
set_option maxRecDepth 20000 in
theorem k_627 : (Cond.code ({ cls := "BeamSetter$History", name := "forgetLatest", desc := "()V" } : MethodName) prog_3_method_5_code (1 : Nat) (none : Option FieldType)) ∈ TW := tw_in 627 (by decide +kernel) rfl
set_option maxRecDepth 20000 in
theorem k_628 : (Cond.methodLink "BeamSetter$History" (28 : Nat) ({ cls := "java/lang/Math", name := "max", desc := "(II)I" } : MethodName)) ∈ TW := tw_in 628 (by decide +kernel) rfl
set_option maxRecDepth 20000 in
theorem k_629 : (Cond.methodLink "BeamSetterLaw" (137 : Nat) ({ cls := "BeamSetter", name := "best", desc := "(II)I" } : MethodName)) ∈ TW := tw_in 629 (by decide +kernel) rfl
set_option maxRecDepth 20000 in
theorem k_630 : (Cond.instanceMethod ({ cls := "BeamSetter", name := "best", desc := "(II)I" } : MethodName)) ∈ TW := tw_in 630 (by decide +kernel) rfl
set_option maxRecDepth 20000 in
theorem k_631 : (Cond.selects "BeamSetter" ({ cls := "BeamSetter", name := "best", desc := "(II)I" } : MethodName) ({ cls := "BeamSetter", name := "best", desc := "(II)I" } : MethodName)) ∈ TW := tw_in 631 (by decide +kernel) rfl
set_option maxRecDepth 20000 in
theorem k_632 : (Cond.code ({ cls := "BeamSetter", name := "best", desc := "(II)I" } : MethodName) prog_1_method_14_code (3 : Nat) (some FieldType.int)) ∈ TW := tw_in 632 (by decide +kernel) rfl
set_option maxRecDepth 20000 in
theorem k_633 : (Cond.methodLink "BeamSetter" (171 : Nat) ({ cls := "BeamSetter", name := "isGroup", desc := "(I)Z" } : MethodName)) ∈ TW := tw_in 633 (by decide +kernel) rfl
set_option maxRecDepth 20000 in
theorem k_635 : (Cond.instanceMethod ({ cls := "BeamSetter", name := "isGroup", desc := "(I)Z" } : MethodName)) ∈ TW := tw_in 635 (by decide +kernel) rfl
set_option maxRecDepth 20000 in
theorem k_636 : (Cond.code ({ cls := "BeamSetter", name := "isGroup", desc := "(I)Z" } : MethodName) prog_1_method_42_code (2 : Nat) (some FieldType.boolean)) ∈ TW := tw_in 636 (by decide +kernel) rfl
set_option maxRecDepth 20000 in
theorem k_637 : (Cond.methodLink "BeamSetter" (176 : Nat) ({ cls := "BeamSetter", name := "load", desc := "(I)V" } : MethodName)) ∈ TW := tw_in 637 (by decide +kernel) rfl
set_option maxRecDepth 20000 in
theorem k_639 : (Cond.instanceMethod ({ cls := "BeamSetter", name := "load", desc := "(I)V" } : MethodName)) ∈ TW := tw_in 639 (by decide +kernel) rfl
set_option maxRecDepth 20000 in
theorem k_640 : (Cond.code ({ cls := "BeamSetter", name := "load", desc := "(I)V" } : MethodName) prog_1_method_45_code (2 : Nat) (none : Option FieldType)) ∈ TW := tw_in 640 (by decide +kernel) rfl
set_option maxRecDepth 20000 in
theorem k_641 : (Cond.methodLink "BeamSetter" (382 : Nat) ({ cls := "BeamSetter$Group", name := "load", desc := "(LBeamSetter$Piece;[IIII)V" } : MethodName)) ∈ TW := tw_in 641 (by decide +kernel) rfl
set_option maxRecDepth 20000 in
theorem k_642 : (Cond.instanceMethod ({ cls := "BeamSetter$Group", name := "load", desc := "(LBeamSetter$Piece;[IIII)V" } : MethodName)) ∈ TW := tw_in 642 (by decide +kernel) rfl
set_option maxRecDepth 20000 in
theorem k_643 : (Cond.selects "BeamSetter$Group" ({ cls := "BeamSetter$Group", name := "load", desc := "(LBeamSetter$Piece;[IIII)V" } : MethodName) ({ cls := "BeamSetter$Group", name := "load", desc := "(LBeamSetter$Piece;[IIII)V" } : MethodName)) ∈ TW := tw_in 643 (by decide +kernel) rfl
set_option maxRecDepth 20000 in
theorem k_644 : (Cond.code ({ cls := "BeamSetter$Group", name := "load", desc := "(LBeamSetter$Piece;[IIII)V" } : MethodName) prog_2_method_2_code (7 : Nat) (none : Option FieldType)) ∈ TW := tw_in 644 (by decide +kernel) rfl
set_option maxRecDepth 20000 in
theorem k_645 : (Cond.methodLink "BeamSetter$Group" (44 : Nat) ({ cls := "java/lang/Math", name := "min", desc := "(II)I" } : MethodName)) ∈ TW := tw_in 645 (by decide +kernel) rfl
set_option maxRecDepth 20000 in
theorem k_646 : (Cond.methodLink "BeamSetter$Group" (50 : Nat) ({ cls := "java/lang/Math", name := "max", desc := "(II)I" } : MethodName)) ∈ TW := tw_in 646 (by decide +kernel) rfl
set_option maxRecDepth 20000 in
theorem k_647 : (Cond.methodLink "BeamSetter$Group" (58 : Nat) ({ cls := "BeamSetter$Piece", name := "beamsOf", desc := "(I)I" } : MethodName)) ∈ TW := tw_in 647 (by decide +kernel) rfl
set_option maxRecDepth 20000 in
theorem k_648 : (Cond.methodLink "BeamSetter$Group" (68 : Nat) ({ cls := "BeamSetter$Group", name := "decideWays", desc := "(I)V" } : MethodName)) ∈ TW := tw_in 648 (by decide +kernel) rfl
set_option maxRecDepth 20000 in
theorem k_650 : (Cond.instanceMethod ({ cls := "BeamSetter$Group", name := "decideWays", desc := "(I)V" } : MethodName)) ∈ TW := tw_in 650 (by decide +kernel) rfl
set_option maxRecDepth 20000 in
theorem k_651 : (Cond.code ({ cls := "BeamSetter$Group", name := "decideWays", desc := "(I)V" } : MethodName) prog_2_method_3_code (6 : Nat) (none : Option FieldType)) ∈ TW := tw_in 651 (by decide +kernel) rfl
set_option maxRecDepth 20000 in
theorem k_652 : (Cond.methodLink "BeamSetter$Group" (79 : Nat) ({ cls := "BeamSetter$Group", name := "lowerSideOfKnee", desc := "(I)I" } : MethodName)) ∈ TW := tw_in 652 (by decide +kernel) rfl
set_option maxRecDepth 20000 in
theorem k_654 : (Cond.instanceMethod ({ cls := "BeamSetter$Group", name := "lowerSideOfKnee", desc := "(I)I" } : MethodName)) ∈ TW := tw_in 654 (by decide +kernel) rfl
set_option maxRecDepth 20000 in
theorem k_655 : (Cond.code ({ cls := "BeamSetter$Group", name := "lowerSideOfKnee", desc := "(I)I" } : MethodName) prog_2_method_4_code (9 : Nat) (some FieldType.int)) ∈ TW := tw_in 655 (by decide +kernel) rfl
set_option maxRecDepth 20000 in
theorem k_656 : (Cond.methodLink "BeamSetter$Group" (94 : Nat) ({ cls := "BeamSetter$Group", name := "markTaken", desc := "()V" } : MethodName)) ∈ TW := tw_in 656 (by decide +kernel) rfl
set_option maxRecDepth 20000 in
theorem k_658 : (Cond.instanceMethod ({ cls := "BeamSetter$Group", name := "markTaken", desc := "()V" } : MethodName)) ∈ TW := tw_in 658 (by decide +kernel) rfl
set_option maxRecDepth 20000 in
theorem k_659 : (Cond.code ({ cls := "BeamSetter$Group", name := "markTaken", desc := "()V" } : MethodName) prog_2_method_5_code (3 : Nat) (none : Option FieldType)) ∈ TW := tw_in 659 (by decide +kernel) rfl
set_option maxRecDepth 20000 in
theorem k_660 : (Cond.constant "BeamSetter$Group" (82 : Nat) (-1000000 : Int32)) ∈ TW := tw_in 660 (by decide +kernel) rfl
set_option maxRecDepth 20000 in
theorem k_661 : (Cond.constant "BeamSetter$Group" (97 : Nat) (2147483647 : Int32)) ∈ TW := tw_in 661 (by decide +kernel) rfl
set_option maxRecDepth 20000 in
theorem k_662 : (Cond.methodLink "BeamSetter$Group" (98 : Nat) ({ cls := "java/lang/Math", name := "abs", desc := "(I)I" } : MethodName)) ∈ TW := tw_in 662 (by decide +kernel) rfl
set_option maxRecDepth 20000 in
theorem k_663 : (Cond.static ({ cls := "java/lang/Math", name := "abs", desc := "(I)I" } : MethodName)) ∈ TW := tw_in 663 (by decide +kernel) rfl
set_option maxRecDepth 20000 in
theorem k_664 : (Cond.code ({ cls := "java/lang/Math", name := "abs", desc := "(I)I" } : MethodName) prog_20_method_59_code (1 : Nat) (some FieldType.int)) ∈ TW := tw_in 664 (by decide +kernel) rfl
set_option maxRecDepth 20000 in
theorem k_665 : (Cond.methodLink "BeamSetter$Group" (87 : Nat) ({ cls := "BeamSetter$Group", name := "commonWay", desc := "()I" } : MethodName)) ∈ TW := tw_in 665 (by decide +kernel) rfl
set_option maxRecDepth 20000 in
theorem k_667 : (Cond.instanceMethod ({ cls := "BeamSetter$Group", name := "commonWay", desc := "()I" } : MethodName)) ∈ TW := tw_in 667 (by decide +kernel) rfl
set_option maxRecDepth 20000 in
theorem k_668 : (Cond.code ({ cls := "BeamSetter$Group", name := "commonWay", desc := "()I" } : MethodName) prog_2_method_6_code (5 : Nat) (some FieldType.int)) ∈ TW := tw_in 668 (by decide +kernel) rfl
set_option maxRecDepth 20000 in
theorem k_669 : (Cond.methodLink "BeamSetter$Group" (72 : Nat) ({ cls := "BeamSetter$Group", name := "decideWant", desc := "()V" } : MethodName)) ∈ TW := tw_in 669 (by decide +kernel) rfl
set_option maxRecDepth 20000 in
theorem k_671 : (Cond.instanceMethod ({ cls := "BeamSetter$Group", name := "decideWant", desc := "()V" } : MethodName)) ∈ TW := tw_in 671 (by decide +kernel) rfl
set_option maxRecDepth 20000 in
theorem k_672 : (Cond.code ({ cls := "BeamSetter$Group", name := "decideWant", desc := "()V" } : MethodName) prog_2_method_7_code (5 : Nat) (none : Option FieldType)) ∈ TW := tw_in 672 (by decide +kernel) rfl
set_option maxRecDepth 20000 in
theorem k_673 : (Cond.methodLink "BeamSetter$Group" (75 : Nat) ({ cls := "BeamSetter$Group", name := "idealLength", desc := "(III)I" } : MethodName)) ∈ TW := tw_in 673 (by decide +kernel) rfl
set_option maxRecDepth 20000 in
theorem k_674 : (Cond.static ({ cls := "BeamSetter$Group", name := "idealLength", desc := "(III)I" } : MethodName)) ∈ TW := tw_in 674 (by decide +kernel) rfl
set_option maxRecDepth 20000 in
theorem k_675 : (Cond.code ({ cls := "BeamSetter$Group", name := "idealLength", desc := "(III)I" } : MethodName) prog_2_method_8_code (5 : Nat) (some FieldType.int)) ∈ TW := tw_in 675 (by decide +kernel) rfl
set_option maxRecDepth 20000 in
theorem k_676 : (Cond.methodLink "BeamSetter" (216 : Nat) ({ cls := "BeamSetter", name := "tellBest", desc := "(I)I" } : MethodName)) ∈ TW := tw_in 676 (by decide +kernel) rfl
set_option maxRecDepth 20000 in
theorem k_678 : (Cond.instanceMethod ({ cls := "BeamSetter", name := "tellBest", desc := "(I)I" } : MethodName)) ∈ TW := tw_in 678 (by decide +kernel) rfl
set_option maxRecDepth 20000 in
theorem k_679 : (Cond.code ({ cls := "BeamSetter", name := "tellBest", desc := "(I)I" } : MethodName) prog_1_method_49_code (4 : Nat) (some FieldType.int)) ∈ TW := tw_in 679 (by decide +kernel) rfl
set_option maxRecDepth 20000 in
theorem k_680 : (Cond.methodLink "BeamSetter" (238 : Nat) ({ cls := "BeamSetter$Group", name := "findBest", desc := "()J" } : MethodName)) ∈ TW := tw_in 680 (by decide +kernel) rfl
set_option maxRecDepth 20000 in
theorem k_681 : (Cond.instanceMethod ({ cls := "BeamSetter$Group", name := "findBest", desc := "()J" } : MethodName)) ∈ TW := tw_in 681 (by decide +kernel) rfl
set_option maxRecDepth 20000 in
theorem k_682 : (Cond.selects "BeamSetter$Group" ({ cls := "BeamSetter$Group", name := "findBest", desc := "()J" } : MethodName) ({ cls := "BeamSetter$Group", name := "findBest", desc := "()J" } : MethodName)) ∈ TW := tw_in 682 (by decide +kernel) rfl
set_option maxRecDepth 20000 in
theorem k_683 : (Cond.code ({ cls := "BeamSetter$Group", name := "findBest", desc := "()J" } : MethodName) prog_2_method_33_code (4 : Nat) (some FieldType.long)) ∈ TW := tw_in 683 (by decide +kernel) rfl
set_option maxRecDepth 20000 in
theorem k_684 : (Cond.constantLong "BeamSetter$Group" (165 : Nat) (9223372036854775807 : Int64)) ∈ TW := tw_in 684 (by decide +kernel) rfl
set_option maxRecDepth 20000 in
theorem k_685 : (Cond.methodLink "BeamSetter$Group" (155 : Nat) ({ cls := "BeamSetter$Group", name := "uglinessOf", desc := "(J)I" } : MethodName)) ∈ TW := tw_in 685 (by decide +kernel) rfl
set_option maxRecDepth 20000 in
theorem k_686 : (Cond.static ({ cls := "BeamSetter$Group", name := "uglinessOf", desc := "(J)I" } : MethodName)) ∈ TW := tw_in 686 (by decide +kernel) rfl
set_option maxRecDepth 20000 in
theorem k_687 : (Cond.code ({ cls := "BeamSetter$Group", name := "uglinessOf", desc := "(J)I" } : MethodName) prog_2_method_25_code (2 : Nat) (some FieldType.int)) ∈ TW := tw_in 687 (by decide +kernel) rfl
set_option maxRecDepth 20000 in
theorem k_688 : (Cond.methodLink "BeamSetter$Group" (167 : Nat) ({ cls := "BeamSetter$Group", name := "bestSloping", desc := "(IJ)J" } : MethodName)) ∈ TW := tw_in 688 (by decide +kernel) rfl
set_option maxRecDepth 20000 in
theorem k_690 : (Cond.instanceMethod ({ cls := "BeamSetter$Group", name := "bestSloping", desc := "(IJ)J" } : MethodName)) ∈ TW := tw_in 690 (by decide +kernel) rfl
set_option maxRecDepth 20000 in
theorem k_691 : (Cond.code ({ cls := "BeamSetter$Group", name := "bestSloping", desc := "(IJ)J" } : MethodName) prog_2_method_35_code (9 : Nat) (some FieldType.long)) ∈ TW := tw_in 691 (by decide +kernel) rfl
set_option maxRecDepth 20000 in
theorem k_692 : (Cond.methodLink "BeamSetter$Group" (119 : Nat) ({ cls := "BeamSetter$Group", name := "tilt", desc := "(I)V" } : MethodName)) ∈ TW := tw_in 692 (by decide +kernel) rfl
set_option maxRecDepth 20000 in
theorem k_694 : (Cond.instanceMethod ({ cls := "BeamSetter$Group", name := "tilt", desc := "(I)V" } : MethodName)) ∈ TW := tw_in 694 (by decide +kernel) rfl
set_option maxRecDepth 20000 in
theorem k_695 : (Cond.code ({ cls := "BeamSetter$Group", name := "tilt", desc := "(I)V" } : MethodName) prog_2_method_11_code (6 : Nat) (none : Option FieldType)) ∈ TW := tw_in 695 (by decide +kernel) rfl
set_option maxRecDepth 20000 in
theorem k_696 : (Cond.methodLink "BeamSetter$Group" (113 : Nat) ({ cls := "java/lang/Math", name := "floorDiv", desc := "(II)I" } : MethodName)) ∈ TW := tw_in 696 (by decide +kernel) rfl
set_option maxRecDepth 20000 in
theorem k_697 : (Cond.static ({ cls := "java/lang/Math", name := "floorDiv", desc := "(II)I" } : MethodName)) ∈ TW := tw_in 697 (by decide +kernel) rfl
set_option maxRecDepth 20000 in
theorem k_698 : (Cond.code ({ cls := "java/lang/Math", name := "floorDiv", desc := "(II)I" } : MethodName) prog_20_method_47_code (3 : Nat) (some FieldType.int)) ∈ TW := tw_in 698 (by decide +kernel) rfl
set_option maxRecDepth 20000 in
theorem k_699 : (Cond.methodLink "BeamSetter$Group" (116 : Nat) ({ cls := "BeamSetter$Group", name := "shortestLength", desc := "(I)I" } : MethodName)) ∈ TW := tw_in 699 (by decide +kernel) rfl
set_option maxRecDepth 20000 in
theorem k_700 : (Cond.static ({ cls := "BeamSetter$Group", name := "shortestLength", desc := "(I)I" } : MethodName)) ∈ TW := tw_in 700 (by decide +kernel) rfl
set_option maxRecDepth 20000 in
theorem k_701 : (Cond.code ({ cls := "BeamSetter$Group", name := "shortestLength", desc := "(I)I" } : MethodName) prog_2_method_9_code (1 : Nat) (some FieldType.int)) ∈ TW := tw_in 701 (by decide +kernel) rfl
set_option maxRecDepth 20000 in
theorem k_702 : (Cond.methodLink "BeamSetter$Group" (133 : Nat) ({ cls := "BeamSetter$Group", name := "slopeOf", desc := "(I)I" } : MethodName)) ∈ TW := tw_in 702 (by decide +kernel) rfl
set_option maxRecDepth 20000 in
theorem k_704 : (Cond.instanceMethod ({ cls := "BeamSetter$Group", name := "slopeOf", desc := "(I)I" } : MethodName)) ∈ TW := tw_in 704 (by decide +kernel) rfl
set_option maxRecDepth 20000 in
theorem k_705 : (Cond.code ({ cls := "BeamSetter$Group", name := "slopeOf", desc := "(I)I" } : MethodName) prog_2_method_14_code (3 : Nat) (some FieldType.int)) ∈ TW := tw_in 705 (by decide +kernel) rfl
set_option maxRecDepth 20000 in
theorem k_706 : (Cond.methodLink "BeamSetter$Group" (130 : Nat) ({ cls := "BeamSetter$Group", name := "stemsAt", desc := "(I)I" } : MethodName)) ∈ TW := tw_in 706 (by decide +kernel) rfl
set_option maxRecDepth 20000 in
theorem k_708 : (Cond.instanceMethod ({ cls := "BeamSetter$Group", name := "stemsAt", desc := "(I)I" } : MethodName)) ∈ TW := tw_in 708 (by decide +kernel) rfl
set_option maxRecDepth 20000 in
theorem k_709 : (Cond.code ({ cls := "BeamSetter$Group", name := "stemsAt", desc := "(I)I" } : MethodName) prog_2_method_13_code (5 : Nat) (some FieldType.int)) ∈ TW := tw_in 709 (by decide +kernel) rfl
set_option maxRecDepth 20000 in
theorem k_710 : (Cond.methodLink "BeamSetter$Group" (136 : Nat) ({ cls := "BeamSetter$Group", name := "staffAt", desc := "(II)I" } : MethodName)) ∈ TW := tw_in 710 (by decide +kernel) rfl
set_option maxRecDepth 20000 in
theorem k_712 : (Cond.instanceMethod ({ cls := "BeamSetter$Group", name := "staffAt", desc := "(II)I" } : MethodName)) ∈ TW := tw_in 712 (by decide +kernel) rfl
set_option maxRecDepth 20000 in
theorem k_713 : (Cond.code ({ cls := "BeamSetter$Group", name := "staffAt", desc := "(II)I" } : MethodName) prog_2_method_15_code (3 : Nat) (some FieldType.int)) ∈ TW := tw_in 713 (by decide +kernel) rfl
set_option maxRecDepth 20000 in
theorem k_714 : (Cond.methodLink "BeamSetter$Group" (122 : Nat) ({ cls := "BeamSetter$Group", name := "staffAtEnd", desc := "(III)I" } : MethodName)) ∈ TW := tw_in 714 (by decide +kernel) rfl
set_option maxRecDepth 20000 in
theorem k_716 : (Cond.instanceMethod ({ cls := "BeamSetter$Group", name := "staffAtEnd", desc := "(III)I" } : MethodName)) ∈ TW := tw_in 716 (by decide +kernel) rfl
set_option maxRecDepth 20000 in
theorem k_717 : (Cond.code ({ cls := "BeamSetter$Group", name := "staffAtEnd", desc := "(III)I" } : MethodName) prog_2_method_16_code (7 : Nat) (some FieldType.int)) ∈ TW := tw_in 717 (by decide +kernel) rfl
set_option maxRecDepth 20000 in
theorem k_718 : (Cond.methodLink "BeamSetter$Group" (125 : Nat) ({ cls := "BeamSetter$Group", name := "touchCost", desc := "(II)I" } : MethodName)) ∈ TW := tw_in 718 (by decide +kernel) rfl
set_option maxRecDepth 20000 in
theorem k_719 : (Cond.static ({ cls := "BeamSetter$Group", name := "touchCost", desc := "(II)I" } : MethodName)) ∈ TW := tw_in 719 (by decide +kernel) rfl
set_option maxRecDepth 20000 in
theorem k_720 : (Cond.code ({ cls := "BeamSetter$Group", name := "touchCost", desc := "(II)I" } : MethodName) prog_2_method_17_code (2 : Nat) (some FieldType.int)) ∈ TW := tw_in 720 (by decide +kernel) rfl
set_option maxRecDepth 20000 in
theorem k_721 : (Cond.methodLink "BeamSetter$Group" (139 : Nat) ({ cls := "BeamSetter$Group", name := "keyAt", desc := "(III)J" } : MethodName)) ∈ TW := tw_in 721 (by decide +kernel) rfl
set_option maxRecDepth 20000 in
theorem k_723 : (Cond.instanceMethod ({ cls := "BeamSetter$Group", name := "keyAt", desc := "(III)J" } : MethodName)) ∈ TW := tw_in 723 (by decide +kernel) rfl
set_option maxRecDepth 20000 in
theorem k_724 : (Cond.code ({ cls := "BeamSetter$Group", name := "keyAt", desc := "(III)J" } : MethodName) prog_2_method_23_code (6 : Nat) (some FieldType.long)) ∈ TW := tw_in 724 (by decide +kernel) rfl
set_option maxRecDepth 20000 in
theorem k_725 : (Cond.constantLong "BeamSetter$Group" (128 : Nat) (60 : Int64)) ∈ TW := tw_in 725 (by decide +kernel) rfl
set_option maxRecDepth 20000 in
theorem k_726 : (Cond.methodLink "BeamSetter$Group" (171 : Nat) ({ cls := "java/lang/Math", name := "min", desc := "(JJ)J" } : MethodName)) ∈ TW := tw_in 726 (by decide +kernel) rfl
set_option maxRecDepth 20000 in
theorem k_727 : (Cond.static ({ cls := "java/lang/Math", name := "min", desc := "(JJ)J" } : MethodName)) ∈ TW := tw_in 727 (by decide +kernel) rfl
set_option maxRecDepth 20000 in
theorem k_728 : (Cond.code ({ cls := "java/lang/Math", name := "min", desc := "(JJ)J" } : MethodName) prog_20_method_70_code (4 : Nat) (some FieldType.long)) ∈ TW := tw_in 728 (by decide +kernel) rfl
set_option maxRecDepth 20000 in
theorem k_729 : (Cond.constantLong "BeamSetter" (242 : Nat) (9223372036854775807 : Int64)) ∈ TW := tw_in 729 (by decide +kernel) rfl
set_option maxRecDepth 20000 in
theorem k_730 : (Cond.methodLink "BeamSetter" (226 : Nat) ({ cls := "BeamSetter$Group", name := "tell", desc := "(JI)I" } : MethodName)) ∈ TW := tw_in 730 (by decide +kernel) rfl
set_option maxRecDepth 20000 in
theorem k_731 : (Cond.instanceMethod ({ cls := "BeamSetter$Group", name := "tell", desc := "(JI)I" } : MethodName)) ∈ TW := tw_in 731 (by decide +kernel) rfl
set_option maxRecDepth 20000 in
theorem k_732 : (Cond.selects "BeamSetter$Group" ({ cls := "BeamSetter$Group", name := "tell", desc := "(JI)I" } : MethodName) ({ cls := "BeamSetter$Group", name := "tell", desc := "(JI)I" } : MethodName)) ∈ TW := tw_in 732 (by decide +kernel) rfl
set_option maxRecDepth 20000 in
theorem k_733 : (Cond.code ({ cls := "BeamSetter$Group", name := "tell", desc := "(JI)I" } : MethodName) prog_2_method_29_code (4 : Nat) (some FieldType.int)) ∈ TW := tw_in 733 (by decide +kernel) rfl
set_option maxRecDepth 20000 in
theorem k_734 : (Cond.methodLink "BeamSetter$Group" (149 : Nat) ({ cls := "BeamSetter$Group", name := "leftOf", desc := "(J)I" } : MethodName)) ∈ TW := tw_in 734 (by decide +kernel) rfl
set_option maxRecDepth 20000 in
theorem k_735 : (Cond.instanceMethod ({ cls := "BeamSetter$Group", name := "leftOf", desc := "(J)I" } : MethodName)) ∈ TW := tw_in 735 (by decide +kernel) rfl
set_option maxRecDepth 20000 in
theorem k_736 : (Cond.selects "BeamSetter$Group" ({ cls := "BeamSetter$Group", name := "leftOf", desc := "(J)I" } : MethodName) ({ cls := "BeamSetter$Group", name := "leftOf", desc := "(J)I" } : MethodName)) ∈ TW := tw_in 736 (by decide +kernel) rfl
set_option maxRecDepth 20000 in
theorem k_737 : (Cond.code ({ cls := "BeamSetter$Group", name := "leftOf", desc := "(J)I" } : MethodName) prog_2_method_27_code (3 : Nat) (some FieldType.int)) ∈ TW := tw_in 737 (by decide +kernel) rfl
set_option maxRecDepth 20000 in
theorem k_738 : (Cond.methodLink "BeamSetter$Group" (145 : Nat) ({ cls := "BeamSetter$Group", name := "heightIn", desc := "(J)I" } : MethodName)) ∈ TW := tw_in 738 (by decide +kernel) rfl
set_option maxRecDepth 20000 in
theorem k_740 : (Cond.instanceMethod ({ cls := "BeamSetter$Group", name := "heightIn", desc := "(J)I" } : MethodName)) ∈ TW := tw_in 740 (by decide +kernel) rfl
set_option maxRecDepth 20000 in
theorem k_741 : (Cond.code ({ cls := "BeamSetter$Group", name := "heightIn", desc := "(J)I" } : MethodName) prog_2_method_26_code (3 : Nat) (some FieldType.int)) ∈ TW := tw_in 741 (by decide +kernel) rfl
set_option maxRecDepth 20000 in
theorem k_742 : (Cond.constantLong "BeamSetter$Group" (143 : Nat) (127 : Int64)) ∈ TW := tw_in 742 (by decide +kernel) rfl
set_option maxRecDepth 20000 in
theorem k_743 : (Cond.methodLink "BeamSetter$Group" (152 : Nat) ({ cls := "BeamSetter$Group", name := "rightOf", desc := "(J)I" } : MethodName)) ∈ TW := tw_in 743 (by decide +kernel) rfl
set_option maxRecDepth 20000 in
theorem k_744 : (Cond.instanceMethod ({ cls := "BeamSetter$Group", name := "rightOf", desc := "(J)I" } : MethodName)) ∈ TW := tw_in 744 (by decide +kernel) rfl
set_option maxRecDepth 20000 in
theorem k_745 : (Cond.selects "BeamSetter$Group" ({ cls := "BeamSetter$Group", name := "rightOf", desc := "(J)I" } : MethodName) ({ cls := "BeamSetter$Group", name := "rightOf", desc := "(J)I" } : MethodName)) ∈ TW := tw_in 745 (by decide +kernel) rfl
set_option maxRecDepth 20000 in
theorem k_746 : (Cond.code ({ cls := "BeamSetter$Group", name := "rightOf", desc := "(J)I" } : MethodName) prog_2_method_28_code (3 : Nat) (some FieldType.int)) ∈ TW := tw_in 746 (by decide +kernel) rfl
set_option maxRecDepth 20000 in
theorem k_747 : (Cond.methodLink "BeamSetter$Group" (158 : Nat) ({ cls := "BeamSetter$Group", name := "tellSetting", desc := "(III)I" } : MethodName)) ∈ TW := tw_in 747 (by decide +kernel) rfl
set_option maxRecDepth 20000 in
theorem k_748 : (Cond.instanceMethod ({ cls := "BeamSetter$Group", name := "tellSetting", desc := "(III)I" } : MethodName)) ∈ TW := tw_in 748 (by decide +kernel) rfl
set_option maxRecDepth 20000 in
theorem k_749 : (Cond.selects "BeamSetter$Group" ({ cls := "BeamSetter$Group", name := "tellSetting", desc := "(III)I" } : MethodName) ({ cls := "BeamSetter$Group", name := "tellSetting", desc := "(III)I" } : MethodName)) ∈ TW := tw_in 749 (by decide +kernel) rfl
set_option maxRecDepth 20000 in
theorem k_750 : (Cond.code ({ cls := "BeamSetter$Group", name := "tellSetting", desc := "(III)I" } : MethodName) prog_2_method_30_code (5 : Nat) (some FieldType.int)) ∈ TW := tw_in 750 (by decide +kernel) rfl
set_option maxRecDepth 20000 in
theorem k_751 : (Cond.methodLink "BeamSetterLaw" (178 : Nat) ({ cls := "BeamSetter", name := "ifPut", desc := "(III)I" } : MethodName)) ∈ TW := tw_in 751 (by decide +kernel) rfl
set_option maxRecDepth 20000 in
theorem k_752 : (Cond.instanceMethod ({ cls := "BeamSetter", name := "ifPut", desc := "(III)I" } : MethodName)) ∈ TW := tw_in 752 (by decide +kernel) rfl
set_option maxRecDepth 20000 in
theorem k_753 : (Cond.selects "BeamSetter" ({ cls := "BeamSetter", name := "ifPut", desc := "(III)I" } : MethodName) ({ cls := "BeamSetter", name := "ifPut", desc := "(III)I" } : MethodName)) ∈ TW := tw_in 753 (by decide +kernel) rfl
set_option maxRecDepth 20000 in
theorem k_754 : (Cond.code ({ cls := "BeamSetter", name := "ifPut", desc := "(III)I" } : MethodName) prog_1_method_21_code (4 : Nat) (some FieldType.int)) ∈ TW := tw_in 754 (by decide +kernel) rfl
set_option maxRecDepth 20000 in
theorem k_755 : (Cond.methodLink "BeamSetter" (127 : Nat) ({ cls := "BeamSetter", name := "isGrouped", desc := "(I)Z" } : MethodName)) ∈ TW := tw_in 755 (by decide +kernel) rfl
set_option maxRecDepth 20000 in
theorem k_757 : (Cond.instanceMethod ({ cls := "BeamSetter", name := "isGrouped", desc := "(I)Z" } : MethodName)) ∈ TW := tw_in 757 (by decide +kernel) rfl
set_option maxRecDepth 20000 in
theorem k_758 : (Cond.code ({ cls := "BeamSetter", name := "isGrouped", desc := "(I)Z" } : MethodName) prog_1_method_41_code (2 : Nat) (some FieldType.boolean)) ∈ TW := tw_in 758 (by decide +kernel) rfl
set_option maxRecDepth 20000 in
theorem k_759 : (Cond.methodLink "BeamSetter" (303 : Nat) ({ cls := "BeamSetter", name := "tryShifted", desc := "(I)Z" } : MethodName)) ∈ TW := tw_in 759 (by decide +kernel) rfl
set_option maxRecDepth 20000 in
theorem k_761 : (Cond.instanceMethod ({ cls := "BeamSetter", name := "tryShifted", desc := "(I)Z" } : MethodName)) ∈ TW := tw_in 761 (by decide +kernel) rfl
set_option maxRecDepth 20000 in
theorem k_762 : (Cond.code ({ cls := "BeamSetter", name := "tryShifted", desc := "(I)Z" } : MethodName) prog_1_method_48_code (3 : Nat) (some FieldType.boolean)) ∈ TW := tw_in 762 (by decide +kernel) rfl
set_option maxRecDepth 20000 in
theorem k_763 : (Cond.methodLink "BeamSetter" (306 : Nat) ({ cls := "BeamSetter", name := "loadTried", desc := "(I)V" } : MethodName)) ∈ TW := tw_in 763 (by decide +kernel) rfl
set_option maxRecDepth 20000 in
theorem k_765 : (Cond.instanceMethod ({ cls := "BeamSetter", name := "loadTried", desc := "(I)V" } : MethodName)) ∈ TW := tw_in 765 (by decide +kernel) rfl
set_option maxRecDepth 20000 in
theorem k_766 : (Cond.code ({ cls := "BeamSetter", name := "loadTried", desc := "(I)V" } : MethodName) prog_1_method_46_code (2 : Nat) (none : Option FieldType)) ∈ TW := tw_in 766 (by decide +kernel) rfl
set_option maxRecDepth 20000 in
theorem k_767 : (Cond.methodLink "BeamSetterLaw" (171 : Nat) ({ cls := "BeamSetter", name := "alone", desc := "(I)I" } : MethodName)) ∈ TW := tw_in 767 (by decide +kernel) rfl
set_option maxRecDepth 20000 in
theorem k_768 : (Cond.instanceMethod ({ cls := "BeamSetter", name := "alone", desc := "(I)I" } : MethodName)) ∈ TW := tw_in 768 (by decide +kernel) rfl
set_option maxRecDepth 20000 in
theorem k_769 : (Cond.selects "BeamSetter" ({ cls := "BeamSetter", name := "alone", desc := "(I)I" } : MethodName) ({ cls := "BeamSetter", name := "alone", desc := "(I)I" } : MethodName)) ∈ TW := tw_in 769 (by decide +kernel) rfl
set_option maxRecDepth 20000 in
theorem k_770 : (Cond.code ({ cls := "BeamSetter", name := "alone", desc := "(I)I" } : MethodName) prog_1_method_28_code (5 : Nat) (some FieldType.int)) ∈ TW := tw_in 770 (by decide +kernel) rfl
set_option maxRecDepth 20000 in
theorem k_771 : (Cond.methodLink "BeamSetter" (133 : Nat) ({ cls := "BeamSetter$Piece", name := "beamsOf", desc := "(I)I" } : MethodName)) ∈ TW := tw_in 771 (by decide +kernel) rfl
set_option maxRecDepth 20000 in
theorem k_772 : (Cond.methodLink "BeamSetterLaw" (168 : Nat) ({ cls := "BeamSetter", name := "count", desc := "(I)I" } : MethodName)) ∈ TW := tw_in 772 (by decide +kernel) rfl
set_option maxRecDepth 20000 in
theorem k_773 : (Cond.instanceMethod ({ cls := "BeamSetter", name := "count", desc := "(I)I" } : MethodName)) ∈ TW := tw_in 773 (by decide +kernel) rfl
set_option maxRecDepth 20000 in
theorem k_774 : (Cond.selects "BeamSetter" ({ cls := "BeamSetter", name := "count", desc := "(I)I" } : MethodName) ({ cls := "BeamSetter", name := "count", desc := "(I)I" } : MethodName)) ∈ TW := tw_in 774 (by decide +kernel) rfl
set_option maxRecDepth 20000 in
theorem k_775 : (Cond.code ({ cls := "BeamSetter", name := "count", desc := "(I)I" } : MethodName) prog_1_method_38_code (2 : Nat) (some FieldType.int)) ∈ TW := tw_in 775 (by decide +kernel) rfl
set_option maxRecDepth 20000 in
theorem k_776 : (Cond.methodLink "BeamSetter" (364 : Nat) ({ cls := "BeamSetter$Piece", name := "countNotes", desc := "()I" } : MethodName)) ∈ TW := tw_in 776 (by decide +kernel) rfl
set_option maxRecDepth 20000 in
theorem k_777 : (Cond.instanceMethod ({ cls := "BeamSetter$Piece", name := "countNotes", desc := "()I" } : MethodName)) ∈ TW := tw_in 777 (by decide +kernel) rfl
set_option maxRecDepth 20000 in
theorem k_778 : (Cond.selects "BeamSetter$Piece" ({ cls := "BeamSetter$Piece", name := "countNotes", desc := "()I" } : MethodName) ({ cls := "BeamSetter$Piece", name := "countNotes", desc := "()I" } : MethodName)) ∈ TW := tw_in 778 (by decide +kernel) rfl
set_option maxRecDepth 20000 in
theorem k_779 : (Cond.code ({ cls := "BeamSetter$Piece", name := "countNotes", desc := "()I" } : MethodName) prog_4_method_28_code (3 : Nat) (some FieldType.int)) ∈ TW := tw_in 779 (by decide +kernel) rfl
set_option maxRecDepth 20000 in
theorem k_780 : (Cond.methodLink "BeamSetter" (367 : Nat) ({ cls := "BeamSetter$Piece", name := "countMeasures", desc := "()I" } : MethodName)) ∈ TW := tw_in 780 (by decide +kernel) rfl
set_option maxRecDepth 20000 in
theorem k_781 : (Cond.instanceMethod ({ cls := "BeamSetter$Piece", name := "countMeasures", desc := "()I" } : MethodName)) ∈ TW := tw_in 781 (by decide +kernel) rfl
set_option maxRecDepth 20000 in
theorem k_782 : (Cond.selects "BeamSetter$Piece" ({ cls := "BeamSetter$Piece", name := "countMeasures", desc := "()I" } : MethodName) ({ cls := "BeamSetter$Piece", name := "countMeasures", desc := "()I" } : MethodName)) ∈ TW := tw_in 782 (by decide +kernel) rfl
set_option maxRecDepth 20000 in
theorem k_783 : (Cond.code ({ cls := "BeamSetter$Piece", name := "countMeasures", desc := "()I" } : MethodName) prog_4_method_29_code (1 : Nat) (some FieldType.int)) ∈ TW := tw_in 783 (by decide +kernel) rfl
set_option maxRecDepth 20000 in
theorem k_784 : (Cond.methodLink "BeamSetterLaw" (37 : Nat) ({ cls := "BeamSetterLaw", name := "cell", desc := "([II)I" } : MethodName)) ∈ TW := tw_in 784 (by decide +kernel) rfl
set_option maxRecDepth 20000 in
theorem k_785 : (Cond.static ({ cls := "BeamSetterLaw", name := "cell", desc := "([II)I" } : MethodName)) ∈ TW := tw_in 785 (by decide +kernel) rfl
set_option maxRecDepth 20000 in
theorem k_786 : (Cond.code ({ cls := "BeamSetterLaw", name := "cell", desc := "([II)I" } : MethodName) method_2_code (2 : Nat) (some FieldType.int)) ∈ TW := tw_in 786 (by decide +kernel) rfl
set_option maxRecDepth 20000 in
theorem k_787 : (Cond.methodLink "BeamSetterLaw" (43 : Nat) ({ cls := "BeamSetterLaw", name := "in", desc := "(II)I" } : MethodName)) ∈ TW := tw_in 787 (by decide +kernel) rfl
set_option maxRecDepth 20000 in
theorem k_788 : (Cond.static ({ cls := "BeamSetterLaw", name := "in", desc := "(II)I" } : MethodName)) ∈ TW := tw_in 788 (by decide +kernel) rfl
set_option maxRecDepth 20000 in
theorem k_789 : (Cond.code ({ cls := "BeamSetterLaw", name := "in", desc := "(II)I" } : MethodName) method_3_code (2 : Nat) (some FieldType.int)) ∈ TW := tw_in 789 (by decide +kernel) rfl
set_option maxRecDepth 20000 in
theorem k_790 : (Cond.constant "BeamSetterLaw" (7 : Nat) (2147483647 : Int32)) ∈ TW := tw_in 790 (by decide +kernel) rfl
set_option maxRecDepth 20000 in
theorem k_791 : (Cond.methodLink "BeamSetterLaw" (162 : Nat) ({ cls := "BeamSetterLaw", name := "put", desc := "(LBeamSetter;Ljava/lang/String;)V" } : MethodName)) ∈ TW := tw_in 791 (by decide +kernel) rfl
set_option maxRecDepth 20000 in
theorem k_792 : (Cond.static ({ cls := "BeamSetterLaw", name := "put", desc := "(LBeamSetter;Ljava/lang/String;)V" } : MethodName)) ∈ TW := tw_in 792 (by decide +kernel) rfl
set_option maxRecDepth 20000 in
theorem k_793 : (Cond.code ({ cls := "BeamSetterLaw", name := "put", desc := "(LBeamSetter;Ljava/lang/String;)V" } : MethodName) method_4_code (6 : Nat) (none : Option FieldType)) ∈ TW := tw_in 793 (by decide +kernel) rfl
set_option maxRecDepth 20000 in
theorem k_979 : (Cond.methodLink "BeamSetterLaw" (31 : Nat) ({ cls := "BeamSetter", name := "feed", desc := "(IIIII)I" } : MethodName)) ∈ TW := tw_in 979 (by decide +kernel) rfl
set_option maxRecDepth 20000 in
theorem k_980 : (Cond.instanceMethod ({ cls := "BeamSetter", name := "feed", desc := "(IIIII)I" } : MethodName)) ∈ TW := tw_in 980 (by decide +kernel) rfl
set_option maxRecDepth 20000 in
theorem k_981 : (Cond.selects "BeamSetter" ({ cls := "BeamSetter", name := "feed", desc := "(IIIII)I" } : MethodName) ({ cls := "BeamSetter", name := "feed", desc := "(IIIII)I" } : MethodName)) ∈ TW := tw_in 981 (by decide +kernel) rfl
set_option maxRecDepth 20000 in
theorem k_982 : (Cond.code ({ cls := "BeamSetter", name := "feed", desc := "(IIIII)I" } : MethodName) prog_1_method_2_code (6 : Nat) (some FieldType.int)) ∈ TW := tw_in 982 (by decide +kernel) rfl
set_option maxRecDepth 20000 in
theorem k_983 : (Cond.methodLink "BeamSetter" (70 : Nat) ({ cls := "BeamSetter$Tape", name := "hasRoomFor", desc := "(I)Z" } : MethodName)) ∈ TW := tw_in 983 (by decide +kernel) rfl
set_option maxRecDepth 20000 in
theorem k_984 : (Cond.instanceMethod ({ cls := "BeamSetter$Tape", name := "hasRoomFor", desc := "(I)Z" } : MethodName)) ∈ TW := tw_in 984 (by decide +kernel) rfl
set_option maxRecDepth 20000 in
theorem k_985 : (Cond.selects "BeamSetter$Tape" ({ cls := "BeamSetter$Tape", name := "hasRoomFor", desc := "(I)Z" } : MethodName) ({ cls := "BeamSetter$Tape", name := "hasRoomFor", desc := "(I)Z" } : MethodName)) ∈ TW := tw_in 985 (by decide +kernel) rfl
set_option maxRecDepth 20000 in
theorem k_986 : (Cond.code ({ cls := "BeamSetter$Tape", name := "hasRoomFor", desc := "(I)Z" } : MethodName) prog_7_method_2_code (2 : Nat) (some FieldType.boolean)) ∈ TW := tw_in 986 (by decide +kernel) rfl
set_option maxRecDepth 20000 in
theorem k_987 : (Cond.methodLink "BeamSetter" (74 : Nat) ({ cls := "BeamSetter$Tape", name := "append", desc := "(I)V" } : MethodName)) ∈ TW := tw_in 987 (by decide +kernel) rfl
set_option maxRecDepth 20000 in
theorem k_988 : (Cond.instanceMethod ({ cls := "BeamSetter$Tape", name := "append", desc := "(I)V" } : MethodName)) ∈ TW := tw_in 988 (by decide +kernel) rfl
set_option maxRecDepth 20000 in
theorem k_989 : (Cond.selects "BeamSetter$Tape" ({ cls := "BeamSetter$Tape", name := "append", desc := "(I)V" } : MethodName) ({ cls := "BeamSetter$Tape", name := "append", desc := "(I)V" } : MethodName)) ∈ TW := tw_in 989 (by decide +kernel) rfl
set_option maxRecDepth 20000 in
theorem k_990 : (Cond.code ({ cls := "BeamSetter$Tape", name := "append", desc := "(I)V" } : MethodName) prog_7_method_3_code (3 : Nat) (none : Option FieldType)) ∈ TW := tw_in 990 (by decide +kernel) rfl
set_option maxRecDepth 20000 in
theorem k_991 : (Cond.methodLink "BeamSetterLaw" (78 : Nat) ({ cls := "BeamSetterLaw", name := "many", desc := "([I)I" } : MethodName)) ∈ TW := tw_in 991 (by decide +kernel) rfl
set_option maxRecDepth 20000 in
theorem k_992 : (Cond.static ({ cls := "BeamSetterLaw", name := "many", desc := "([I)I" } : MethodName)) ∈ TW := tw_in 992 (by decide +kernel) rfl
set_option maxRecDepth 20000 in
theorem k_993 : (Cond.code ({ cls := "BeamSetterLaw", name := "many", desc := "([I)I" } : MethodName) method_7_code (3 : Nat) (some FieldType.int)) ∈ TW := tw_in 993 (by decide +kernel) rfl
set_option maxRecDepth 20000 in
theorem k_994 : (Cond.methodLink "BeamSetterLaw" (47 : Nat) ({ cls := "BeamSetterLaw", name := "kind", desc := "([II)I" } : MethodName)) ∈ TW := tw_in 994 (by decide +kernel) rfl
set_option maxRecDepth 20000 in
theorem k_995 : (Cond.static ({ cls := "BeamSetterLaw", name := "kind", desc := "([II)I" } : MethodName)) ∈ TW := tw_in 995 (by decide +kernel) rfl
set_option maxRecDepth 20000 in
theorem k_996 : (Cond.code ({ cls := "BeamSetterLaw", name := "kind", desc := "([II)I" } : MethodName) method_5_code (2 : Nat) (some FieldType.int)) ∈ TW := tw_in 996 (by decide +kernel) rfl
set_option maxRecDepth 20000 in
theorem k_997 : (Cond.methodLink "BeamSetterLaw" (83 : Nat) ({ cls := "BeamSetterLaw", name := "place", desc := "([II)I" } : MethodName)) ∈ TW := tw_in 997 (by decide +kernel) rfl
set_option maxRecDepth 20000 in
theorem k_998 : (Cond.static ({ cls := "BeamSetterLaw", name := "place", desc := "([II)I" } : MethodName)) ∈ TW := tw_in 998 (by decide +kernel) rfl
set_option maxRecDepth 20000 in
theorem k_999 : (Cond.code ({ cls := "BeamSetterLaw", name := "place", desc := "([II)I" } : MethodName) method_8_code (2 : Nat) (some FieldType.int)) ∈ TW := tw_in 999 (by decide +kernel) rfl
set_option maxRecDepth 20000 in
theorem k_1000 : (Cond.methodLink "BeamSetterLaw" (50 : Nat) ({ cls := "BeamSetterLaw", name := "position", desc := "([II)I" } : MethodName)) ∈ TW := tw_in 1000 (by decide +kernel) rfl
set_option maxRecDepth 20000 in
theorem k_1001 : (Cond.static ({ cls := "BeamSetterLaw", name := "position", desc := "([II)I" } : MethodName)) ∈ TW := tw_in 1001 (by decide +kernel) rfl
set_option maxRecDepth 20000 in
theorem k_1002 : (Cond.code ({ cls := "BeamSetterLaw", name := "position", desc := "([II)I" } : MethodName) method_6_code (2 : Nat) (some FieldType.int)) ∈ TW := tw_in 1002 (by decide +kernel) rfl
set_option maxRecDepth 20000 in
theorem k_1003 : (Cond.methodLink "BeamSetterLaw" (53 : Nat) ({ cls := "java/lang/Math", name := "min", desc := "(II)I" } : MethodName)) ∈ TW := tw_in 1003 (by decide +kernel) rfl
set_option maxRecDepth 20000 in
theorem k_1004 : (Cond.methodLink "BeamSetterLaw" (158 : Nat) ({ cls := "BeamSetterLaw", name := "text", desc := "([I)Ljava/lang/String;" } : MethodName)) ∈ TW := tw_in 1004 (by decide +kernel) rfl
set_option maxRecDepth 20000 in
theorem k_1005 : (Cond.static ({ cls := "BeamSetterLaw", name := "text", desc := "([I)Ljava/lang/String;" } : MethodName)) ∈ TW := tw_in 1005 (by decide +kernel) rfl
set_option maxRecDepth 20000 in
theorem k_1006 : (Cond.code ({ cls := "BeamSetterLaw", name := "text", desc := "([I)Ljava/lang/String;" } : MethodName) method_11_code (3 : Nat) (some (FieldType.object "java/lang/String"))) ∈ TW := tw_in 1006 (by decide +kernel) rfl
set_option maxRecDepth 20000 in
theorem k_1008 : (Cond.methodLink "BeamSetterLaw" (60 : Nat) ({ cls := "BeamSetterLaw", name := "knee", desc := "([I)I" } : MethodName)) ∈ TW := tw_in 1008 (by decide +kernel) rfl
set_option maxRecDepth 20000 in
theorem k_1009 : (Cond.static ({ cls := "BeamSetterLaw", name := "knee", desc := "([I)I" } : MethodName)) ∈ TW := tw_in 1009 (by decide +kernel) rfl
set_option maxRecDepth 20000 in
theorem k_1010 : (Cond.code ({ cls := "BeamSetterLaw", name := "knee", desc := "([I)I" } : MethodName) method_9_code (1 : Nat) (some FieldType.int)) ∈ TW := tw_in 1010 (by decide +kernel) rfl
set_option maxRecDepth 20000 in
theorem k_1037 : (Cond.methodLink "BeamSetterLaw" (69 : Nat) ({ cls := "BeamSetterLaw", name := "wide", desc := "([II)I" } : MethodName)) ∈ TW := tw_in 1037 (by decide +kernel) rfl
set_option maxRecDepth 20000 in
theorem k_1038 : (Cond.static ({ cls := "BeamSetterLaw", name := "wide", desc := "([II)I" } : MethodName)) ∈ TW := tw_in 1038 (by decide +kernel) rfl
set_option maxRecDepth 20000 in
theorem k_1039 : (Cond.code ({ cls := "BeamSetterLaw", name := "wide", desc := "([II)I" } : MethodName) method_10_code (2 : Nat) (some FieldType.int)) ∈ TW := tw_in 1039 (by decide +kernel) rfl
set_option maxRecDepth 20000 in
theorem k_1046 : (Cond.methodLink "BeamSetterLaw" (90 : Nat) ({ cls := "java/lang/Math", name := "abs", desc := "(I)I" } : MethodName)) ∈ TW := tw_in 1046 (by decide +kernel) rfl
set_option maxRecDepth 20000 in
theorem k_1047 : (Cond.methodLink "BeamSetterLaw" (174 : Nat) ({ cls := "BeamSetterLaw", name := "isBest", desc := "(LBeamSetter;[I[I)Z" } : MethodName)) ∈ TW := tw_in 1047 (by decide +kernel) rfl
set_option maxRecDepth 20000 in
theorem k_1048 : (Cond.static ({ cls := "BeamSetterLaw", name := "isBest", desc := "(LBeamSetter;[I[I)Z" } : MethodName)) ∈ TW := tw_in 1048 (by decide +kernel) rfl
set_option maxRecDepth 20000 in
theorem k_1049 : (Cond.code ({ cls := "BeamSetterLaw", name := "isBest", desc := "(LBeamSetter;[I[I)Z" } : MethodName) method_16_code (18 : Nat) (some FieldType.boolean)) ∈ TW := tw_in 1049 (by decide +kernel) rfl
set_option maxRecDepth 20000 in
theorem k_1050 : (Cond.methodLink "BeamSetterLaw" (117 : Nat) ({ cls := "BeamSetterLaw", name := "ways", desc := "([I[I)[I" } : MethodName)) ∈ TW := tw_in 1050 (by decide +kernel) rfl
set_option maxRecDepth 20000 in
theorem k_1051 : (Cond.static ({ cls := "BeamSetterLaw", name := "ways", desc := "([I[I)[I" } : MethodName)) ∈ TW := tw_in 1051 (by decide +kernel) rfl
set_option maxRecDepth 20000 in
theorem k_1052 : (Cond.code ({ cls := "BeamSetterLaw", name := "ways", desc := "([I[I)[I" } : MethodName) method_12_code (14 : Nat) (some (FieldType.array FieldType.int))) ∈ TW := tw_in 1052 (by decide +kernel) rfl
set_option maxRecDepth 20000 in
theorem k_1053 : (Cond.methodLink "BeamSetterLaw" (94 : Nat) ({ cls := "java/lang/Math", name := "max", desc := "(II)I" } : MethodName)) ∈ TW := tw_in 1053 (by decide +kernel) rfl
set_option maxRecDepth 20000 in
theorem k_1054 : (Cond.methodLink "BeamSetterLaw" (121 : Nat) ({ cls := "BeamSetterLaw", name := "judged", desc := "([I[I[I[III)[J" } : MethodName)) ∈ TW := tw_in 1054 (by decide +kernel) rfl
set_option maxRecDepth 20000 in
theorem k_1055 : (Cond.static ({ cls := "BeamSetterLaw", name := "judged", desc := "([I[I[I[III)[J" } : MethodName)) ∈ TW := tw_in 1055 (by decide +kernel) rfl
set_option maxRecDepth 20000 in
theorem k_1056 : (Cond.code ({ cls := "BeamSetterLaw", name := "judged", desc := "([I[I[I[III)[J" } : MethodName) method_14_code (25 : Nat) (some (FieldType.array FieldType.long))) ∈ TW := tw_in 1056 (by decide +kernel) rfl
set_option maxRecDepth 20000 in
theorem k_1057 : (Cond.constantLong "BeamSetterLaw" (97 : Nat) (2 : Int64)) ∈ TW := tw_in 1057 (by decide +kernel) rfl
set_option maxRecDepth 20000 in
theorem k_1058 : (Cond.constantLong "BeamSetterLaw" (99 : Nat) (44 : Int64)) ∈ TW := tw_in 1058 (by decide +kernel) rfl
set_option maxRecDepth 20000 in
theorem k_1059 : (Cond.methodLink "BeamSetterLaw" (101 : Nat) ({ cls := "BeamSetterLaw", name := "isKneed", desc := "([I)Z" } : MethodName)) ∈ TW := tw_in 1059 (by decide +kernel) rfl
set_option maxRecDepth 20000 in
theorem k_1060 : (Cond.static ({ cls := "BeamSetterLaw", name := "isKneed", desc := "([I)Z" } : MethodName)) ∈ TW := tw_in 1060 (by decide +kernel) rfl
set_option maxRecDepth 20000 in
theorem k_1061 : (Cond.code ({ cls := "BeamSetterLaw", name := "isKneed", desc := "([I)Z" } : MethodName) method_13_code (5 : Nat) (some FieldType.boolean)) ∈ TW := tw_in 1061 (by decide +kernel) rfl
set_option maxRecDepth 20000 in
theorem k_1062 : (Cond.methodLink "BeamSetterLaw" (105 : Nat) ({ cls := "java/lang/Integer", name := "signum", desc := "(I)I" } : MethodName)) ∈ TW := tw_in 1062 (by decide +kernel) rfl
set_option maxRecDepth 20000 in
theorem k_1063 : (Cond.static ({ cls := "java/lang/Integer", name := "signum", desc := "(I)I" } : MethodName)) ∈ TW := tw_in 1063 (by decide +kernel) rfl
set_option maxRecDepth 20000 in
theorem k_1064 : (Cond.code ({ cls := "java/lang/Integer", name := "signum", desc := "(I)I" } : MethodName) prog_19_method_56_code (1 : Nat) (some FieldType.int)) ∈ TW := tw_in 1064 (by decide +kernel) rfl
set_option maxRecDepth 20000 in
theorem k_1065 : (Cond.methodLink "BeamSetterLaw" (110 : Nat) ({ cls := "java/lang/Math", name := "floorMod", desc := "(II)I" } : MethodName)) ∈ TW := tw_in 1065 (by decide +kernel) rfl
set_option maxRecDepth 20000 in
theorem k_1066 : (Cond.static ({ cls := "java/lang/Math", name := "floorMod", desc := "(II)I" } : MethodName)) ∈ TW := tw_in 1066 (by decide +kernel) rfl
set_option maxRecDepth 20000 in
theorem k_1067 : (Cond.code ({ cls := "java/lang/Math", name := "floorMod", desc := "(II)I" } : MethodName) prog_20_method_50_code (3 : Nat) (some FieldType.int)) ∈ TW := tw_in 1067 (by decide +kernel) rfl
set_option maxRecDepth 20000 in
theorem k_1068 : (Cond.constantLong "BeamSetterLaw" (113 : Nat) (25 : Int64)) ∈ TW := tw_in 1068 (by decide +kernel) rfl
set_option maxRecDepth 20000 in
theorem k_1069 : (Cond.constantLong "BeamSetterLaw" (115 : Nat) (8 : Int64)) ∈ TW := tw_in 1069 (by decide +kernel) rfl
set_option maxRecDepth 20000 in
theorem k_1070 : (Cond.methodLink "BeamSetterLaw" (125 : Nat) ({ cls := "BeamSetterLaw", name := "isAhead", desc := "([JII[JIII)Z" } : MethodName)) ∈ TW := tw_in 1070 (by decide +kernel) rfl
set_option maxRecDepth 20000 in
theorem k_1071 : (Cond.static ({ cls := "BeamSetterLaw", name := "isAhead", desc := "([JII[JIII)Z" } : MethodName)) ∈ TW := tw_in 1071 (by decide +kernel) rfl
set_option maxRecDepth 20000 in
theorem k_1072 : (Cond.code ({ cls := "BeamSetterLaw", name := "isAhead", desc := "([JII[JIII)Z" } : MethodName) method_15_code (11 : Nat) (some FieldType.boolean)) ∈ TW := tw_in 1072 (by decide +kernel) rfl
set_option maxRecDepth 20000 in
theorem k_1073 : (Cond.methodLink "BeamSetterLaw" (129 : Nat) ({ cls := "BeamSetter", name := "direction", desc := "(I)I" } : MethodName)) ∈ TW := tw_in 1073 (by decide +kernel) rfl
set_option maxRecDepth 20000 in
theorem k_1074 : (Cond.instanceMethod ({ cls := "BeamSetter", name := "direction", desc := "(I)I" } : MethodName)) ∈ TW := tw_in 1074 (by decide +kernel) rfl
set_option maxRecDepth 20000 in
theorem k_1075 : (Cond.selects "BeamSetter" ({ cls := "BeamSetter", name := "direction", desc := "(I)I" } : MethodName) ({ cls := "BeamSetter", name := "direction", desc := "(I)I" } : MethodName)) ∈ TW := tw_in 1075 (by decide +kernel) rfl
set_option maxRecDepth 20000 in
theorem k_1076 : (Cond.code ({ cls := "BeamSetter", name := "direction", desc := "(I)I" } : MethodName) prog_1_method_7_code (2 : Nat) (some FieldType.int)) ∈ TW := tw_in 1076 (by decide +kernel) rfl
set_option maxRecDepth 20000 in
theorem k_1077 : (Cond.methodLink "BeamSetter" (151 : Nat) ({ cls := "BeamSetter", name := "loadAround", desc := "(I)I" } : MethodName)) ∈ TW := tw_in 1077 (by decide +kernel) rfl
set_option maxRecDepth 20000 in
theorem k_1079 : (Cond.instanceMethod ({ cls := "BeamSetter", name := "loadAround", desc := "(I)I" } : MethodName)) ∈ TW := tw_in 1079 (by decide +kernel) rfl
set_option maxRecDepth 20000 in
theorem k_1080 : (Cond.code ({ cls := "BeamSetter", name := "loadAround", desc := "(I)I" } : MethodName) prog_1_method_47_code (3 : Nat) (some FieldType.int)) ∈ TW := tw_in 1080 (by decide +kernel) rfl
set_option maxRecDepth 20000 in
theorem k_1081 : (Cond.methodLink "BeamSetterLaw" (134 : Nat) ({ cls := "BeamSetter", name := "group", desc := "(II)I" } : MethodName)) ∈ TW := tw_in 1081 (by decide +kernel) rfl
set_option maxRecDepth 20000 in
theorem k_1082 : (Cond.instanceMethod ({ cls := "BeamSetter", name := "group", desc := "(II)I" } : MethodName)) ∈ TW := tw_in 1082 (by decide +kernel) rfl
set_option maxRecDepth 20000 in
theorem k_1083 : (Cond.selects "BeamSetter" ({ cls := "BeamSetter", name := "group", desc := "(II)I" } : MethodName) ({ cls := "BeamSetter", name := "group", desc := "(II)I" } : MethodName)) ∈ TW := tw_in 1083 (by decide +kernel) rfl
set_option maxRecDepth 20000 in
theorem k_1084 : (Cond.code ({ cls := "BeamSetter", name := "group", desc := "(II)I" } : MethodName) prog_1_method_10_code (3 : Nat) (some FieldType.int)) ∈ TW := tw_in 1084 (by decide +kernel) rfl
set_option maxRecDepth 20000 in
theorem k_1151 : (Cond.methodLink "BeamSetter" (190 : Nat) ({ cls := "BeamSetter$Group", name := "mostBeams", desc := "()I" } : MethodName)) ∈ TW := tw_in 1151 (by decide +kernel) rfl
set_option maxRecDepth 20000 in
theorem k_1152 : (Cond.instanceMethod ({ cls := "BeamSetter$Group", name := "mostBeams", desc := "()I" } : MethodName)) ∈ TW := tw_in 1152 (by decide +kernel) rfl
set_option maxRecDepth 20000 in
theorem k_1153 : (Cond.selects "BeamSetter$Group" ({ cls := "BeamSetter$Group", name := "mostBeams", desc := "()I" } : MethodName) ({ cls := "BeamSetter$Group", name := "mostBeams", desc := "()I" } : MethodName)) ∈ TW := tw_in 1153 (by decide +kernel) rfl
set_option maxRecDepth 20000 in
theorem k_1154 : (Cond.code ({ cls := "BeamSetter$Group", name := "mostBeams", desc := "()I" } : MethodName) prog_2_method_21_code (3 : Nat) (some FieldType.int)) ∈ TW := tw_in 1154 (by decide +kernel) rfl
set_option maxRecDepth 20000 in
theorem k_1155 : (Cond.methodLink "BeamSetter" (193 : Nat) ({ cls := "BeamSetter$Group", name := "gather", desc := "()I" } : MethodName)) ∈ TW := tw_in 1155 (by decide +kernel) rfl
set_option maxRecDepth 20000 in
theorem k_1156 : (Cond.instanceMethod ({ cls := "BeamSetter$Group", name := "gather", desc := "()I" } : MethodName)) ∈ TW := tw_in 1156 (by decide +kernel) rfl
set_option maxRecDepth 20000 in
theorem k_1157 : (Cond.selects "BeamSetter$Group" ({ cls := "BeamSetter$Group", name := "gather", desc := "()I" } : MethodName) ({ cls := "BeamSetter$Group", name := "gather", desc := "()I" } : MethodName)) ∈ TW := tw_in 1157 (by decide +kernel) rfl
set_option maxRecDepth 20000 in
theorem k_1158 : (Cond.code ({ cls := "BeamSetter$Group", name := "gather", desc := "()I" } : MethodName) prog_2_method_36_code (4 : Nat) (some FieldType.int)) ∈ TW := tw_in 1158 (by decide +kernel) rfl
set_option maxRecDepth 20000 in
theorem k_1159 : (Cond.methodLink "BeamSetter" (196 : Nat) ({ cls := "BeamSetter$Group", name := "howManyUp", desc := "()I" } : MethodName)) ∈ TW := tw_in 1159 (by decide +kernel) rfl
set_option maxRecDepth 20000 in
theorem k_1160 : (Cond.instanceMethod ({ cls := "BeamSetter$Group", name := "howManyUp", desc := "()I" } : MethodName)) ∈ TW := tw_in 1160 (by decide +kernel) rfl
set_option maxRecDepth 20000 in
theorem k_1161 : (Cond.selects "BeamSetter$Group" ({ cls := "BeamSetter$Group", name := "howManyUp", desc := "()I" } : MethodName) ({ cls := "BeamSetter$Group", name := "howManyUp", desc := "()I" } : MethodName)) ∈ TW := tw_in 1161 (by decide +kernel) rfl
set_option maxRecDepth 20000 in
theorem k_1162 : (Cond.code ({ cls := "BeamSetter$Group", name := "howManyUp", desc := "()I" } : MethodName) prog_2_method_22_code (3 : Nat) (some FieldType.int)) ∈ TW := tw_in 1162 (by decide +kernel) rfl
set_option maxRecDepth 20000 in
theorem k_1179 : (Cond.constant "BeamSetterLaw" (140 : Nat) (-1000000 : Int32)) ∈ TW := tw_in 1179 (by decide +kernel) rfl
set_option maxRecDepth 20000 in
theorem k_1180 : (Cond.methodLink "BeamSetterLaw" (141 : Nat) ({ cls := "BeamSetter", name := "total", desc := "(I)I" } : MethodName)) ∈ TW := tw_in 1180 (by decide +kernel) rfl
set_option maxRecDepth 20000 in
theorem k_1181 : (Cond.instanceMethod ({ cls := "BeamSetter", name := "total", desc := "(I)I" } : MethodName)) ∈ TW := tw_in 1181 (by decide +kernel) rfl
set_option maxRecDepth 20000 in
theorem k_1182 : (Cond.selects "BeamSetter" ({ cls := "BeamSetter", name := "total", desc := "(I)I" } : MethodName) ({ cls := "BeamSetter", name := "total", desc := "(I)I" } : MethodName)) ∈ TW := tw_in 1182 (by decide +kernel) rfl
set_option maxRecDepth 20000 in
theorem k_1183 : (Cond.code ({ cls := "BeamSetter", name := "total", desc := "(I)I" } : MethodName) prog_1_method_20_code (2 : Nat) (some FieldType.int)) ∈ TW := tw_in 1183 (by decide +kernel) rfl
set_option maxRecDepth 20000 in
theorem k_1184 : (Cond.methodLink "BeamSetter" (291 : Nat) ({ cls := "BeamSetter$Totals", name := "isWhat", desc := "(I)Z" } : MethodName)) ∈ TW := tw_in 1184 (by decide +kernel) rfl
set_option maxRecDepth 20000 in
theorem k_1185 : (Cond.static ({ cls := "BeamSetter$Totals", name := "isWhat", desc := "(I)Z" } : MethodName)) ∈ TW := tw_in 1185 (by decide +kernel) rfl
set_option maxRecDepth 20000 in
theorem k_1186 : (Cond.code ({ cls := "BeamSetter$Totals", name := "isWhat", desc := "(I)Z" } : MethodName) prog_8_method_2_code (1 : Nat) (some FieldType.boolean)) ∈ TW := tw_in 1186 (by decide +kernel) rfl
set_option maxRecDepth 20000 in
theorem k_1187 : (Cond.methodLink "BeamSetter" (297 : Nat) ({ cls := "BeamSetter$Totals", name := "take", desc := "(LBeamSetter$Piece;[IILBeamSetter$Group;)V" } : MethodName)) ∈ TW := tw_in 1187 (by decide +kernel) rfl
set_option maxRecDepth 20000 in
theorem k_1188 : (Cond.instanceMethod ({ cls := "BeamSetter$Totals", name := "take", desc := "(LBeamSetter$Piece;[IILBeamSetter$Group;)V" } : MethodName)) ∈ TW := tw_in 1188 (by decide +kernel) rfl
set_option maxRecDepth 20000 in
theorem k_1189 : (Cond.selects "BeamSetter$Totals" ({ cls := "BeamSetter$Totals", name := "take", desc := "(LBeamSetter$Piece;[IILBeamSetter$Group;)V" } : MethodName) ({ cls := "BeamSetter$Totals", name := "take", desc := "(LBeamSetter$Piece;[IILBeamSetter$Group;)V" } : MethodName)) ∈ TW := tw_in 1189 (by decide +kernel) rfl
set_option maxRecDepth 20000 in
theorem k_1190 : (Cond.code ({ cls := "BeamSetter$Totals", name := "take", desc := "(LBeamSetter$Piece;[IILBeamSetter$Group;)V" } : MethodName) prog_8_method_3_code (10 : Nat) (none : Option FieldType)) ∈ TW := tw_in 1190 (by decide +kernel) rfl
set_option maxRecDepth 20000 in
theorem k_1191 : (Cond.methodLink "BeamSetter$Totals" (36 : Nat) ({ cls := "BeamSetter$Group", name := "load", desc := "(LBeamSetter$Piece;[IIII)V" } : MethodName)) ∈ TW := tw_in 1191 (by decide +kernel) rfl
set_option maxRecDepth 20000 in
theorem k_1192 : (Cond.methodLink "BeamSetter$Totals" (45 : Nat) ({ cls := "BeamSetter$Group", name := "findBest", desc := "()J" } : MethodName)) ∈ TW := tw_in 1192 (by decide +kernel) rfl
set_option maxRecDepth 20000 in
theorem k_1193 : (Cond.constantLong "BeamSetter$Totals" (49 : Nat) (9223372036854775807 : Int64)) ∈ TW := tw_in 1193 (by decide +kernel) rfl
set_option maxRecDepth 20000 in
theorem k_1194 : (Cond.methodLink "BeamSetter$Totals" (51 : Nat) ({ cls := "BeamSetter$Group", name := "uglinessOf", desc := "(J)I" } : MethodName)) ∈ TW := tw_in 1194 (by decide +kernel) rfl
set_option maxRecDepth 20000 in
theorem k_1195 : (Cond.methodLink "BeamSetter$Totals" (55 : Nat) ({ cls := "java/lang/Math", name := "max", desc := "(II)I" } : MethodName)) ∈ TW := tw_in 1195 (by decide +kernel) rfl
set_option maxRecDepth 20000 in
theorem k_1196 : (Cond.methodLink "BeamSetter" (301 : Nat) ({ cls := "BeamSetter$Totals", name := "tell", desc := "(I)I" } : MethodName)) ∈ TW := tw_in 1196 (by decide +kernel) rfl
set_option maxRecDepth 20000 in
theorem k_1197 : (Cond.instanceMethod ({ cls := "BeamSetter$Totals", name := "tell", desc := "(I)I" } : MethodName)) ∈ TW := tw_in 1197 (by decide +kernel) rfl
set_option maxRecDepth 20000 in
theorem k_1198 : (Cond.selects "BeamSetter$Totals" ({ cls := "BeamSetter$Totals", name := "tell", desc := "(I)I" } : MethodName) ({ cls := "BeamSetter$Totals", name := "tell", desc := "(I)I" } : MethodName)) ∈ TW := tw_in 1198 (by decide +kernel) rfl
set_option maxRecDepth 20000 in
theorem k_1199 : (Cond.code ({ cls := "BeamSetter$Totals", name := "tell", desc := "(I)I" } : MethodName) prog_8_method_4_code (2 : Nat) (some FieldType.int)) ∈ TW := tw_in 1199 (by decide +kernel) rfl
set_option maxRecDepth 20000 in
theorem k_1200 : (Cond.methodLink "BeamSetterLaw" (144 : Nat) ({ cls := "BeamSetter", name := "ugliness", desc := "(IIII)I" } : MethodName)) ∈ TW := tw_in 1200 (by decide +kernel) rfl
set_option maxRecDepth 20000 in
theorem k_1201 : (Cond.instanceMethod ({ cls := "BeamSetter", name := "ugliness", desc := "(IIII)I" } : MethodName)) ∈ TW := tw_in 1201 (by decide +kernel) rfl
set_option maxRecDepth 20000 in
theorem k_1202 : (Cond.selects "BeamSetter" ({ cls := "BeamSetter", name := "ugliness", desc := "(IIII)I" } : MethodName) ({ cls := "BeamSetter", name := "ugliness", desc := "(IIII)I" } : MethodName)) ∈ TW := tw_in 1202 (by decide +kernel) rfl
set_option maxRecDepth 20000 in
theorem k_1203 : (Cond.code ({ cls := "BeamSetter", name := "ugliness", desc := "(IIII)I" } : MethodName) prog_1_method_13_code (5 : Nat) (some FieldType.int)) ∈ TW := tw_in 1203 (by decide +kernel) rfl
set_option maxRecDepth 20000 in
theorem k_1204 : (Cond.methodLink "BeamSetter" (205 : Nat) ({ cls := "BeamSetter$Group", name := "isSetting", desc := "(II)Z" } : MethodName)) ∈ TW := tw_in 1204 (by decide +kernel) rfl
set_option maxRecDepth 20000 in
theorem k_1205 : (Cond.static ({ cls := "BeamSetter$Group", name := "isSetting", desc := "(II)Z" } : MethodName)) ∈ TW := tw_in 1205 (by decide +kernel) rfl
set_option maxRecDepth 20000 in
theorem k_1206 : (Cond.code ({ cls := "BeamSetter$Group", name := "isSetting", desc := "(II)Z" } : MethodName) prog_2_method_10_code (2 : Nat) (some FieldType.boolean)) ∈ TW := tw_in 1206 (by decide +kernel) rfl
set_option maxRecDepth 20000 in
theorem k_1207 : (Cond.methodLink "BeamSetter" (209 : Nat) ({ cls := "BeamSetter$Group", name := "allows", desc := "(II)Z" } : MethodName)) ∈ TW := tw_in 1207 (by decide +kernel) rfl
set_option maxRecDepth 20000 in
theorem k_1208 : (Cond.instanceMethod ({ cls := "BeamSetter$Group", name := "allows", desc := "(II)Z" } : MethodName)) ∈ TW := tw_in 1208 (by decide +kernel) rfl
set_option maxRecDepth 20000 in
theorem k_1209 : (Cond.selects "BeamSetter$Group" ({ cls := "BeamSetter$Group", name := "allows", desc := "(II)Z" } : MethodName) ({ cls := "BeamSetter$Group", name := "allows", desc := "(II)Z" } : MethodName)) ∈ TW := tw_in 1209 (by decide +kernel) rfl
set_option maxRecDepth 20000 in
theorem k_1210 : (Cond.code ({ cls := "BeamSetter$Group", name := "allows", desc := "(II)Z" } : MethodName) prog_2_method_12_code (3 : Nat) (some FieldType.boolean)) ∈ TW := tw_in 1210 (by decide +kernel) rfl
set_option maxRecDepth 20000 in
theorem k_1211 : (Cond.methodLink "BeamSetter" (212 : Nat) ({ cls := "BeamSetter$Group", name := "tellSetting", desc := "(III)I" } : MethodName)) ∈ TW := tw_in 1211 (by decide +kernel) rfl
set_option maxRecDepth 20000 in
theorem k_1212 : (Cond.constantLong "BeamSetterLaw" (148 : Nat) (-2 : Int64)) ∈ TW := tw_in 1212 (by decide +kernel) rfl
set_option maxRecDepth 20000 in
theorem k_1213 : (Cond.methodLink "BeamSetterLaw" (150 : Nat) ({ cls := "BeamSetter", name := "rank", desc := "(III)I" } : MethodName)) ∈ TW := tw_in 1213 (by decide +kernel) rfl
set_option maxRecDepth 20000 in
theorem k_1214 : (Cond.instanceMethod ({ cls := "BeamSetter", name := "rank", desc := "(III)I" } : MethodName)) ∈ TW := tw_in 1214 (by decide +kernel) rfl
set_option maxRecDepth 20000 in
theorem k_1215 : (Cond.selects "BeamSetter" ({ cls := "BeamSetter", name := "rank", desc := "(III)I" } : MethodName) ({ cls := "BeamSetter", name := "rank", desc := "(III)I" } : MethodName)) ∈ TW := tw_in 1215 (by decide +kernel) rfl
set_option maxRecDepth 20000 in
theorem k_1216 : (Cond.code ({ cls := "BeamSetter", name := "rank", desc := "(III)I" } : MethodName) prog_1_method_16_code (4 : Nat) (some FieldType.int)) ∈ TW := tw_in 1216 (by decide +kernel) rfl
set_option maxRecDepth 20000 in
theorem k_1217 : (Cond.methodLink "BeamSetter" (230 : Nat) ({ cls := "BeamSetter$Group", name := "keyOfSetting", desc := "(II)J" } : MethodName)) ∈ TW := tw_in 1217 (by decide +kernel) rfl
set_option maxRecDepth 20000 in
theorem k_1218 : (Cond.instanceMethod ({ cls := "BeamSetter$Group", name := "keyOfSetting", desc := "(II)J" } : MethodName)) ∈ TW := tw_in 1218 (by decide +kernel) rfl
set_option maxRecDepth 20000 in
theorem k_1219 : (Cond.selects "BeamSetter$Group" ({ cls := "BeamSetter$Group", name := "keyOfSetting", desc := "(II)J" } : MethodName) ({ cls := "BeamSetter$Group", name := "keyOfSetting", desc := "(II)J" } : MethodName)) ∈ TW := tw_in 1219 (by decide +kernel) rfl
set_option maxRecDepth 20000 in
theorem k_1220 : (Cond.code ({ cls := "BeamSetter$Group", name := "keyOfSetting", desc := "(II)J" } : MethodName) prog_2_method_24_code (3 : Nat) (some FieldType.long)) ∈ TW := tw_in 1220 (by decide +kernel) rfl
set_option maxRecDepth 20000 in
theorem k_1221 : (Cond.methodLink "BeamSetter" (234 : Nat) ({ cls := "BeamSetter$Group", name := "rankOf", desc := "(J)I" } : MethodName)) ∈ TW := tw_in 1221 (by decide +kernel) rfl
set_option maxRecDepth 20000 in
theorem k_1222 : (Cond.instanceMethod ({ cls := "BeamSetter$Group", name := "rankOf", desc := "(J)I" } : MethodName)) ∈ TW := tw_in 1222 (by decide +kernel) rfl
set_option maxRecDepth 20000 in
theorem k_1223 : (Cond.selects "BeamSetter$Group" ({ cls := "BeamSetter$Group", name := "rankOf", desc := "(J)I" } : MethodName) ({ cls := "BeamSetter$Group", name := "rankOf", desc := "(J)I" } : MethodName)) ∈ TW := tw_in 1223 (by decide +kernel) rfl
set_option maxRecDepth 20000 in
theorem k_1224 : (Cond.code ({ cls := "BeamSetter$Group", name := "rankOf", desc := "(J)I" } : MethodName) prog_2_method_37_code (6 : Nat) (some FieldType.int)) ∈ TW := tw_in 1224 (by decide +kernel) rfl
set_option maxRecDepth 20000 in
theorem k_1225 : (Cond.methodLink "BeamSetter$Group" (174 : Nat) ({ cls := "BeamSetter$Group", name := "gather", desc := "()I" } : MethodName)) ∈ TW := tw_in 1225 (by decide +kernel) rfl
set_option maxRecDepth 20000 in
theorem k_1226 : (Cond.methodLink "BeamSetterLaw" (154 : Nat) ({ cls := "BeamSetter", name := "ranked", desc := "(III)I" } : MethodName)) ∈ TW := tw_in 1226 (by decide +kernel) rfl
set_option maxRecDepth 20000 in
theorem k_1227 : (Cond.instanceMethod ({ cls := "BeamSetter", name := "ranked", desc := "(III)I" } : MethodName)) ∈ TW := tw_in 1227 (by decide +kernel) rfl
set_option maxRecDepth 20000 in
theorem k_1228 : (Cond.selects "BeamSetter" ({ cls := "BeamSetter", name := "ranked", desc := "(III)I" } : MethodName) ({ cls := "BeamSetter", name := "ranked", desc := "(III)I" } : MethodName)) ∈ TW := tw_in 1228 (by decide +kernel) rfl
set_option maxRecDepth 20000 in
theorem k_1229 : (Cond.code ({ cls := "BeamSetter", name := "ranked", desc := "(III)I" } : MethodName) prog_1_method_15_code (4 : Nat) (some FieldType.int)) ∈ TW := tw_in 1229 (by decide +kernel) rfl
set_option maxRecDepth 20000 in
theorem k_1230 : (Cond.methodLink "BeamSetter" (219 : Nat) ({ cls := "BeamSetter$Group", name := "sortKeys", desc := "()V" } : MethodName)) ∈ TW := tw_in 1230 (by decide +kernel) rfl
set_option maxRecDepth 20000 in
theorem k_1231 : (Cond.instanceMethod ({ cls := "BeamSetter$Group", name := "sortKeys", desc := "()V" } : MethodName)) ∈ TW := tw_in 1231 (by decide +kernel) rfl
set_option maxRecDepth 20000 in
theorem k_1232 : (Cond.selects "BeamSetter$Group" ({ cls := "BeamSetter$Group", name := "sortKeys", desc := "()V" } : MethodName) ({ cls := "BeamSetter$Group", name := "sortKeys", desc := "()V" } : MethodName)) ∈ TW := tw_in 1232 (by decide +kernel) rfl
set_option maxRecDepth 20000 in
theorem k_1233 : (Cond.code ({ cls := "BeamSetter$Group", name := "sortKeys", desc := "()V" } : MethodName) prog_2_method_38_code (6 : Nat) (none : Option FieldType)) ∈ TW := tw_in 1233 (by decide +kernel) rfl
