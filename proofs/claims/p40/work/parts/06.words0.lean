set_option maxRecDepth 20000 in
theorem k_s0 : Cond.selects "BeamSetter$Reader" (⟨"BeamSetter$Reader", "forgetTold", "()V"⟩ : MethodName) ⟨"BeamSetter$Reader", "forgetTold", "()V"⟩ ∈ TW := tw_in 0 (by decide +kernel) rfl
set_option maxRecDepth 20000 in
theorem k_s1 : Cond.selects "BeamSetter$Reader" (⟨"BeamSetter$Reader", "skipBlanks", "()V"⟩ : MethodName) ⟨"BeamSetter$Reader", "skipBlanks", "()V"⟩ ∈ TW := tw_in 1 (by decide +kernel) rfl
set_option maxRecDepth 20000 in
theorem k_s2 : Cond.selects "BeamSetter$Reader" (⟨"BeamSetter$Reader", "readLine", "()Z"⟩ : MethodName) ⟨"BeamSetter$Reader", "readLine", "()Z"⟩ ∈ TW := tw_in 2 (by decide +kernel) rfl
set_option maxRecDepth 20000 in
theorem k_s3 : Cond.selects "BeamSetter$Reader" (⟨"BeamSetter$Reader", "takeWord", "()I"⟩ : MethodName) ⟨"BeamSetter$Reader", "takeWord", "()I"⟩ ∈ TW := tw_in 3 (by decide +kernel) rfl
set_option maxRecDepth 20000 in
theorem k_s4 : Cond.selects "BeamSetter$Reader" (⟨"BeamSetter$Reader", "isLetterHere", "()Z"⟩ : MethodName) ⟨"BeamSetter$Reader", "isLetterHere", "()Z"⟩ ∈ TW := tw_in 4 (by decide +kernel) rfl
set_option maxRecDepth 20000 in
theorem k_s5 : Cond.selects "BeamSetter$Reader" (⟨"BeamSetter$Reader", "spells", "(ILjava/lang/String;)Z"⟩ : MethodName) ⟨"BeamSetter$Reader", "spells", "(ILjava/lang/String;)Z"⟩ ∈ TW := tw_in 5 (by decide +kernel) rfl
set_option maxRecDepth 20000 in
theorem k_s6 : Cond.selects "BeamSetter$Reader" (⟨"BeamSetter$Reader", "isTooLate", "(I)Z"⟩ : MethodName) ⟨"BeamSetter$Reader", "isTooLate", "(I)Z"⟩ ∈ TW := tw_in 6 (by decide +kernel) rfl
set_option maxRecDepth 20000 in
theorem k_s7 : Cond.selects "BeamSetter$Reader" (⟨"BeamSetter$Reader", "fail", "(II)Z"⟩ : MethodName) ⟨"BeamSetter$Reader", "fail", "(II)Z"⟩ ∈ TW := tw_in 7 (by decide +kernel) rfl
set_option maxRecDepth 20000 in
theorem k_s8 : Cond.selects "BeamSetter$Reader" (⟨"BeamSetter$Reader", "readMetre", "()Z"⟩ : MethodName) ⟨"BeamSetter$Reader", "readMetre", "()Z"⟩ ∈ TW := tw_in 8 (by decide +kernel) rfl
set_option maxRecDepth 20000 in
theorem k_s9 : Cond.selects "BeamSetter$Reader" (⟨"BeamSetter$Reader", "takeNumberWithin", "(II)Z"⟩ : MethodName) ⟨"BeamSetter$Reader", "takeNumberWithin", "(II)Z"⟩ ∈ TW := tw_in 9 (by decide +kernel) rfl
set_option maxRecDepth 20000 in
theorem k_s10 : Cond.selects "BeamSetter$Reader" (⟨"BeamSetter$Reader", "takeNumber", "()Z"⟩ : MethodName) ⟨"BeamSetter$Reader", "takeNumber", "()Z"⟩ ∈ TW := tw_in 10 (by decide +kernel) rfl
set_option maxRecDepth 20000 in
theorem k_s11 : Cond.selects "BeamSetter$Reader" (⟨"BeamSetter$Reader", "isDigitHere", "()Z"⟩ : MethodName) ⟨"BeamSetter$Reader", "isDigitHere", "()Z"⟩ ∈ TW := tw_in 11 (by decide +kernel) rfl
set_option maxRecDepth 20000 in
theorem k_s12 : Cond.selects "BeamSetter$Reader" (⟨"BeamSetter$Reader", "readSplit", "()Z"⟩ : MethodName) ⟨"BeamSetter$Reader", "readSplit", "()Z"⟩ ∈ TW := tw_in 12 (by decide +kernel) rfl
set_option maxRecDepth 20000 in
theorem k_s13 : Cond.selects "BeamSetter$Reader" (⟨"BeamSetter$Reader", "here", "()I"⟩ : MethodName) ⟨"BeamSetter$Reader", "here", "()I"⟩ ∈ TW := tw_in 13 (by decide +kernel) rfl
set_option maxRecDepth 20000 in
theorem k_s14 : Cond.selects "BeamSetter$Reader" (⟨"BeamSetter$Reader", "readKnee", "()Z"⟩ : MethodName) ⟨"BeamSetter$Reader", "readKnee", "()Z"⟩ ∈ TW := tw_in 14 (by decide +kernel) rfl
set_option maxRecDepth 20000 in
theorem k_s15 : Cond.selects "BeamSetter$Reader" (⟨"BeamSetter$Reader", "readWide", "()Z"⟩ : MethodName) ⟨"BeamSetter$Reader", "readWide", "()Z"⟩ ∈ TW := tw_in 15 (by decide +kernel) rfl
set_option maxRecDepth 20000 in
theorem k_s16 : Cond.selects "BeamSetter$Reader" (⟨"BeamSetter$Reader", "takeKind", "()Z"⟩ : MethodName) ⟨"BeamSetter$Reader", "takeKind", "()Z"⟩ ∈ TW := tw_in 16 (by decide +kernel) rfl
set_option maxRecDepth 20000 in
theorem k_s17 : Cond.selects "BeamSetter$Reader" (⟨"BeamSetter$Reader", "readElement", "(Z)Z"⟩ : MethodName) ⟨"BeamSetter$Reader", "readElement", "(Z)Z"⟩ ∈ TW := tw_in 17 (by decide +kernel) rfl
set_option maxRecDepth 20000 in
theorem k_s18 : Cond.selects "BeamSetter$Piece" (⟨"BeamSetter$Piece", "timeOfNext", "()I"⟩ : MethodName) ⟨"BeamSetter$Piece", "timeOfNext", "()I"⟩ ∈ TW := tw_in 18 (by decide +kernel) rfl
set_option maxRecDepth 20000 in
theorem k_s19 : Cond.selects "BeamSetter$Piece" (⟨"BeamSetter$Piece", "measureLong", "()I"⟩ : MethodName) ⟨"BeamSetter$Piece", "measureLong", "()I"⟩ ∈ TW := tw_in 19 (by decide +kernel) rfl
set_option maxRecDepth 20000 in
theorem k_s20 : Cond.selects "BeamSetter$Piece" (⟨"BeamSetter$Piece", "beatLong", "()I"⟩ : MethodName) ⟨"BeamSetter$Piece", "beatLong", "()I"⟩ ∈ TW := tw_in 20 (by decide +kernel) rfl
set_option maxRecDepth 20000 in
theorem k_s21 : Cond.selects "BeamSetter$Reader" (⟨"BeamSetter$Reader", "takePosition", "()Z"⟩ : MethodName) ⟨"BeamSetter$Reader", "takePosition", "()Z"⟩ ∈ TW := tw_in 21 (by decide +kernel) rfl
set_option maxRecDepth 20000 in
theorem k_s22 : Cond.selects "BeamSetter$Piece" (⟨"BeamSetter$Piece", "xOfNext", "()I"⟩ : MethodName) ⟨"BeamSetter$Piece", "xOfNext", "()I"⟩ ∈ TW := tw_in 22 (by decide +kernel) rfl
set_option maxRecDepth 20000 in
theorem k_s23 : Cond.selects "BeamSetter$Reader" (⟨"BeamSetter$Reader", "takeEnd", "()Z"⟩ : MethodName) ⟨"BeamSetter$Reader", "takeEnd", "()Z"⟩ ∈ TW := tw_in 23 (by decide +kernel) rfl
set_option maxRecDepth 20000 in
theorem k_s24 : Cond.selects "BeamSetter$Piece" (⟨"BeamSetter$Piece", "runFrom", "(II)I"⟩ : MethodName) ⟨"BeamSetter$Piece", "runFrom", "(II)I"⟩ ∈ TW := tw_in 24 (by decide +kernel) rfl
set_option maxRecDepth 20000 in
theorem k_s25 : Cond.selects "BeamSetter" (⟨"BeamSetter", "isNote", "(I)Z"⟩ : MethodName) ⟨"BeamSetter", "isNote", "(I)Z"⟩ ∈ TW := tw_in 25 (by decide +kernel) rfl
set_option maxRecDepth 20000 in
theorem k_s26 : Cond.selects "BeamSetter" (⟨"BeamSetter", "isElement", "(I)Z"⟩ : MethodName) ⟨"BeamSetter", "isElement", "(I)Z"⟩ ∈ TW := tw_in 26 (by decide +kernel) rfl
set_option maxRecDepth 20000 in
theorem k_s27 : Cond.selects "BeamSetter" (⟨"BeamSetter", "isGroup", "(I)Z"⟩ : MethodName) ⟨"BeamSetter", "isGroup", "(I)Z"⟩ ∈ TW := tw_in 27 (by decide +kernel) rfl
set_option maxRecDepth 20000 in
theorem k_s28 : Cond.selects "BeamSetter" (⟨"BeamSetter", "load", "(I)V"⟩ : MethodName) ⟨"BeamSetter", "load", "(I)V"⟩ ∈ TW := tw_in 28 (by decide +kernel) rfl
set_option maxRecDepth 20000 in
theorem k_s29 : Cond.selects "BeamSetter$Group" (⟨"BeamSetter$Group", "decideWays", "(I)V"⟩ : MethodName) ⟨"BeamSetter$Group", "decideWays", "(I)V"⟩ ∈ TW := tw_in 29 (by decide +kernel) rfl
set_option maxRecDepth 20000 in
theorem k_s30 : Cond.selects "BeamSetter$Group" (⟨"BeamSetter$Group", "lowerSideOfKnee", "(I)I"⟩ : MethodName) ⟨"BeamSetter$Group", "lowerSideOfKnee", "(I)I"⟩ ∈ TW := tw_in 30 (by decide +kernel) rfl
set_option maxRecDepth 20000 in
theorem k_s31 : Cond.selects "BeamSetter$Group" (⟨"BeamSetter$Group", "markTaken", "()V"⟩ : MethodName) ⟨"BeamSetter$Group", "markTaken", "()V"⟩ ∈ TW := tw_in 31 (by decide +kernel) rfl
set_option maxRecDepth 20000 in
theorem k_s32 : Cond.selects "BeamSetter$Group" (⟨"BeamSetter$Group", "commonWay", "()I"⟩ : MethodName) ⟨"BeamSetter$Group", "commonWay", "()I"⟩ ∈ TW := tw_in 32 (by decide +kernel) rfl
set_option maxRecDepth 20000 in
theorem k_s33 : Cond.selects "BeamSetter$Group" (⟨"BeamSetter$Group", "decideWant", "()V"⟩ : MethodName) ⟨"BeamSetter$Group", "decideWant", "()V"⟩ ∈ TW := tw_in 33 (by decide +kernel) rfl
set_option maxRecDepth 20000 in
theorem k_s34 : Cond.selects "BeamSetter" (⟨"BeamSetter", "tellBest", "(I)I"⟩ : MethodName) ⟨"BeamSetter", "tellBest", "(I)I"⟩ ∈ TW := tw_in 34 (by decide +kernel) rfl
set_option maxRecDepth 20000 in
theorem k_s35 : Cond.selects "BeamSetter$Group" (⟨"BeamSetter$Group", "bestSloping", "(IJ)J"⟩ : MethodName) ⟨"BeamSetter$Group", "bestSloping", "(IJ)J"⟩ ∈ TW := tw_in 35 (by decide +kernel) rfl
set_option maxRecDepth 20000 in
theorem k_s36 : Cond.selects "BeamSetter$Group" (⟨"BeamSetter$Group", "tilt", "(I)V"⟩ : MethodName) ⟨"BeamSetter$Group", "tilt", "(I)V"⟩ ∈ TW := tw_in 36 (by decide +kernel) rfl
set_option maxRecDepth 20000 in
theorem k_s37 : Cond.selects "BeamSetter$Group" (⟨"BeamSetter$Group", "slopeOf", "(I)I"⟩ : MethodName) ⟨"BeamSetter$Group", "slopeOf", "(I)I"⟩ ∈ TW := tw_in 37 (by decide +kernel) rfl
set_option maxRecDepth 20000 in
theorem k_s38 : Cond.selects "BeamSetter$Group" (⟨"BeamSetter$Group", "stemsAt", "(I)I"⟩ : MethodName) ⟨"BeamSetter$Group", "stemsAt", "(I)I"⟩ ∈ TW := tw_in 38 (by decide +kernel) rfl
set_option maxRecDepth 20000 in
theorem k_s39 : Cond.selects "BeamSetter$Group" (⟨"BeamSetter$Group", "staffAt", "(II)I"⟩ : MethodName) ⟨"BeamSetter$Group", "staffAt", "(II)I"⟩ ∈ TW := tw_in 39 (by decide +kernel) rfl
set_option maxRecDepth 20000 in
theorem k_s40 : Cond.selects "BeamSetter$Group" (⟨"BeamSetter$Group", "staffAtEnd", "(III)I"⟩ : MethodName) ⟨"BeamSetter$Group", "staffAtEnd", "(III)I"⟩ ∈ TW := tw_in 40 (by decide +kernel) rfl
set_option maxRecDepth 20000 in
theorem k_s41 : Cond.selects "BeamSetter$Group" (⟨"BeamSetter$Group", "keyAt", "(III)J"⟩ : MethodName) ⟨"BeamSetter$Group", "keyAt", "(III)J"⟩ ∈ TW := tw_in 41 (by decide +kernel) rfl
set_option maxRecDepth 20000 in
theorem k_s42 : Cond.selects "BeamSetter$Group" (⟨"BeamSetter$Group", "heightIn", "(J)I"⟩ : MethodName) ⟨"BeamSetter$Group", "heightIn", "(J)I"⟩ ∈ TW := tw_in 42 (by decide +kernel) rfl
set_option maxRecDepth 20000 in
theorem k_s43 : Cond.selects "BeamSetter" (⟨"BeamSetter", "isGrouped", "(I)Z"⟩ : MethodName) ⟨"BeamSetter", "isGrouped", "(I)Z"⟩ ∈ TW := tw_in 43 (by decide +kernel) rfl
set_option maxRecDepth 20000 in
theorem k_s44 : Cond.selects "BeamSetter" (⟨"BeamSetter", "tryShifted", "(I)Z"⟩ : MethodName) ⟨"BeamSetter", "tryShifted", "(I)Z"⟩ ∈ TW := tw_in 44 (by decide +kernel) rfl
set_option maxRecDepth 20000 in
theorem k_s45 : Cond.selects "BeamSetter" (⟨"BeamSetter", "loadTried", "(I)V"⟩ : MethodName) ⟨"BeamSetter", "loadTried", "(I)V"⟩ ∈ TW := tw_in 45 (by decide +kernel) rfl
set_option maxRecDepth 20000 in
theorem k_s46 : Cond.selects "BeamSetter" (⟨"BeamSetter", "loadAround", "(I)I"⟩ : MethodName) ⟨"BeamSetter", "loadAround", "(I)I"⟩ ∈ TW := tw_in 46 (by decide +kernel) rfl
set_option maxRecDepth 20000 in
theorem k_48 : (Cond.initialized "BeamSetterLaw") ∈ TW := tw_in 48 (by decide +kernel) rfl
set_option maxRecDepth 20000 in
theorem k_49 : (Cond.initialized "BeamSetter") ∈ TW := tw_in 49 (by decide +kernel) rfl
set_option maxRecDepth 20000 in
theorem k_50 : (Cond.initialized "BeamSetter$Tape") ∈ TW := tw_in 50 (by decide +kernel) rfl
set_option maxRecDepth 20000 in
theorem k_51 : (Cond.initialized "BeamSetter$History") ∈ TW := tw_in 51 (by decide +kernel) rfl
set_option maxRecDepth 20000 in
theorem k_52 : (Cond.initialized "BeamSetter$Group") ∈ TW := tw_in 52 (by decide +kernel) rfl
set_option maxRecDepth 20000 in
theorem k_53 : (Cond.initialized "BeamSetter$Totals") ∈ TW := tw_in 53 (by decide +kernel) rfl
set_option maxRecDepth 20000 in
theorem k_55 : (Cond.initialized "BeamSetter$Piece") ∈ TW := tw_in 55 (by decide +kernel) rfl
set_option maxRecDepth 20000 in
theorem k_56 : (Cond.initialized "java/lang/Math") ∈ TW := tw_in 56 (by decide +kernel) rfl
set_option maxRecDepth 20000 in
theorem k_57 : (Cond.initialized "BeamSetter$Reader") ∈ TW := tw_in 57 (by decide +kernel) rfl
set_option maxRecDepth 20000 in
theorem k_68 : (Cond.initialized "java/lang/Integer") ∈ TW := tw_in 68 (by decide +kernel) rfl
set_option maxRecDepth 20000 in
theorem k_88 : (Cond.fieldLink "BeamSetter$Tape" (9 : Nat) "BeamSetter$Tape" "bytes" "[I") ∈ TW := tw_in 88 (by decide +kernel) rfl
set_option maxRecDepth 20000 in
theorem k_90 : (Cond.fieldLink "BeamSetter$Tape" (13 : Nat) "BeamSetter$Tape" "size" "I") ∈ TW := tw_in 90 (by decide +kernel) rfl
set_option maxRecDepth 20000 in
theorem k_91 : (Cond.fieldLink "BeamSetter" (78 : Nat) "BeamSetter$Tape" "size" "I") ∈ TW := tw_in 91 (by decide +kernel) rfl
set_option maxRecDepth 20000 in
theorem k_97 : (Cond.arrayClass FieldType.int) ∈ TW := tw_in 97 (by decide +kernel) rfl
set_option maxRecDepth 20000 in
theorem k_104 : (Cond.fieldLink "BeamSetter$History" (11 : Nat) "BeamSetter$History" "who" "[I") ∈ TW := tw_in 104 (by decide +kernel) rfl
set_option maxRecDepth 20000 in
theorem k_105 : (Cond.fieldLink "BeamSetter$History" (15 : Nat) "BeamSetter$History" "where" "[I") ∈ TW := tw_in 105 (by decide +kernel) rfl
set_option maxRecDepth 20000 in
theorem k_106 : (Cond.fieldLink "BeamSetter$History" (18 : Nat) "BeamSetter$History" "size" "I") ∈ TW := tw_in 106 (by decide +kernel) rfl
set_option maxRecDepth 20000 in
theorem k_107 : (Cond.fieldLink "BeamSetter" (86 : Nat) "BeamSetter$History" "size" "I") ∈ TW := tw_in 107 (by decide +kernel) rfl
set_option maxRecDepth 20000 in
theorem k_121 : (Cond.fieldLink "BeamSetter$Group" (53 : Nat) "BeamSetter$Group" "size" "I") ∈ TW := tw_in 121 (by decide +kernel) rfl
set_option maxRecDepth 20000 in
theorem k_122 : (Cond.fieldLink "BeamSetter" (182 : Nat) "BeamSetter$Group" "size" "I") ∈ TW := tw_in 122 (by decide +kernel) rfl
set_option maxRecDepth 20000 in
theorem k_123 : (Cond.fieldLink "BeamSetter$Group" (62 : Nat) "BeamSetter$Group" "last" "I") ∈ TW := tw_in 123 (by decide +kernel) rfl
set_option maxRecDepth 20000 in
theorem k_124 : (Cond.fieldLink "BeamSetter$Group" (65 : Nat) "BeamSetter$Group" "span" "I") ∈ TW := tw_in 124 (by decide +kernel) rfl
set_option maxRecDepth 20000 in
theorem k_125 : (Cond.fieldLink "BeamSetter" (187 : Nat) "BeamSetter$Group" "span" "I") ∈ TW := tw_in 125 (by decide +kernel) rfl
set_option maxRecDepth 20000 in
theorem k_126 : (Cond.fieldLink "BeamSetter$Group" (101 : Nat) "BeamSetter$Group" "wanted" "I") ∈ TW := tw_in 126 (by decide +kernel) rfl
set_option maxRecDepth 20000 in
theorem k_127 : (Cond.fieldLink "BeamSetter$Group" (83 : Nat) "BeamSetter$Group" "kneed" "Z") ∈ TW := tw_in 127 (by decide +kernel) rfl
set_option maxRecDepth 20000 in
theorem k_128 : (Cond.fieldLink "BeamSetter$Totals" (42 : Nat) "BeamSetter$Group" "kneed" "Z") ∈ TW := tw_in 128 (by decide +kernel) rfl
set_option maxRecDepth 20000 in
theorem k_129 : (Cond.fieldLink "BeamSetter" (183 : Nat) "BeamSetter$Group" "kneed" "Z") ∈ TW := tw_in 129 (by decide +kernel) rfl
set_option maxRecDepth 20000 in
theorem k_130 : (Cond.fieldLink "BeamSetter$Group" (13 : Nat) "BeamSetter$Group" "xs" "[I") ∈ TW := tw_in 130 (by decide +kernel) rfl
set_option maxRecDepth 20000 in
theorem k_131 : (Cond.fieldLink "BeamSetter$Group" (17 : Nat) "BeamSetter$Group" "heads" "[I") ∈ TW := tw_in 131 (by decide +kernel) rfl
set_option maxRecDepth 20000 in
theorem k_132 : (Cond.fieldLink "BeamSetter$Group" (20 : Nat) "BeamSetter$Group" "beams" "[I") ∈ TW := tw_in 132 (by decide +kernel) rfl
set_option maxRecDepth 20000 in
theorem k_133 : (Cond.fieldLink "BeamSetter$Group" (23 : Nat) "BeamSetter$Group" "ways" "[I") ∈ TW := tw_in 133 (by decide +kernel) rfl
set_option maxRecDepth 20000 in
theorem k_134 : (Cond.fieldLink "BeamSetter" (148 : Nat) "BeamSetter$Group" "ways" "[I") ∈ TW := tw_in 134 (by decide +kernel) rfl
set_option maxRecDepth 20000 in
theorem k_135 : (Cond.fieldLink "BeamSetter$Group" (26 : Nat) "BeamSetter$Group" "ideals" "[I") ∈ TW := tw_in 135 (by decide +kernel) rfl
set_option maxRecDepth 20000 in
theorem k_136 : (Cond.fieldLink "BeamSetter$Group" (29 : Nat) "BeamSetter$Group" "keys" "[J") ∈ TW := tw_in 136 (by decide +kernel) rfl
set_option maxRecDepth 20000 in
theorem k_137 : (Cond.fieldLink "BeamSetter" (222 : Nat) "BeamSetter$Group" "keys" "[J") ∈ TW := tw_in 137 (by decide +kernel) rfl
set_option maxRecDepth 20000 in
theorem k_138 : (Cond.fieldLink "BeamSetter$Group" (54 : Nat) "BeamSetter$Group" "keyCount" "I") ∈ TW := tw_in 138 (by decide +kernel) rfl
set_option maxRecDepth 20000 in
theorem k_139 : (Cond.fieldLink "BeamSetter$Group" (33 : Nat) "BeamSetter$Group" "taken" "[Z") ∈ TW := tw_in 139 (by decide +kernel) rfl
set_option maxRecDepth 20000 in
theorem k_140 : (Cond.fieldLink "BeamSetter$Group" (37 : Nat) "BeamSetter$Group" "bases" "[I") ∈ TW := tw_in 140 (by decide +kernel) rfl
set_option maxRecDepth 20000 in
theorem k_141 : (Cond.fieldLink "BeamSetter$Group" (110 : Nat) "BeamSetter$Group" "baseSum" "I") ∈ TW := tw_in 141 (by decide +kernel) rfl
set_option maxRecDepth 20000 in
theorem k_142 : (Cond.fieldLink "BeamSetter$Group" (91 : Nat) "BeamSetter$Group" "waySum" "I") ∈ TW := tw_in 142 (by decide +kernel) rfl
set_option maxRecDepth 20000 in
theorem k_143 : (Cond.fieldLink "BeamSetter$Group" (104 : Nat) "BeamSetter$Group" "low" "I") ∈ TW := tw_in 143 (by decide +kernel) rfl
set_option maxRecDepth 20000 in
theorem k_144 : (Cond.fieldLink "BeamSetter$Group" (107 : Nat) "BeamSetter$Group" "high" "I") ∈ TW := tw_in 144 (by decide +kernel) rfl
set_option maxRecDepth 20000 in
theorem k_182 : (Cond.arrayClass FieldType.long) ∈ TW := tw_in 182 (by decide +kernel) rfl
set_option maxRecDepth 20000 in
theorem k_190 : (Cond.fieldLink "BeamSetter$Totals" (9 : Nat) "BeamSetter$Totals" "ugliness" "I") ∈ TW := tw_in 190 (by decide +kernel) rfl
set_option maxRecDepth 20000 in
theorem k_191 : (Cond.fieldLink "BeamSetter$Totals" (15 : Nat) "BeamSetter$Totals" "aside" "I") ∈ TW := tw_in 191 (by decide +kernel) rfl
set_option maxRecDepth 20000 in
theorem k_192 : (Cond.fieldLink "BeamSetter$Totals" (18 : Nat) "BeamSetter$Totals" "worst" "I") ∈ TW := tw_in 192 (by decide +kernel) rfl
set_option maxRecDepth 20000 in
theorem k_193 : (Cond.fieldLink "BeamSetter$Totals" (21 : Nat) "BeamSetter$Totals" "kneed" "I") ∈ TW := tw_in 193 (by decide +kernel) rfl
set_option maxRecDepth 20000 in
theorem k_225 : (Cond.instanceMethod ({ cls := "BeamSetter$Piece", name := "clear", desc := "()V" } : MethodName)) ∈ TW := tw_in 225 (by decide +kernel) rfl
set_option maxRecDepth 20000 in
theorem k_226 : (Cond.selects "BeamSetter$Piece" ({ cls := "BeamSetter$Piece", name := "clear", desc := "()V" } : MethodName) ({ cls := "BeamSetter$Piece", name := "clear", desc := "()V" } : MethodName)) ∈ TW := tw_in 226 (by decide +kernel) rfl
set_option maxRecDepth 20000 in
theorem k_227 : (Cond.code ({ cls := "BeamSetter$Piece", name := "clear", desc := "()V" } : MethodName) prog_4_method_2_code (1 : Nat) (none : Option FieldType)) ∈ TW := tw_in 227 (by decide +kernel) rfl
set_option maxRecDepth 20000 in
theorem k_228 : (Cond.methodLink "BeamSetter$Piece" (59 : Nat) ({ cls := "BeamSetter$Piece", name := "setMetre", desc := "(II)V" } : MethodName)) ∈ TW := tw_in 228 (by decide +kernel) rfl
set_option maxRecDepth 20000 in
theorem k_229 : (Cond.instanceMethod ({ cls := "BeamSetter$Piece", name := "setMetre", desc := "(II)V" } : MethodName)) ∈ TW := tw_in 229 (by decide +kernel) rfl
set_option maxRecDepth 20000 in
theorem k_230 : (Cond.selects "BeamSetter$Piece" ({ cls := "BeamSetter$Piece", name := "setMetre", desc := "(II)V" } : MethodName) ({ cls := "BeamSetter$Piece", name := "setMetre", desc := "(II)V" } : MethodName)) ∈ TW := tw_in 230 (by decide +kernel) rfl
set_option maxRecDepth 20000 in
theorem k_231 : (Cond.code ({ cls := "BeamSetter$Piece", name := "setMetre", desc := "(II)V" } : MethodName) prog_4_method_3_code (5 : Nat) (none : Option FieldType)) ∈ TW := tw_in 231 (by decide +kernel) rfl
set_option maxRecDepth 20000 in
theorem k_232 : (Cond.methodLink "BeamSetter$Piece" (63 : Nat) ({ cls := "java/lang/Math", name := "min", desc := "(II)I" } : MethodName)) ∈ TW := tw_in 232 (by decide +kernel) rfl
set_option maxRecDepth 20000 in
theorem k_233 : (Cond.static ({ cls := "java/lang/Math", name := "min", desc := "(II)I" } : MethodName)) ∈ TW := tw_in 233 (by decide +kernel) rfl
set_option maxRecDepth 20000 in
theorem k_234 : (Cond.code ({ cls := "java/lang/Math", name := "min", desc := "(II)I" } : MethodName) prog_20_method_69_code (2 : Nat) (some FieldType.int)) ∈ TW := tw_in 234 (by decide +kernel) rfl
set_option maxRecDepth 20000 in
theorem k_235 : (Cond.fieldLink "BeamSetter$Piece" (46 : Nat) "BeamSetter$Piece" "lines" "I") ∈ TW := tw_in 235 (by decide +kernel) rfl
set_option maxRecDepth 20000 in
theorem k_236 : (Cond.fieldLink "BeamSetter$Reader" (60 : Nat) "BeamSetter$Piece" "lines" "I") ∈ TW := tw_in 236 (by decide +kernel) rfl
set_option maxRecDepth 20000 in
theorem k_237 : (Cond.fieldLink "BeamSetter" (87 : Nat) "BeamSetter$Piece" "lines" "I") ∈ TW := tw_in 237 (by decide +kernel) rfl
set_option maxRecDepth 20000 in
theorem k_238 : (Cond.fieldLink "BeamSetter$Piece" (69 : Nat) "BeamSetter$Piece" "beats" "I") ∈ TW := tw_in 238 (by decide +kernel) rfl
set_option maxRecDepth 20000 in
theorem k_239 : (Cond.fieldLink "BeamSetter$Reader" (153 : Nat) "BeamSetter$Piece" "beats" "I") ∈ TW := tw_in 239 (by decide +kernel) rfl
set_option maxRecDepth 20000 in
theorem k_240 : (Cond.fieldLink "BeamSetter" (370 : Nat) "BeamSetter$Piece" "beats" "I") ∈ TW := tw_in 240 (by decide +kernel) rfl
set_option maxRecDepth 20000 in
theorem k_241 : (Cond.fieldLink "BeamSetter$Piece" (72 : Nat) "BeamSetter$Piece" "unit" "I") ∈ TW := tw_in 241 (by decide +kernel) rfl
set_option maxRecDepth 20000 in
theorem k_242 : (Cond.fieldLink "BeamSetter" (373 : Nat) "BeamSetter$Piece" "unit" "I") ∈ TW := tw_in 242 (by decide +kernel) rfl
set_option maxRecDepth 20000 in
theorem k_243 : (Cond.fieldLink "BeamSetter$Piece" (56 : Nat) "BeamSetter$Piece" "knee" "I") ∈ TW := tw_in 243 (by decide +kernel) rfl
set_option maxRecDepth 20000 in
theorem k_244 : (Cond.fieldLink "BeamSetter$Reader" (162 : Nat) "BeamSetter$Piece" "knee" "I") ∈ TW := tw_in 244 (by decide +kernel) rfl
set_option maxRecDepth 20000 in
theorem k_245 : (Cond.fieldLink "BeamSetter" (294 : Nat) "BeamSetter$Piece" "knee" "I") ∈ TW := tw_in 245 (by decide +kernel) rfl
set_option maxRecDepth 20000 in
theorem k_246 : (Cond.fieldLink "BeamSetter$Piece" (75 : Nat) "BeamSetter$Piece" "partCount" "I") ∈ TW := tw_in 246 (by decide +kernel) rfl
set_option maxRecDepth 20000 in
theorem k_247 : (Cond.fieldLink "BeamSetter$Reader" (159 : Nat) "BeamSetter$Piece" "partCount" "I") ∈ TW := tw_in 247 (by decide +kernel) rfl
set_option maxRecDepth 20000 in
theorem k_248 : (Cond.fieldLink "BeamSetter" (376 : Nat) "BeamSetter$Piece" "partCount" "I") ∈ TW := tw_in 248 (by decide +kernel) rfl
set_option maxRecDepth 20000 in
theorem k_249 : (Cond.fieldLink "BeamSetter$Piece" (9 : Nat) "BeamSetter$Piece" "parts" "[I") ∈ TW := tw_in 249 (by decide +kernel) rfl
set_option maxRecDepth 20000 in
theorem k_250 : (Cond.fieldLink "BeamSetter$Reader" (156 : Nat) "BeamSetter$Piece" "parts" "[I") ∈ TW := tw_in 250 (by decide +kernel) rfl
set_option maxRecDepth 20000 in
theorem k_251 : (Cond.fieldLink "BeamSetter$Piece" (15 : Nat) "BeamSetter$Piece" "widths" "[I") ∈ TW := tw_in 251 (by decide +kernel) rfl
set_option maxRecDepth 20000 in
theorem k_252 : (Cond.fieldLink "BeamSetter$Reader" (171 : Nat) "BeamSetter$Piece" "widths" "[I") ∈ TW := tw_in 252 (by decide +kernel) rfl
set_option maxRecDepth 20000 in
theorem k_253 : (Cond.fieldLink "BeamSetter" (379 : Nat) "BeamSetter$Piece" "widths" "[I") ∈ TW := tw_in 253 (by decide +kernel) rfl
set_option maxRecDepth 20000 in
theorem k_254 : (Cond.fieldLink "BeamSetter$Piece" (50 : Nat) "BeamSetter$Piece" "size" "I") ∈ TW := tw_in 254 (by decide +kernel) rfl
set_option maxRecDepth 20000 in
theorem k_255 : (Cond.fieldLink "BeamSetter$Group" (40 : Nat) "BeamSetter$Piece" "size" "I") ∈ TW := tw_in 255 (by decide +kernel) rfl
set_option maxRecDepth 20000 in
theorem k_256 : (Cond.fieldLink "BeamSetter$Reader" (78 : Nat) "BeamSetter$Piece" "size" "I") ∈ TW := tw_in 256 (by decide +kernel) rfl
set_option maxRecDepth 20000 in
theorem k_257 : (Cond.fieldLink "BeamSetter" (322 : Nat) "BeamSetter$Piece" "size" "I") ∈ TW := tw_in 257 (by decide +kernel) rfl
set_option maxRecDepth 20000 in
theorem k_258 : (Cond.fieldLink "BeamSetter$Piece" (18 : Nat) "BeamSetter$Piece" "kinds" "[I") ∈ TW := tw_in 258 (by decide +kernel) rfl
set_option maxRecDepth 20000 in
theorem k_259 : (Cond.fieldLink "BeamSetter$Piece" (21 : Nat) "BeamSetter$Piece" "sounds" "[Z") ∈ TW := tw_in 259 (by decide +kernel) rfl
set_option maxRecDepth 20000 in
theorem k_260 : (Cond.fieldLink "BeamSetter" (109 : Nat) "BeamSetter$Piece" "sounds" "[Z") ∈ TW := tw_in 260 (by decide +kernel) rfl
