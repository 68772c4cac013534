set_option maxRecDepth 20000 in
theorem k_s0 : Cond.selects "BeamSetter$Reader" (⟨"BeamSetter$Reader", "forgetTold", "()V"⟩ : MethodName) ⟨"BeamSetter$Reader", "forgetTold", "()V"⟩ ∈ TW := tw_in 0 (by decide +kernel) rfl
set_option maxRecDepth 20000 in
theorem k_s1 : Cond.selects "BeamSetter$Reader" (⟨"BeamSetter$Reader", "skipBlanks", "()V"⟩ : MethodName) ⟨"BeamSetter$Reader", "skipBlanks", "()V"⟩ ∈ TW := tw_in 1 (by decide +kernel) rfl
set_option maxRecDepth 20000 in
theorem k_s2 : Cond.selects "BeamSetter$Reader" (⟨"BeamSetter$Reader", "readLine", "()Z"⟩ : MethodName) ⟨"BeamSetter$Reader", "readLine", "()Z"⟩ ∈ TW := tw_in 2 (by decide +kernel) rfl
set_option maxRecDepth 20000 in
theorem k_s3 : Cond.selects "BeamSetter$Reader" (⟨"BeamSetter$Reader", "takeWord", "()I"⟩ : MethodName) ⟨"BeamSetter$Reader", "takeWord", "()I"⟩ ∈ TW := tw_in 3 (by decide +kernel) rfl
set_option maxRecDepth 20000 in
theorem k_s4 : Cond.selects "BeamSetter$Reader" (⟨"BeamSetter$Reader", "isLetterHere", "()Z"⟩ : MethodName) ⟨"BeamSetter$Reader", "isLetterHere", "()Z"⟩ ∈ TW := tw_in 4 (by decide +kernel) rfl
set_option maxRecDepth 20000 in
theorem k_s5 : Cond.selects "BeamSetter$Reader" (⟨"BeamSetter$Reader", "spells", "(ILjava/lang/String;)Z"⟩ : MethodName) ⟨"BeamSetter$Reader", "spells", "(ILjava/lang/String;)Z"⟩ ∈ TW := tw_in 5 (by decide +kernel) rfl
set_option maxRecDepth 20000 in
theorem k_s6 : Cond.selects "BeamSetter$Reader" (⟨"BeamSetter$Reader", "isTooLate", "(I)Z"⟩ : MethodName) ⟨"BeamSetter$Reader", "isTooLate", "(I)Z"⟩ ∈ TW := tw_in 6 (by decide +kernel) rfl
set_option maxRecDepth 20000 in
theorem k_s7 : Cond.selects "BeamSetter$Reader" (⟨"BeamSetter$Reader", "fail", "(II)Z"⟩ : MethodName) ⟨"BeamSetter$Reader", "fail", "(II)Z"⟩ ∈ TW := tw_in 7 (by decide +kernel) rfl
set_option maxRecDepth 20000 in
theorem k_s8 : Cond.selects "BeamSetter$Reader" (⟨"BeamSetter$Reader", "readMetre", "()Z"⟩ : MethodName) ⟨"BeamSetter$Reader", "readMetre", "()Z"⟩ ∈ TW := tw_in 8 (by decide +kernel) rfl
set_option maxRecDepth 20000 in
theorem k_s9 : Cond.selects "BeamSetter$Reader" (⟨"BeamSetter$Reader", "takeNumberWithin", "(II)Z"⟩ : MethodName) ⟨"BeamSetter$Reader", "takeNumberWithin", "(II)Z"⟩ ∈ TW := tw_in 9 (by decide +kernel) rfl
set_option maxRecDepth 20000 in
theorem k_s10 : Cond.selects "BeamSetter$Reader" (⟨"BeamSetter$Reader", "takeNumber", "()Z"⟩ : MethodName) ⟨"BeamSetter$Reader", "takeNumber", "()Z"⟩ ∈ TW := tw_in 10 (by decide +kernel) rfl
set_option maxRecDepth 20000 in
theorem k_s11 : Cond.selects "BeamSetter$Reader" (⟨"BeamSetter$Reader", "isDigitHere", "()Z"⟩ : MethodName) ⟨"BeamSetter$Reader", "isDigitHere", "()Z"⟩ ∈ TW := tw_in 11 (by decide +kernel) rfl
set_option maxRecDepth 20000 in
theorem k_s12 : Cond.selects "BeamSetter$Reader" (⟨"BeamSetter$Reader", "readSplit", "()Z"⟩ : MethodName) ⟨"BeamSetter$Reader", "readSplit", "()Z"⟩ ∈ TW := tw_in 12 (by decide +kernel) rfl
set_option maxRecDepth 20000 in
theorem k_s13 : Cond.selects "BeamSetter$Reader" (⟨"BeamSetter$Reader", "here", "()I"⟩ : MethodName) ⟨"BeamSetter$Reader", "here", "()I"⟩ ∈ TW := tw_in 13 (by decide +kernel) rfl
set_option maxRecDepth 20000 in
theorem k_s14 : Cond.selects "BeamSetter$Reader" (⟨"BeamSetter$Reader", "readKnee", "()Z"⟩ : MethodName) ⟨"BeamSetter$Reader", "readKnee", "()Z"⟩ ∈ TW := tw_in 14 (by decide +kernel) rfl
set_option maxRecDepth 20000 in
theorem k_s15 : Cond.selects "BeamSetter$Reader" (⟨"BeamSetter$Reader", "readWide", "()Z"⟩ : MethodName) ⟨"BeamSetter$Reader", "readWide", "()Z"⟩ ∈ TW := tw_in 15 (by decide +kernel) rfl
set_option maxRecDepth 20000 in
theorem k_s16 : Cond.selects "BeamSetter$Reader" (⟨"BeamSetter$Reader", "takeKind", "()Z"⟩ : MethodName) ⟨"BeamSetter$Reader", "takeKind", "()Z"⟩ ∈ TW := tw_in 16 (by decide +kernel) rfl
set_option maxRecDepth 20000 in
theorem k_s17 : Cond.selects "BeamSetter$Reader" (⟨"BeamSetter$Reader", "readElement", "(Z)Z"⟩ : MethodName) ⟨"BeamSetter$Reader", "readElement", "(Z)Z"⟩ ∈ TW := tw_in 17 (by decide +kernel) rfl
set_option maxRecDepth 20000 in
theorem k_s18 : Cond.selects "BeamSetter$Piece" (⟨"BeamSetter$Piece", "timeOfNext", "()I"⟩ : MethodName) ⟨"BeamSetter$Piece", "timeOfNext", "()I"⟩ ∈ TW := tw_in 18 (by decide +kernel) rfl
set_option maxRecDepth 20000 in
theorem k_s19 : Cond.selects "BeamSetter$Piece" (⟨"BeamSetter$Piece", "measureLong", "()I"⟩ : MethodName) ⟨"BeamSetter$Piece", "measureLong", "()I"⟩ ∈ TW := tw_in 19 (by decide +kernel) rfl
set_option maxRecDepth 20000 in
theorem k_s20 : Cond.selects "BeamSetter$Piece" (⟨"BeamSetter$Piece", "beatLong", "()I"⟩ : MethodName) ⟨"BeamSetter$Piece", "beatLong", "()I"⟩ ∈ TW := tw_in 20 (by decide +kernel) rfl
set_option maxRecDepth 20000 in
theorem k_s21 : Cond.selects "BeamSetter$Reader" (⟨"BeamSetter$Reader", "takePosition", "()Z"⟩ : MethodName) ⟨"BeamSetter$Reader", "takePosition", "()Z"⟩ ∈ TW := tw_in 21 (by decide +kernel) rfl
set_option maxRecDepth 20000 in
theorem k_s22 : Cond.selects "BeamSetter$Piece" (⟨"BeamSetter$Piece", "xOfNext", "()I"⟩ : MethodName) ⟨"BeamSetter$Piece", "xOfNext", "()I"⟩ ∈ TW := tw_in 22 (by decide +kernel) rfl
set_option maxRecDepth 20000 in
theorem k_s23 : Cond.selects "BeamSetter$Reader" (⟨"BeamSetter$Reader", "takeEnd", "()Z"⟩ : MethodName) ⟨"BeamSetter$Reader", "takeEnd", "()Z"⟩ ∈ TW := tw_in 23 (by decide +kernel) rfl
set_option maxRecDepth 20000 in
theorem k_s24 : Cond.selects "BeamSetter$Piece" (⟨"BeamSetter$Piece", "runFrom", "(II)I"⟩ : MethodName) ⟨"BeamSetter$Piece", "runFrom", "(II)I"⟩ ∈ TW := tw_in 24 (by decide +kernel) rfl
set_option maxRecDepth 20000 in
theorem k_s25 : Cond.selects "BeamSetter" (⟨"BeamSetter", "isNote", "(I)Z"⟩ : MethodName) ⟨"BeamSetter", "isNote", "(I)Z"⟩ ∈ TW := tw_in 25 (by decide +kernel) rfl
set_option maxRecDepth 20000 in
theorem k_s26 : Cond.selects "BeamSetter" (⟨"BeamSetter", "isElement", "(I)Z"⟩ : MethodName) ⟨"BeamSetter", "isElement", "(I)Z"⟩ ∈ TW := tw_in 26 (by decide +kernel) rfl
set_option maxRecDepth 20000 in
theorem k_s27 : Cond.selects "BeamSetter" (⟨"BeamSetter", "isGrouped", "(I)Z"⟩ : MethodName) ⟨"BeamSetter", "isGrouped", "(I)Z"⟩ ∈ TW := tw_in 27 (by decide +kernel) rfl
set_option maxRecDepth 20000 in
theorem k_s28 : Cond.selects "BeamSetter" (⟨"BeamSetter", "loadAround", "(I)I"⟩ : MethodName) ⟨"BeamSetter", "loadAround", "(I)I"⟩ ∈ TW := tw_in 28 (by decide +kernel) rfl
set_option maxRecDepth 20000 in
theorem k_s29 : Cond.selects "BeamSetter" (⟨"BeamSetter", "load", "(I)V"⟩ : MethodName) ⟨"BeamSetter", "load", "(I)V"⟩ ∈ TW := tw_in 29 (by decide +kernel) rfl
set_option maxRecDepth 20000 in
theorem k_s30 : Cond.selects "BeamSetter$Group" (⟨"BeamSetter$Group", "decideWays", "(I)V"⟩ : MethodName) ⟨"BeamSetter$Group", "decideWays", "(I)V"⟩ ∈ TW := tw_in 30 (by decide +kernel) rfl
set_option maxRecDepth 20000 in
theorem k_s31 : Cond.selects "BeamSetter$Group" (⟨"BeamSetter$Group", "lowerSideOfKnee", "(I)I"⟩ : MethodName) ⟨"BeamSetter$Group", "lowerSideOfKnee", "(I)I"⟩ ∈ TW := tw_in 31 (by decide +kernel) rfl
set_option maxRecDepth 20000 in
theorem k_s32 : Cond.selects "BeamSetter$Group" (⟨"BeamSetter$Group", "markTaken", "()V"⟩ : MethodName) ⟨"BeamSetter$Group", "markTaken", "()V"⟩ ∈ TW := tw_in 32 (by decide +kernel) rfl
set_option maxRecDepth 20000 in
theorem k_s33 : Cond.selects "BeamSetter$Group" (⟨"BeamSetter$Group", "commonWay", "()I"⟩ : MethodName) ⟨"BeamSetter$Group", "commonWay", "()I"⟩ ∈ TW := tw_in 33 (by decide +kernel) rfl
set_option maxRecDepth 20000 in
theorem k_s34 : Cond.selects "BeamSetter$Group" (⟨"BeamSetter$Group", "decideWant", "()V"⟩ : MethodName) ⟨"BeamSetter$Group", "decideWant", "()V"⟩ ∈ TW := tw_in 34 (by decide +kernel) rfl
set_option maxRecDepth 20000 in
theorem k_s35 : Cond.selects "BeamSetter" (⟨"BeamSetter", "isGroup", "(I)Z"⟩ : MethodName) ⟨"BeamSetter", "isGroup", "(I)Z"⟩ ∈ TW := tw_in 35 (by decide +kernel) rfl
set_option maxRecDepth 20000 in
theorem k_s36 : Cond.selects "BeamSetter$Group" (⟨"BeamSetter$Group", "tilt", "(I)V"⟩ : MethodName) ⟨"BeamSetter$Group", "tilt", "(I)V"⟩ ∈ TW := tw_in 36 (by decide +kernel) rfl
set_option maxRecDepth 20000 in
theorem k_s37 : Cond.selects "BeamSetter$Group" (⟨"BeamSetter$Group", "stemsAt", "(I)I"⟩ : MethodName) ⟨"BeamSetter$Group", "stemsAt", "(I)I"⟩ ∈ TW := tw_in 37 (by decide +kernel) rfl
set_option maxRecDepth 20000 in
theorem k_s38 : Cond.selects "BeamSetter$Group" (⟨"BeamSetter$Group", "slopeOf", "(I)I"⟩ : MethodName) ⟨"BeamSetter$Group", "slopeOf", "(I)I"⟩ ∈ TW := tw_in 38 (by decide +kernel) rfl
set_option maxRecDepth 20000 in
theorem k_s39 : Cond.selects "BeamSetter$Group" (⟨"BeamSetter$Group", "staffAt", "(II)I"⟩ : MethodName) ⟨"BeamSetter$Group", "staffAt", "(II)I"⟩ ∈ TW := tw_in 39 (by decide +kernel) rfl
set_option maxRecDepth 20000 in
theorem k_s40 : Cond.selects "BeamSetter$Group" (⟨"BeamSetter$Group", "staffAtEnd", "(III)I"⟩ : MethodName) ⟨"BeamSetter$Group", "staffAtEnd", "(III)I"⟩ ∈ TW := tw_in 40 (by decide +kernel) rfl
set_option maxRecDepth 20000 in
theorem k_s41 : Cond.selects "BeamSetter" (⟨"BeamSetter", "tellBest", "(I)I"⟩ : MethodName) ⟨"BeamSetter", "tellBest", "(I)I"⟩ ∈ TW := tw_in 41 (by decide +kernel) rfl
set_option maxRecDepth 20000 in
theorem k_s42 : Cond.selects "BeamSetter$Group" (⟨"BeamSetter$Group", "bestSloping", "(IJ)J"⟩ : MethodName) ⟨"BeamSetter$Group", "bestSloping", "(IJ)J"⟩ ∈ TW := tw_in 42 (by decide +kernel) rfl
set_option maxRecDepth 20000 in
theorem k_s43 : Cond.selects "BeamSetter$Group" (⟨"BeamSetter$Group", "keyAt", "(III)J"⟩ : MethodName) ⟨"BeamSetter$Group", "keyAt", "(III)J"⟩ ∈ TW := tw_in 43 (by decide +kernel) rfl
set_option maxRecDepth 20000 in
theorem k_s44 : Cond.selects "BeamSetter$Group" (⟨"BeamSetter$Group", "heightIn", "(J)I"⟩ : MethodName) ⟨"BeamSetter$Group", "heightIn", "(J)I"⟩ ∈ TW := tw_in 44 (by decide +kernel) rfl
set_option maxRecDepth 20000 in
theorem k_s45 : Cond.selects "BeamSetter$Piece" (⟨"BeamSetter$Piece", "areTogether", "(II)Z"⟩ : MethodName) ⟨"BeamSetter$Piece", "areTogether", "(II)Z"⟩ ∈ TW := tw_in 45 (by decide +kernel) rfl
set_option maxRecDepth 20000 in
theorem k_s46 : Cond.selects "BeamSetter" (⟨"BeamSetter", "tryShifted", "(I)Z"⟩ : MethodName) ⟨"BeamSetter", "tryShifted", "(I)Z"⟩ ∈ TW := tw_in 46 (by decide +kernel) rfl
set_option maxRecDepth 20000 in
theorem k_s47 : Cond.selects "BeamSetter" (⟨"BeamSetter", "loadTried", "(I)V"⟩ : MethodName) ⟨"BeamSetter", "loadTried", "(I)V"⟩ ∈ TW := tw_in 47 (by decide +kernel) rfl
set_option maxRecDepth 20000 in
theorem k_s48 : Cond.selects "BeamSetter" (⟨"BeamSetter", "tellStretch", "(III)I"⟩ : MethodName) ⟨"BeamSetter", "tellStretch", "(III)I"⟩ ∈ TW := tw_in 48 (by decide +kernel) rfl
set_option maxRecDepth 20000 in
theorem k_s49 : Cond.selects "BeamSetter" (⟨"BeamSetter", "uglinessOfCut", "(II)I"⟩ : MethodName) ⟨"BeamSetter", "uglinessOfCut", "(II)I"⟩ ∈ TW := tw_in 49 (by decide +kernel) rfl
set_option maxRecDepth 20000 in
theorem k_s50 : Cond.selects "BeamSetter" (⟨"BeamSetter", "uglinessOfNotes", "(II)I"⟩ : MethodName) ⟨"BeamSetter", "uglinessOfNotes", "(II)I"⟩ ∈ TW := tw_in 50 (by decide +kernel) rfl
set_option maxRecDepth 20000 in
theorem k_s51 : Cond.selects "BeamSetter$Smoother" (⟨"BeamSetter$Smoother", "weighByLeft", "(LBeamSetter$Group;I)I"⟩ : MethodName) ⟨"BeamSetter$Smoother", "weighByLeft", "(LBeamSetter$Group;I)I"⟩ ∈ TW := tw_in 51 (by decide +kernel) rfl
set_option maxRecDepth 20000 in
theorem k_s52 : Cond.selects "BeamSetter$Smoother" (⟨"BeamSetter$Smoother", "costFrom", "(LBeamSetter$Group;IJ)I"⟩ : MethodName) ⟨"BeamSetter$Smoother", "costFrom", "(LBeamSetter$Group;IJ)I"⟩ ∈ TW := tw_in 52 (by decide +kernel) rfl
set_option maxRecDepth 20000 in
theorem k_s53 : Cond.selects "BeamSetter$Smoother" (⟨"BeamSetter$Smoother", "leastNear", "(II)I"⟩ : MethodName) ⟨"BeamSetter$Smoother", "leastNear", "(II)I"⟩ ∈ TW := tw_in 53 (by decide +kernel) rfl
set_option maxRecDepth 20000 in
theorem k_s54 : Cond.selects "BeamSetter$Smoother" (⟨"BeamSetter$Smoother", "cheapest", "(LBeamSetter$Group;III)J"⟩ : MethodName) ⟨"BeamSetter$Smoother", "cheapest", "(LBeamSetter$Group;III)J"⟩ ∈ TW := tw_in 54 (by decide +kernel) rfl
set_option maxRecDepth 20000 in
theorem k_s56 : Cond.selects "BeamSetterModel" (⟨"BeamSetterModel", "four", "(I)V"⟩ : MethodName) ⟨"BeamSetterModel", "four", "(I)V"⟩ ∈ TW := tw_in 56 (by decide +kernel) rfl
set_option maxRecDepth 20000 in
theorem k_s57 : Cond.selects "BeamSetterModel" (⟨"BeamSetterModel", "advance", "()V"⟩ : MethodName) ⟨"BeamSetterModel", "advance", "()V"⟩ ∈ TW := tw_in 57 (by decide +kernel) rfl
set_option maxRecDepth 20000 in
theorem k_s58 : Cond.selects "BeamSetterModel" (⟨"BeamSetterModel", "see", "()I"⟩ : MethodName) ⟨"BeamSetterModel", "see", "()I"⟩ ∈ TW := tw_in 58 (by decide +kernel) rfl
set_option maxRecDepth 20000 in
theorem k_s59 : Cond.selects "BeamSetterModel" (⟨"BeamSetterModel", "lineHere", "()V"⟩ : MethodName) ⟨"BeamSetterModel", "lineHere", "()V"⟩ ∈ TW := tw_in 59 (by decide +kernel) rfl
set_option maxRecDepth 20000 in
theorem k_s60 : Cond.selects "BeamSetterModel" (⟨"BeamSetterModel", "must", "(ZI)V"⟩ : MethodName) ⟨"BeamSetterModel", "must", "(ZI)V"⟩ ∈ TW := tw_in 60 (by decide +kernel) rfl
set_option maxRecDepth 20000 in
theorem k_s61 : Cond.selects "BeamSetterModel" (⟨"BeamSetterModel", "metreHere", "()V"⟩ : MethodName) ⟨"BeamSetterModel", "metreHere", "()V"⟩ ∈ TW := tw_in 61 (by decide +kernel) rfl
set_option maxRecDepth 20000 in
theorem k_s62 : Cond.selects "BeamSetterModel" (⟨"BeamSetterModel", "numberHere", "(II)I"⟩ : MethodName) ⟨"BeamSetterModel", "numberHere", "(II)I"⟩ ∈ TW := tw_in 62 (by decide +kernel) rfl
set_option maxRecDepth 20000 in
theorem k_s63 : Cond.selects "BeamSetterModel" (⟨"BeamSetterModel", "splitHere", "()V"⟩ : MethodName) ⟨"BeamSetterModel", "splitHere", "()V"⟩ ∈ TW := tw_in 63 (by decide +kernel) rfl
set_option maxRecDepth 20000 in
theorem k_s64 : Cond.selects "BeamSetterModel" (⟨"BeamSetterModel", "isMark", "(I)Z"⟩ : MethodName) ⟨"BeamSetterModel", "isMark", "(I)Z"⟩ ∈ TW := tw_in 64 (by decide +kernel) rfl
set_option maxRecDepth 20000 in
theorem k_s65 : Cond.selects "BeamSetterModel" (⟨"BeamSetterModel", "kneeHere", "()V"⟩ : MethodName) ⟨"BeamSetterModel", "kneeHere", "()V"⟩ ∈ TW := tw_in 65 (by decide +kernel) rfl
set_option maxRecDepth 20000 in
theorem k_s66 : Cond.selects "BeamSetterModel" (⟨"BeamSetterModel", "wideHere", "()V"⟩ : MethodName) ⟨"BeamSetterModel", "wideHere", "()V"⟩ ∈ TW := tw_in 66 (by decide +kernel) rfl
set_option maxRecDepth 20000 in
theorem k_s67 : Cond.selects "BeamSetterModel" (⟨"BeamSetterModel", "elementHere", "(Z)V"⟩ : MethodName) ⟨"BeamSetterModel", "elementHere", "(Z)V"⟩ ∈ TW := tw_in 67 (by decide +kernel) rfl
set_option maxRecDepth 20000 in
theorem k_s68 : Cond.selects "BeamSetterModel" (⟨"BeamSetterModel", "positionHere", "()I"⟩ : MethodName) ⟨"BeamSetterModel", "positionHere", "()I"⟩ ∈ TW := tw_in 68 (by decide +kernel) rfl
set_option maxRecDepth 20000 in
theorem k_s69 : Cond.selects "BeamSetterModel" (⟨"BeamSetterModel", "laysAll", "()V"⟩ : MethodName) ⟨"BeamSetterModel", "laysAll", "()V"⟩ ∈ TW := tw_in 69 (by decide +kernel) rfl
set_option maxRecDepth 20000 in
theorem k_s70 : Cond.selects "BeamSetterModel" (⟨"BeamSetterModel", "isBeamed", "(I)Z"⟩ : MethodName) ⟨"BeamSetterModel", "isBeamed", "(I)Z"⟩ ∈ TW := tw_in 70 (by decide +kernel) rfl
set_option maxRecDepth 20000 in
theorem k_s71 : Cond.selects "BeamSetterModel" (⟨"BeamSetterModel", "endOf", "(II)I"⟩ : MethodName) ⟨"BeamSetterModel", "endOf", "(II)I"⟩ ∈ TW := tw_in 71 (by decide +kernel) rfl
set_option maxRecDepth 20000 in
theorem k_s72 : Cond.selects "BeamSetterModel" (⟨"BeamSetterModel", "whichPart", "(II)I"⟩ : MethodName) ⟨"BeamSetterModel", "whichPart", "(II)I"⟩ ∈ TW := tw_in 72 (by decide +kernel) rfl
set_option maxRecDepth 20000 in
theorem k_s73 : Cond.selects "BeamSetterModel" (⟨"BeamSetterModel", "measure", "()I"⟩ : MethodName) ⟨"BeamSetterModel", "measure", "()I"⟩ ∈ TW := tw_in 73 (by decide +kernel) rfl
set_option maxRecDepth 20000 in
theorem k_s74 : Cond.selects "BeamSetterModel" (⟨"BeamSetterModel", "partAt", "(I)I"⟩ : MethodName) ⟨"BeamSetterModel", "partAt", "(I)I"⟩ ∈ TW := tw_in 74 (by decide +kernel) rfl
set_option maxRecDepth 20000 in
theorem k_s75 : Cond.selects "BeamSetterModel" (⟨"BeamSetterModel", "beat", "()I"⟩ : MethodName) ⟨"BeamSetterModel", "beat", "()I"⟩ ∈ TW := tw_in 75 (by decide +kernel) rfl
set_option maxRecDepth 20000 in
theorem k_s76 : Cond.selects "BeamSetterModel" (⟨"BeamSetterModel", "thinksPlainly", "()V"⟩ : MethodName) ⟨"BeamSetterModel", "thinksPlainly", "()V"⟩ ∈ TW := tw_in 76 (by decide +kernel) rfl
set_option maxRecDepth 20000 in
theorem k_s77 : Cond.selects "BeamSetterModel" (⟨"BeamSetterModel", "isElement", "(I)Z"⟩ : MethodName) ⟨"BeamSetterModel", "isElement", "(I)Z"⟩ ∈ TW := tw_in 77 (by decide +kernel) rfl
set_option maxRecDepth 20000 in
theorem k_s78 : Cond.selects "BeamSetterModel" (⟨"BeamSetterModel", "failsWith", "(I)I"⟩ : MethodName) ⟨"BeamSetterModel", "failsWith", "(I)I"⟩ ∈ TW := tw_in 78 (by decide +kernel) rfl
set_option maxRecDepth 20000 in
theorem k_s79 : Cond.selects "BeamSetterModel" (⟨"BeamSetterModel", "isNoteAt", "(I)Z"⟩ : MethodName) ⟨"BeamSetterModel", "isNoteAt", "(I)Z"⟩ ∈ TW := tw_in 79 (by decide +kernel) rfl
set_option maxRecDepth 20000 in
theorem k_s80 : Cond.selects "BeamSetterModel" (⟨"BeamSetterModel", "laysWays", "(I)V"⟩ : MethodName) ⟨"BeamSetterModel", "laysWays", "(I)V"⟩ ∈ TW := tw_in 80 (by decide +kernel) rfl
set_option maxRecDepth 20000 in
theorem k_s81 : Cond.selects "BeamSetterModel" (⟨"BeamSetterModel", "gapBelow", "(I)I"⟩ : MethodName) ⟨"BeamSetterModel", "gapBelow", "(I)I"⟩ ∈ TW := tw_in 81 (by decide +kernel) rfl
set_option maxRecDepth 20000 in
theorem k_s82 : Cond.selects "BeamSetterModel" (⟨"BeamSetterModel", "hasAt", "(II)Z"⟩ : MethodName) ⟨"BeamSetterModel", "hasAt", "(II)Z"⟩ ∈ TW := tw_in 82 (by decide +kernel) rfl
set_option maxRecDepth 20000 in
theorem k_s83 : Cond.selects "BeamSetterModel" (⟨"BeamSetterModel", "plainWay", "(I)I"⟩ : MethodName) ⟨"BeamSetterModel", "plainWay", "(I)I"⟩ ∈ TW := tw_in 83 (by decide +kernel) rfl
set_option maxRecDepth 20000 in
theorem k_s84 : Cond.selects "BeamSetterModel" (⟨"BeamSetterModel", "isGroup", "(I)Z"⟩ : MethodName) ⟨"BeamSetterModel", "isGroup", "(I)Z"⟩ ∈ TW := tw_in 84 (by decide +kernel) rfl
set_option maxRecDepth 20000 in
theorem k_s85 : Cond.selects "BeamSetterModel" (⟨"BeamSetterModel", "isKneedNow", "(I)Z"⟩ : MethodName) ⟨"BeamSetterModel", "isKneedNow", "(I)Z"⟩ ∈ TW := tw_in 85 (by decide +kernel) rfl
set_option maxRecDepth 20000 in
theorem k_s86 : Cond.selects "BeamSetterModel" (⟨"BeamSetterModel", "mostBeams", "(I)I"⟩ : MethodName) ⟨"BeamSetterModel", "mostBeams", "(I)I"⟩ ∈ TW := tw_in 86 (by decide +kernel) rfl
set_option maxRecDepth 20000 in
theorem k_s87 : Cond.selects "BeamSetterModel" (⟨"BeamSetterModel", "allowedMany", "(I)I"⟩ : MethodName) ⟨"BeamSetterModel", "allowedMany", "(I)I"⟩ ∈ TW := tw_in 87 (by decide +kernel) rfl
set_option maxRecDepth 20000 in
theorem k_s88 : Cond.selects "BeamSetterModel" (⟨"BeamSetterModel", "laysSets", "(I)V"⟩ : MethodName) ⟨"BeamSetterModel", "laysSets", "(I)V"⟩ ∈ TW := tw_in 88 (by decide +kernel) rfl
set_option maxRecDepth 20000 in
theorem k_s89 : Cond.selects "BeamSetterModel" (⟨"BeamSetterModel", "opens", "(I)V"⟩ : MethodName) ⟨"BeamSetterModel", "opens", "(I)V"⟩ ∈ TW := tw_in 89 (by decide +kernel) rfl
set_option maxRecDepth 20000 in
theorem k_s90 : Cond.selects "BeamSetterModel" (⟨"BeamSetterModel", "isAllowed", "(II)Z"⟩ : MethodName) ⟨"BeamSetterModel", "isAllowed", "(II)Z"⟩ ∈ TW := tw_in 90 (by decide +kernel) rfl
set_option maxRecDepth 20000 in
theorem k_s91 : Cond.selects "BeamSetterModel" (⟨"BeamSetterModel", "lengthAt", "(III)I"⟩ : MethodName) ⟨"BeamSetterModel", "lengthAt", "(III)I"⟩ ∈ TW := tw_in 91 (by decide +kernel) rfl
set_option maxRecDepth 20000 in
theorem k_s92 : Cond.selects "BeamSetterModel" (⟨"BeamSetterModel", "heightAt", "(III)I"⟩ : MethodName) ⟨"BeamSetterModel", "heightAt", "(III)I"⟩ ∈ TW := tw_in 92 (by decide +kernel) rfl
set_option maxRecDepth 20000 in
theorem k_s93 : Cond.selects "BeamSetterModel" (⟨"BeamSetterModel", "uglinessOf", "(II)I"⟩ : MethodName) ⟨"BeamSetterModel", "uglinessOf", "(II)I"⟩ ∈ TW := tw_in 93 (by decide +kernel) rfl
set_option maxRecDepth 20000 in
theorem k_s94 : Cond.selects "BeamSetterModel" (⟨"BeamSetterModel", "stemsOf", "(II)I"⟩ : MethodName) ⟨"BeamSetterModel", "stemsOf", "(II)I"⟩ ∈ TW := tw_in 94 (by decide +kernel) rfl
set_option maxRecDepth 20000 in
theorem k_s95 : Cond.selects "BeamSetterModel" (⟨"BeamSetterModel", "idealOf", "(I)I"⟩ : MethodName) ⟨"BeamSetterModel", "idealOf", "(I)I"⟩ ∈ TW := tw_in 95 (by decide +kernel) rfl
set_option maxRecDepth 20000 in
theorem k_s96 : Cond.selects "BeamSetterModel" (⟨"BeamSetterModel", "slopeOf", "(II)I"⟩ : MethodName) ⟨"BeamSetterModel", "slopeOf", "(II)I"⟩ ∈ TW := tw_in 96 (by decide +kernel) rfl
set_option maxRecDepth 20000 in
theorem k_s97 : Cond.selects "BeamSetterModel" (⟨"BeamSetterModel", "wantOf", "()I"⟩ : MethodName) ⟨"BeamSetterModel", "wantOf", "()I"⟩ ∈ TW := tw_in 97 (by decide +kernel) rfl
set_option maxRecDepth 20000 in
theorem k_s98 : Cond.selects "BeamSetterModel" (⟨"BeamSetterModel", "hasNearer", "()Z"⟩ : MethodName) ⟨"BeamSetterModel", "hasNearer", "()Z"⟩ ∈ TW := tw_in 98 (by decide +kernel) rfl
set_option maxRecDepth 20000 in
theorem k_s99 : Cond.selects "BeamSetterModel" (⟨"BeamSetterModel", "staffOf", "(II)I"⟩ : MethodName) ⟨"BeamSetterModel", "staffOf", "(II)I"⟩ ∈ TW := tw_in 99 (by decide +kernel) rfl
set_option maxRecDepth 20000 in
theorem k_s100 : Cond.selects "BeamSetterModel" (⟨"BeamSetterModel", "endCost", "(III)I"⟩ : MethodName) ⟨"BeamSetterModel", "endCost", "(III)I"⟩ ∈ TW := tw_in 100 (by decide +kernel) rfl
set_option maxRecDepth 20000 in
theorem k_s101 : Cond.selects "BeamSetterModel" (⟨"BeamSetterModel", "beamAt", "(III)I"⟩ : MethodName) ⟨"BeamSetterModel", "beamAt", "(III)I"⟩ ∈ TW := tw_in 101 (by decide +kernel) rfl
set_option maxRecDepth 20000 in
theorem k_s102 : Cond.selects "BeamSetterModel" (⟨"BeamSetterModel", "lengthsOf", "(II)I"⟩ : MethodName) ⟨"BeamSetterModel", "lengthsOf", "(II)I"⟩ ∈ TW := tw_in 102 (by decide +kernel) rfl
set_option maxRecDepth 20000 in
theorem k_s103 : Cond.selects "BeamSetterModel" (⟨"BeamSetterModel", "upMany", "(I)I"⟩ : MethodName) ⟨"BeamSetterModel", "upMany", "(I)I"⟩ ∈ TW := tw_in 103 (by decide +kernel) rfl
set_option maxRecDepth 20000 in
theorem k_s104 : Cond.selects "BeamSetterModel" (⟨"BeamSetterModel", "bestOf", "(II)I"⟩ : MethodName) ⟨"BeamSetterModel", "bestOf", "(II)I"⟩ ∈ TW := tw_in 104 (by decide +kernel) rfl
set_option maxRecDepth 20000 in
theorem k_s105 : Cond.selects "BeamSetterModel" (⟨"BeamSetterModel", "bestSet", "()I"⟩ : MethodName) ⟨"BeamSetterModel", "bestSet", "()I"⟩ ∈ TW := tw_in 105 (by decide +kernel) rfl
set_option maxRecDepth 20000 in
theorem k_s106 : Cond.selects "BeamSetterModel" (⟨"BeamSetterModel", "isBefore", "(II)Z"⟩ : MethodName) ⟨"BeamSetterModel", "isBefore", "(II)Z"⟩ ∈ TW := tw_in 106 (by decide +kernel) rfl
set_option maxRecDepth 20000 in
theorem k_s107 : Cond.selects "BeamSetterModel" (⟨"BeamSetterModel", "steep", "(I)I"⟩ : MethodName) ⟨"BeamSetterModel", "steep", "(I)I"⟩ ∈ TW := tw_in 107 (by decide +kernel) rfl
set_option maxRecDepth 20000 in
theorem k_s108 : Cond.selects "BeamSetterModel" (⟨"BeamSetterModel", "told", "(II)I"⟩ : MethodName) ⟨"BeamSetterModel", "told", "(II)I"⟩ ∈ TW := tw_in 108 (by decide +kernel) rfl
set_option maxRecDepth 20000 in
theorem k_s109 : Cond.selects "BeamSetterModel" (⟨"BeamSetterModel", "rankOf", "(I)I"⟩ : MethodName) ⟨"BeamSetterModel", "rankOf", "(I)I"⟩ ∈ TW := tw_in 109 (by decide +kernel) rfl
set_option maxRecDepth 20000 in
theorem k_s110 : Cond.selects "BeamSetterModel" (⟨"BeamSetterModel", "isOfGroup", "(I)Z"⟩ : MethodName) ⟨"BeamSetterModel", "isOfGroup", "(I)Z"⟩ ∈ TW := tw_in 110 (by decide +kernel) rfl
set_option maxRecDepth 20000 in
theorem k_s111 : Cond.selects "BeamSetterModel" (⟨"BeamSetterModel", "beamsAt", "(II)I"⟩ : MethodName) ⟨"BeamSetterModel", "beamsAt", "(II)I"⟩ ∈ TW := tw_in 111 (by decide +kernel) rfl
set_option maxRecDepth 20000 in
theorem k_s112 : Cond.selects "BeamSetterModel" (⟨"BeamSetterModel", "isLeft", "(III)Z"⟩ : MethodName) ⟨"BeamSetterModel", "isLeft", "(III)Z"⟩ ∈ TW := tw_in 112 (by decide +kernel) rfl
set_option maxRecDepth 20000 in
theorem k_s113 : Cond.selects "BeamSetterModel" (⟨"BeamSetterModel", "totalOf", "(I)I"⟩ : MethodName) ⟨"BeamSetterModel", "totalOf", "(I)I"⟩ ∈ TW := tw_in 113 (by decide +kernel) rfl
set_option maxRecDepth 20000 in
theorem k_s114 : Cond.selects "BeamSetterModel" (⟨"BeamSetterModel", "laysTotal", "()V"⟩ : MethodName) ⟨"BeamSetterModel", "laysTotal", "()V"⟩ ∈ TW := tw_in 114 (by decide +kernel) rfl
set_option maxRecDepth 20000 in
theorem k_s115 : Cond.selects "BeamSetterModel" (⟨"BeamSetterModel", "shifts", "(I)Z"⟩ : MethodName) ⟨"BeamSetterModel", "shifts", "(I)Z"⟩ ∈ TW := tw_in 115 (by decide +kernel) rfl
set_option maxRecDepth 20000 in
theorem k_s116 : Cond.selects "BeamSetterModel" (⟨"BeamSetterModel", "groupsBy", "(I)I"⟩ : MethodName) ⟨"BeamSetterModel", "groupsBy", "(I)I"⟩ ∈ TW := tw_in 116 (by decide +kernel) rfl
set_option maxRecDepth 20000 in
theorem k_s117 : Cond.selects "BeamSetterModel" (⟨"BeamSetterModel", "stretchAt", "(III)I"⟩ : MethodName) ⟨"BeamSetterModel", "stretchAt", "(III)I"⟩ ∈ TW := tw_in 117 (by decide +kernel) rfl
set_option maxRecDepth 20000 in
theorem k_s118 : Cond.selects "BeamSetterModel" (⟨"BeamSetterModel", "stretchFrom", "(III)I"⟩ : MethodName) ⟨"BeamSetterModel", "stretchFrom", "(III)I"⟩ ∈ TW := tw_in 118 (by decide +kernel) rfl
set_option maxRecDepth 20000 in
theorem k_s119 : Cond.selects "BeamSetterModel" (⟨"BeamSetterModel", "goesOn", "(III)Z"⟩ : MethodName) ⟨"BeamSetterModel", "goesOn", "(III)Z"⟩ ∈ TW := tw_in 119 (by decide +kernel) rfl
set_option maxRecDepth 20000 in
theorem k_s120 : Cond.selects "BeamSetterModel" (⟨"BeamSetterModel", "stretchEnd", "(III)I"⟩ : MethodName) ⟨"BeamSetterModel", "stretchEnd", "(III)I"⟩ ∈ TW := tw_in 120 (by decide +kernel) rfl
set_option maxRecDepth 20000 in
theorem k_s121 : Cond.selects "BeamSetterModel" (⟨"BeamSetterModel", "cutAt", "(II)I"⟩ : MethodName) ⟨"BeamSetterModel", "cutAt", "(II)I"⟩ ∈ TW := tw_in 121 (by decide +kernel) rfl
set_option maxRecDepth 20000 in
theorem k_s122 : Cond.selects "BeamSetterModel" (⟨"BeamSetterModel", "uglyOf", "(II)I"⟩ : MethodName) ⟨"BeamSetterModel", "uglyOf", "(II)I"⟩ ∈ TW := tw_in 122 (by decide +kernel) rfl
set_option maxRecDepth 20000 in
theorem k_s123 : Cond.selects "BeamSetterModel" (⟨"BeamSetterModel", "laysSmooth", "(I)Z"⟩ : MethodName) ⟨"BeamSetterModel", "laysSmooth", "(I)Z"⟩ ∈ TW := tw_in 123 (by decide +kernel) rfl
set_option maxRecDepth 20000 in
theorem k_s124 : Cond.selects "BeamSetterModel" (⟨"BeamSetterModel", "laysOnward", "(II)V"⟩ : MethodName) ⟨"BeamSetterModel", "laysOnward", "(II)V"⟩ ∈ TW := tw_in 124 (by decide +kernel) rfl
set_option maxRecDepth 20000 in
theorem k_s125 : Cond.selects "BeamSetterModel" (⟨"BeamSetterModel", "leastOn", "(III)I"⟩ : MethodName) ⟨"BeamSetterModel", "leastOn", "(III)I"⟩ ∈ TW := tw_in 125 (by decide +kernel) rfl
set_option maxRecDepth 20000 in
theorem k_s126 : Cond.selects "BeamSetterModel" (⟨"BeamSetterModel", "noteMany", "()I"⟩ : MethodName) ⟨"BeamSetterModel", "noteMany", "()I"⟩ ∈ TW := tw_in 126 (by decide +kernel) rfl
set_option maxRecDepth 20000 in
theorem k_s127 : Cond.selects "BeamSetterModel" (⟨"BeamSetterModel", "partsTold", "()I"⟩ : MethodName) ⟨"BeamSetterModel", "partsTold", "()I"⟩ ∈ TW := tw_in 127 (by decide +kernel) rfl
set_option maxRecDepth 20000 in
theorem k_129 : (Cond.initialized "BeamSetter") ∈ TW := tw_in 129 (by decide +kernel) rfl
set_option maxRecDepth 20000 in
theorem k_130 : (Cond.initialized "BeamSetter$Tape") ∈ TW := tw_in 130 (by decide +kernel) rfl
set_option maxRecDepth 20000 in
theorem k_131 : (Cond.initialized "BeamSetter$History") ∈ TW := tw_in 131 (by decide +kernel) rfl
set_option maxRecDepth 20000 in
theorem k_132 : (Cond.initialized "BeamSetter$Group") ∈ TW := tw_in 132 (by decide +kernel) rfl
set_option maxRecDepth 20000 in
theorem k_133 : (Cond.initialized "BeamSetter$Totals") ∈ TW := tw_in 133 (by decide +kernel) rfl
set_option maxRecDepth 20000 in
theorem k_134 : (Cond.initialized "BeamSetter$Smoother") ∈ TW := tw_in 134 (by decide +kernel) rfl
set_option maxRecDepth 20000 in
theorem k_135 : (Cond.initialized "BeamSetter$Piece") ∈ TW := tw_in 135 (by decide +kernel) rfl
set_option maxRecDepth 20000 in
theorem k_136 : (Cond.initialized "java/lang/Math") ∈ TW := tw_in 136 (by decide +kernel) rfl
set_option maxRecDepth 20000 in
theorem k_137 : (Cond.initialized "BeamSetter$Reader") ∈ TW := tw_in 137 (by decide +kernel) rfl
set_option maxRecDepth 20000 in
theorem k_138 : (Cond.initialized "BeamSetterModel") ∈ TW := tw_in 138 (by decide +kernel) rfl
set_option maxRecDepth 20000 in
theorem k_163 : (Cond.fieldLink "BeamSetter$Tape" (9 : Nat) "BeamSetter$Tape" "bytes" "[I") ∈ TW := tw_in 163 (by decide +kernel) rfl
set_option maxRecDepth 20000 in
theorem k_165 : (Cond.fieldLink "BeamSetter$Tape" (13 : Nat) "BeamSetter$Tape" "size" "I") ∈ TW := tw_in 165 (by decide +kernel) rfl
set_option maxRecDepth 20000 in
theorem k_166 : (Cond.fieldLink "BeamSetter" (78 : Nat) "BeamSetter$Tape" "size" "I") ∈ TW := tw_in 166 (by decide +kernel) rfl
set_option maxRecDepth 20000 in
theorem k_179 : (Cond.fieldLink "BeamSetter$History" (11 : Nat) "BeamSetter$History" "who" "[I") ∈ TW := tw_in 179 (by decide +kernel) rfl
set_option maxRecDepth 20000 in
theorem k_180 : (Cond.fieldLink "BeamSetter$History" (15 : Nat) "BeamSetter$History" "where" "[I") ∈ TW := tw_in 180 (by decide +kernel) rfl
set_option maxRecDepth 20000 in
theorem k_181 : (Cond.fieldLink "BeamSetter$History" (18 : Nat) "BeamSetter$History" "size" "I") ∈ TW := tw_in 181 (by decide +kernel) rfl
set_option maxRecDepth 20000 in
theorem k_182 : (Cond.fieldLink "BeamSetter" (86 : Nat) "BeamSetter$History" "size" "I") ∈ TW := tw_in 182 (by decide +kernel) rfl
set_option maxRecDepth 20000 in
theorem k_196 : (Cond.fieldLink "BeamSetter$Group" (53 : Nat) "BeamSetter$Group" "size" "I") ∈ TW := tw_in 196 (by decide +kernel) rfl
set_option maxRecDepth 20000 in
theorem k_197 : (Cond.fieldLink "BeamSetter" (182 : Nat) "BeamSetter$Group" "size" "I") ∈ TW := tw_in 197 (by decide +kernel) rfl
set_option maxRecDepth 20000 in
theorem k_198 : (Cond.fieldLink "BeamSetter$Group" (62 : Nat) "BeamSetter$Group" "last" "I") ∈ TW := tw_in 198 (by decide +kernel) rfl
set_option maxRecDepth 20000 in
theorem k_199 : (Cond.fieldLink "BeamSetter$Group" (65 : Nat) "BeamSetter$Group" "span" "I") ∈ TW := tw_in 199 (by decide +kernel) rfl
set_option maxRecDepth 20000 in
theorem k_200 : (Cond.fieldLink "BeamSetter" (187 : Nat) "BeamSetter$Group" "span" "I") ∈ TW := tw_in 200 (by decide +kernel) rfl
set_option maxRecDepth 20000 in
theorem k_201 : (Cond.fieldLink "BeamSetter$Group" (101 : Nat) "BeamSetter$Group" "wanted" "I") ∈ TW := tw_in 201 (by decide +kernel) rfl
set_option maxRecDepth 20000 in
theorem k_202 : (Cond.fieldLink "BeamSetter" (199 : Nat) "BeamSetter$Group" "wanted" "I") ∈ TW := tw_in 202 (by decide +kernel) rfl
set_option maxRecDepth 20000 in
theorem k_203 : (Cond.fieldLink "BeamSetter$Group" (83 : Nat) "BeamSetter$Group" "kneed" "Z") ∈ TW := tw_in 203 (by decide +kernel) rfl
set_option maxRecDepth 20000 in
theorem k_204 : (Cond.fieldLink "BeamSetter$Totals" (42 : Nat) "BeamSetter$Group" "kneed" "Z") ∈ TW := tw_in 204 (by decide +kernel) rfl
set_option maxRecDepth 20000 in
theorem k_205 : (Cond.fieldLink "BeamSetter" (183 : Nat) "BeamSetter$Group" "kneed" "Z") ∈ TW := tw_in 205 (by decide +kernel) rfl
set_option maxRecDepth 20000 in
theorem k_206 : (Cond.fieldLink "BeamSetter$Group" (13 : Nat) "BeamSetter$Group" "xs" "[I") ∈ TW := tw_in 206 (by decide +kernel) rfl
set_option maxRecDepth 20000 in
theorem k_207 : (Cond.fieldLink "BeamSetter$Group" (17 : Nat) "BeamSetter$Group" "heads" "[I") ∈ TW := tw_in 207 (by decide +kernel) rfl
set_option maxRecDepth 20000 in
theorem k_208 : (Cond.fieldLink "BeamSetter$Group" (20 : Nat) "BeamSetter$Group" "beams" "[I") ∈ TW := tw_in 208 (by decide +kernel) rfl
set_option maxRecDepth 20000 in
theorem k_209 : (Cond.fieldLink "BeamSetter$Group" (23 : Nat) "BeamSetter$Group" "ways" "[I") ∈ TW := tw_in 209 (by decide +kernel) rfl
set_option maxRecDepth 20000 in
theorem k_210 : (Cond.fieldLink "BeamSetter" (148 : Nat) "BeamSetter$Group" "ways" "[I") ∈ TW := tw_in 210 (by decide +kernel) rfl
set_option maxRecDepth 20000 in
theorem k_211 : (Cond.fieldLink "BeamSetter$Group" (26 : Nat) "BeamSetter$Group" "ideals" "[I") ∈ TW := tw_in 211 (by decide +kernel) rfl
set_option maxRecDepth 20000 in
theorem k_212 : (Cond.fieldLink "BeamSetter" (202 : Nat) "BeamSetter$Group" "ideals" "[I") ∈ TW := tw_in 212 (by decide +kernel) rfl
set_option maxRecDepth 20000 in
theorem k_213 : (Cond.fieldLink "BeamSetter$Group" (29 : Nat) "BeamSetter$Group" "keys" "[J") ∈ TW := tw_in 213 (by decide +kernel) rfl
set_option maxRecDepth 20000 in
theorem k_214 : (Cond.fieldLink "BeamSetter$Smoother" (68 : Nat) "BeamSetter$Group" "keys" "[J") ∈ TW := tw_in 214 (by decide +kernel) rfl
set_option maxRecDepth 20000 in
theorem k_215 : (Cond.fieldLink "BeamSetter" (222 : Nat) "BeamSetter$Group" "keys" "[J") ∈ TW := tw_in 215 (by decide +kernel) rfl
set_option maxRecDepth 20000 in
theorem k_216 : (Cond.fieldLink "BeamSetter$Group" (54 : Nat) "BeamSetter$Group" "keyCount" "I") ∈ TW := tw_in 216 (by decide +kernel) rfl
set_option maxRecDepth 20000 in
theorem k_217 : (Cond.fieldLink "BeamSetter$Smoother" (65 : Nat) "BeamSetter$Group" "keyCount" "I") ∈ TW := tw_in 217 (by decide +kernel) rfl
set_option maxRecDepth 20000 in
theorem k_218 : (Cond.fieldLink "BeamSetter$Group" (33 : Nat) "BeamSetter$Group" "taken" "[Z") ∈ TW := tw_in 218 (by decide +kernel) rfl
set_option maxRecDepth 20000 in
theorem k_219 : (Cond.fieldLink "BeamSetter$Group" (37 : Nat) "BeamSetter$Group" "bases" "[I") ∈ TW := tw_in 219 (by decide +kernel) rfl
set_option maxRecDepth 20000 in
theorem k_220 : (Cond.fieldLink "BeamSetter$Group" (110 : Nat) "BeamSetter$Group" "baseSum" "I") ∈ TW := tw_in 220 (by decide +kernel) rfl
set_option maxRecDepth 20000 in
theorem k_221 : (Cond.fieldLink "BeamSetter$Group" (91 : Nat) "BeamSetter$Group" "waySum" "I") ∈ TW := tw_in 221 (by decide +kernel) rfl
set_option maxRecDepth 20000 in
theorem k_222 : (Cond.fieldLink "BeamSetter$Group" (104 : Nat) "BeamSetter$Group" "low" "I") ∈ TW := tw_in 222 (by decide +kernel) rfl
set_option maxRecDepth 20000 in
theorem k_223 : (Cond.fieldLink "BeamSetter$Group" (107 : Nat) "BeamSetter$Group" "high" "I") ∈ TW := tw_in 223 (by decide +kernel) rfl
set_option maxRecDepth 20000 in
theorem k_269 : (Cond.fieldLink "BeamSetter$Totals" (9 : Nat) "BeamSetter$Totals" "ugliness" "I") ∈ TW := tw_in 269 (by decide +kernel) rfl
set_option maxRecDepth 20000 in
theorem k_270 : (Cond.fieldLink "BeamSetter" (354 : Nat) "BeamSetter$Totals" "ugliness" "I") ∈ TW := tw_in 270 (by decide +kernel) rfl
set_option maxRecDepth 20000 in
theorem k_271 : (Cond.fieldLink "BeamSetter$Totals" (15 : Nat) "BeamSetter$Totals" "aside" "I") ∈ TW := tw_in 271 (by decide +kernel) rfl
set_option maxRecDepth 20000 in
theorem k_272 : (Cond.fieldLink "BeamSetter$Totals" (18 : Nat) "BeamSetter$Totals" "worst" "I") ∈ TW := tw_in 272 (by decide +kernel) rfl
set_option maxRecDepth 20000 in
theorem k_273 : (Cond.fieldLink "BeamSetter$Totals" (21 : Nat) "BeamSetter$Totals" "kneed" "I") ∈ TW := tw_in 273 (by decide +kernel) rfl
set_option maxRecDepth 20000 in
theorem k_289 : (Cond.fieldLink "BeamSetter$Smoother" (30 : Nat) "BeamSetter$Smoother" "together" "I") ∈ TW := tw_in 289 (by decide +kernel) rfl
set_option maxRecDepth 20000 in
theorem k_290 : (Cond.fieldLink "BeamSetter" (351 : Nat) "BeamSetter$Smoother" "together" "I") ∈ TW := tw_in 290 (by decide +kernel) rfl
set_option maxRecDepth 20000 in
theorem k_291 : (Cond.fieldLink "BeamSetter$Smoother" (13 : Nat) "BeamSetter$Smoother" "behind" "[I") ∈ TW := tw_in 291 (by decide +kernel) rfl
set_option maxRecDepth 20000 in
theorem k_292 : (Cond.fieldLink "BeamSetter$Smoother" (17 : Nat) "BeamSetter$Smoother" "byLeft" "[I") ∈ TW := tw_in 292 (by decide +kernel) rfl
set_option maxRecDepth 20000 in
theorem k_307 : (Cond.instanceMethod ({ cls := "BeamSetter$Piece", name := "clear", desc := "()V" } : MethodName)) ∈ TW := tw_in 307 (by decide +kernel) rfl
set_option maxRecDepth 20000 in
theorem k_308 : (Cond.selects "BeamSetter$Piece" ({ cls := "BeamSetter$Piece", name := "clear", desc := "()V" } : MethodName) ({ cls := "BeamSetter$Piece", name := "clear", desc := "()V" } : MethodName)) ∈ TW := tw_in 308 (by decide +kernel) rfl
set_option maxRecDepth 20000 in
theorem k_309 : (Cond.code ({ cls := "BeamSetter$Piece", name := "clear", desc := "()V" } : MethodName) prog_4_method_2_code (1 : Nat) (none : Option FieldType)) ∈ TW := tw_in 309 (by decide +kernel) rfl
set_option maxRecDepth 20000 in
theorem k_310 : (Cond.methodLink "BeamSetter$Piece" (59 : Nat) ({ cls := "BeamSetter$Piece", name := "setMetre", desc := "(II)V" } : MethodName)) ∈ TW := tw_in 310 (by decide +kernel) rfl
set_option maxRecDepth 20000 in
theorem k_311 : (Cond.instanceMethod ({ cls := "BeamSetter$Piece", name := "setMetre", desc := "(II)V" } : MethodName)) ∈ TW := tw_in 311 (by decide +kernel) rfl
set_option maxRecDepth 20000 in
theorem k_312 : (Cond.selects "BeamSetter$Piece" ({ cls := "BeamSetter$Piece", name := "setMetre", desc := "(II)V" } : MethodName) ({ cls := "BeamSetter$Piece", name := "setMetre", desc := "(II)V" } : MethodName)) ∈ TW := tw_in 312 (by decide +kernel) rfl
set_option maxRecDepth 20000 in
theorem k_313 : (Cond.code ({ cls := "BeamSetter$Piece", name := "setMetre", desc := "(II)V" } : MethodName) prog_4_method_3_code (5 : Nat) (none : Option FieldType)) ∈ TW := tw_in 313 (by decide +kernel) rfl
set_option maxRecDepth 20000 in
theorem k_314 : (Cond.methodLink "BeamSetter$Piece" (63 : Nat) ({ cls := "java/lang/Math", name := "min", desc := "(II)I" } : MethodName)) ∈ TW := tw_in 314 (by decide +kernel) rfl
set_option maxRecDepth 20000 in
theorem k_315 : (Cond.static ({ cls := "java/lang/Math", name := "min", desc := "(II)I" } : MethodName)) ∈ TW := tw_in 315 (by decide +kernel) rfl
set_option maxRecDepth 20000 in
theorem k_316 : (Cond.code ({ cls := "java/lang/Math", name := "min", desc := "(II)I" } : MethodName) prog_16_method_69_code (2 : Nat) (some FieldType.int)) ∈ TW := tw_in 316 (by decide +kernel) rfl
set_option maxRecDepth 20000 in
theorem k_317 : (Cond.fieldLink "BeamSetter$Piece" (46 : Nat) "BeamSetter$Piece" "lines" "I") ∈ TW := tw_in 317 (by decide +kernel) rfl
set_option maxRecDepth 20000 in
theorem k_318 : (Cond.fieldLink "BeamSetter$Reader" (60 : Nat) "BeamSetter$Piece" "lines" "I") ∈ TW := tw_in 318 (by decide +kernel) rfl
set_option maxRecDepth 20000 in
theorem k_319 : (Cond.fieldLink "BeamSetter" (87 : Nat) "BeamSetter$Piece" "lines" "I") ∈ TW := tw_in 319 (by decide +kernel) rfl
set_option maxRecDepth 20000 in
theorem k_320 : (Cond.fieldLink "BeamSetter$Piece" (69 : Nat) "BeamSetter$Piece" "beats" "I") ∈ TW := tw_in 320 (by decide +kernel) rfl
set_option maxRecDepth 20000 in
theorem k_321 : (Cond.fieldLink "BeamSetter$Reader" (153 : Nat) "BeamSetter$Piece" "beats" "I") ∈ TW := tw_in 321 (by decide +kernel) rfl
set_option maxRecDepth 20000 in
theorem k_322 : (Cond.fieldLink "BeamSetter" (370 : Nat) "BeamSetter$Piece" "beats" "I") ∈ TW := tw_in 322 (by decide +kernel) rfl
set_option maxRecDepth 20000 in
theorem k_323 : (Cond.fieldLink "BeamSetter$Piece" (72 : Nat) "BeamSetter$Piece" "unit" "I") ∈ TW := tw_in 323 (by decide +kernel) rfl
set_option maxRecDepth 20000 in
theorem k_324 : (Cond.fieldLink "BeamSetter" (373 : Nat) "BeamSetter$Piece" "unit" "I") ∈ TW := tw_in 324 (by decide +kernel) rfl
set_option maxRecDepth 20000 in
theorem k_325 : (Cond.fieldLink "BeamSetter$Piece" (56 : Nat) "BeamSetter$Piece" "knee" "I") ∈ TW := tw_in 325 (by decide +kernel) rfl
set_option maxRecDepth 20000 in
theorem k_326 : (Cond.fieldLink "BeamSetter$Smoother" (54 : Nat) "BeamSetter$Piece" "knee" "I") ∈ TW := tw_in 326 (by decide +kernel) rfl
set_option maxRecDepth 20000 in
theorem k_327 : (Cond.fieldLink "BeamSetter$Reader" (162 : Nat) "BeamSetter$Piece" "knee" "I") ∈ TW := tw_in 327 (by decide +kernel) rfl
set_option maxRecDepth 20000 in
theorem k_328 : (Cond.fieldLink "BeamSetter" (294 : Nat) "BeamSetter$Piece" "knee" "I") ∈ TW := tw_in 328 (by decide +kernel) rfl
set_option maxRecDepth 20000 in
theorem k_329 : (Cond.fieldLink "BeamSetter$Piece" (75 : Nat) "BeamSetter$Piece" "partCount" "I") ∈ TW := tw_in 329 (by decide +kernel) rfl
set_option maxRecDepth 20000 in
theorem k_330 : (Cond.fieldLink "BeamSetter$Reader" (159 : Nat) "BeamSetter$Piece" "partCount" "I") ∈ TW := tw_in 330 (by decide +kernel) rfl
set_option maxRecDepth 20000 in
theorem k_331 : (Cond.fieldLink "BeamSetter" (376 : Nat) "BeamSetter$Piece" "partCount" "I") ∈ TW := tw_in 331 (by decide +kernel) rfl
set_option maxRecDepth 20000 in
theorem k_332 : (Cond.fieldLink "BeamSetter$Piece" (9 : Nat) "BeamSetter$Piece" "parts" "[I") ∈ TW := tw_in 332 (by decide +kernel) rfl
set_option maxRecDepth 20000 in
theorem k_333 : (Cond.fieldLink "BeamSetter$Reader" (156 : Nat) "BeamSetter$Piece" "parts" "[I") ∈ TW := tw_in 333 (by decide +kernel) rfl
set_option maxRecDepth 20000 in
theorem k_334 : (Cond.fieldLink "BeamSetter$Piece" (15 : Nat) "BeamSetter$Piece" "widths" "[I") ∈ TW := tw_in 334 (by decide +kernel) rfl
set_option maxRecDepth 20000 in
theorem k_335 : (Cond.fieldLink "BeamSetter$Reader" (171 : Nat) "BeamSetter$Piece" "widths" "[I") ∈ TW := tw_in 335 (by decide +kernel) rfl
set_option maxRecDepth 20000 in
theorem k_336 : (Cond.fieldLink "BeamSetter" (379 : Nat) "BeamSetter$Piece" "widths" "[I") ∈ TW := tw_in 336 (by decide +kernel) rfl
set_option maxRecDepth 20000 in
theorem k_337 : (Cond.fieldLink "BeamSetter$Piece" (50 : Nat) "BeamSetter$Piece" "size" "I") ∈ TW := tw_in 337 (by decide +kernel) rfl
set_option maxRecDepth 20000 in
theorem k_338 : (Cond.fieldLink "BeamSetter$Group" (40 : Nat) "BeamSetter$Piece" "size" "I") ∈ TW := tw_in 338 (by decide +kernel) rfl
set_option maxRecDepth 20000 in
theorem k_339 : (Cond.fieldLink "BeamSetter$Reader" (78 : Nat) "BeamSetter$Piece" "size" "I") ∈ TW := tw_in 339 (by decide +kernel) rfl
set_option maxRecDepth 20000 in
theorem k_340 : (Cond.fieldLink "BeamSetter" (322 : Nat) "BeamSetter$Piece" "size" "I") ∈ TW := tw_in 340 (by decide +kernel) rfl
set_option maxRecDepth 20000 in
theorem k_341 : (Cond.fieldLink "BeamSetter$Piece" (18 : Nat) "BeamSetter$Piece" "kinds" "[I") ∈ TW := tw_in 341 (by decide +kernel) rfl
set_option maxRecDepth 20000 in
theorem k_342 : (Cond.fieldLink "BeamSetter" (106 : Nat) "BeamSetter$Piece" "kinds" "[I") ∈ TW := tw_in 342 (by decide +kernel) rfl
set_option maxRecDepth 20000 in
theorem k_343 : (Cond.fieldLink "BeamSetter$Piece" (21 : Nat) "BeamSetter$Piece" "sounds" "[Z") ∈ TW := tw_in 343 (by decide +kernel) rfl
set_option maxRecDepth 20000 in
theorem k_344 : (Cond.fieldLink "BeamSetter" (109 : Nat) "BeamSetter$Piece" "sounds" "[Z") ∈ TW := tw_in 344 (by decide +kernel) rfl
set_option maxRecDepth 20000 in
theorem k_345 : (Cond.fieldLink "BeamSetter$Piece" (25 : Nat) "BeamSetter$Piece" "heads" "[I") ∈ TW := tw_in 345 (by decide +kernel) rfl
set_option maxRecDepth 20000 in
theorem k_346 : (Cond.fieldLink "BeamSetter$Smoother" (45 : Nat) "BeamSetter$Piece" "heads" "[I") ∈ TW := tw_in 346 (by decide +kernel) rfl
set_option maxRecDepth 20000 in
theorem k_347 : (Cond.fieldLink "BeamSetter" (144 : Nat) "BeamSetter$Piece" "heads" "[I") ∈ TW := tw_in 347 (by decide +kernel) rfl
set_option maxRecDepth 20000 in
theorem k_348 : (Cond.fieldLink "BeamSetter$Piece" (28 : Nat) "BeamSetter$Piece" "times" "[I") ∈ TW := tw_in 348 (by decide +kernel) rfl
set_option maxRecDepth 20000 in
theorem k_349 : (Cond.fieldLink "BeamSetter$Piece" (31 : Nat) "BeamSetter$Piece" "xs" "[I") ∈ TW := tw_in 349 (by decide +kernel) rfl
set_option maxRecDepth 20000 in
theorem k_350 : (Cond.fieldLink "BeamSetter$Group" (57 : Nat) "BeamSetter$Piece" "xs" "[I") ∈ TW := tw_in 350 (by decide +kernel) rfl
set_option maxRecDepth 20000 in
theorem k_351 : (Cond.fieldLink "BeamSetter" (124 : Nat) "BeamSetter$Piece" "xs" "[I") ∈ TW := tw_in 351 (by decide +kernel) rfl
set_option maxRecDepth 20000 in
theorem k_352 : (Cond.fieldLink "BeamSetter$Piece" (34 : Nat) "BeamSetter$Piece" "groupOf" "[I") ∈ TW := tw_in 352 (by decide +kernel) rfl
set_option maxRecDepth 20000 in
theorem k_353 : (Cond.fieldLink "BeamSetter" (130 : Nat) "BeamSetter$Piece" "groupOf" "[I") ∈ TW := tw_in 353 (by decide +kernel) rfl
set_option maxRecDepth 20000 in
theorem k_354 : (Cond.fieldLink "BeamSetter$Smoother" (20 : Nat) "BeamSetter$Piece" "groups" "I") ∈ TW := tw_in 354 (by decide +kernel) rfl
set_option maxRecDepth 20000 in
theorem k_355 : (Cond.fieldLink "BeamSetter$Piece" (53 : Nat) "BeamSetter$Piece" "groups" "I") ∈ TW := tw_in 355 (by decide +kernel) rfl
set_option maxRecDepth 20000 in
theorem k_356 : (Cond.fieldLink "BeamSetter$Totals" (24 : Nat) "BeamSetter$Piece" "groups" "I") ∈ TW := tw_in 356 (by decide +kernel) rfl
set_option maxRecDepth 20000 in
theorem k_357 : (Cond.fieldLink "BeamSetter" (316 : Nat) "BeamSetter$Piece" "groups" "I") ∈ TW := tw_in 357 (by decide +kernel) rfl
set_option maxRecDepth 20000 in
theorem k_358 : (Cond.fieldLink "BeamSetter$Piece" (37 : Nat) "BeamSetter$Piece" "firsts" "[I") ∈ TW := tw_in 358 (by decide +kernel) rfl
set_option maxRecDepth 20000 in
theorem k_359 : (Cond.fieldLink "BeamSetter$Smoother" (48 : Nat) "BeamSetter$Piece" "firsts" "[I") ∈ TW := tw_in 359 (by decide +kernel) rfl
set_option maxRecDepth 20000 in
theorem k_360 : (Cond.fieldLink "BeamSetter$Totals" (29 : Nat) "BeamSetter$Piece" "firsts" "[I") ∈ TW := tw_in 360 (by decide +kernel) rfl
set_option maxRecDepth 20000 in
theorem k_361 : (Cond.fieldLink "BeamSetter" (179 : Nat) "BeamSetter$Piece" "firsts" "[I") ∈ TW := tw_in 361 (by decide +kernel) rfl
set_option maxRecDepth 20000 in
theorem k_362 : (Cond.fieldLink "BeamSetter$Piece" (40 : Nat) "BeamSetter$Piece" "lengths" "[I") ∈ TW := tw_in 362 (by decide +kernel) rfl
set_option maxRecDepth 20000 in
theorem k_363 : (Cond.fieldLink "BeamSetter$Smoother" (51 : Nat) "BeamSetter$Piece" "lengths" "[I") ∈ TW := tw_in 363 (by decide +kernel) rfl
set_option maxRecDepth 20000 in
theorem k_364 : (Cond.fieldLink "BeamSetter$Totals" (33 : Nat) "BeamSetter$Piece" "lengths" "[I") ∈ TW := tw_in 364 (by decide +kernel) rfl
set_option maxRecDepth 20000 in
theorem k_365 : (Cond.fieldLink "BeamSetter" (341 : Nat) "BeamSetter$Piece" "lengths" "[I") ∈ TW := tw_in 365 (by decide +kernel) rfl
set_option maxRecDepth 20000 in
theorem k_407 : (Cond.fieldLink "BeamSetter$Reader" (42 : Nat) "BeamSetter$Reader" "fault" "I") ∈ TW := tw_in 407 (by decide +kernel) rfl
set_option maxRecDepth 20000 in
theorem k_408 : (Cond.fieldLink "BeamSetter" (90 : Nat) "BeamSetter$Reader" "fault" "I") ∈ TW := tw_in 408 (by decide +kernel) rfl
set_option maxRecDepth 20000 in
theorem k_409 : (Cond.fieldLink "BeamSetter$Reader" (9 : Nat) "BeamSetter$Reader" "place" "I") ∈ TW := tw_in 409 (by decide +kernel) rfl
set_option maxRecDepth 20000 in
theorem k_410 : (Cond.fieldLink "BeamSetter" (93 : Nat) "BeamSetter$Reader" "place" "I") ∈ TW := tw_in 410 (by decide +kernel) rfl
set_option maxRecDepth 20000 in
theorem k_411 : (Cond.fieldLink "BeamSetter$Reader" (22 : Nat) "BeamSetter$Reader" "bytes" "[I") ∈ TW := tw_in 411 (by decide +kernel) rfl
set_option maxRecDepth 20000 in
theorem k_412 : (Cond.fieldLink "BeamSetter$Reader" (36 : Nat) "BeamSetter$Reader" "length" "I") ∈ TW := tw_in 412 (by decide +kernel) rfl
set_option maxRecDepth 20000 in
theorem k_413 : (Cond.fieldLink "BeamSetter$Reader" (39 : Nat) "BeamSetter$Reader" "at" "I") ∈ TW := tw_in 413 (by decide +kernel) rfl
set_option maxRecDepth 20000 in
theorem k_414 : (Cond.fieldLink "BeamSetter$Reader" (136 : Nat) "BeamSetter$Reader" "value" "I") ∈ TW := tw_in 414 (by decide +kernel) rfl
set_option maxRecDepth 20000 in
theorem k_415 : (Cond.fieldLink "BeamSetter$Reader" (130 : Nat) "BeamSetter$Reader" "start" "I") ∈ TW := tw_in 415 (by decide +kernel) rfl
set_option maxRecDepth 20000 in
theorem k_416 : (Cond.fieldLink "BeamSetter$Reader" (26 : Nat) "BeamSetter$Reader" "piece" "LBeamSetter$Piece;") ∈ TW := tw_in 416 (by decide +kernel) rfl
set_option maxRecDepth 20000 in
theorem k_417 : (Cond.fieldLink "BeamSetter$Reader" (15 : Nat) "BeamSetter$Reader" "told" "[Z") ∈ TW := tw_in 417 (by decide +kernel) rfl
set_option maxRecDepth 20000 in
theorem k_418 : (Cond.fieldLink "BeamSetter$Reader" (19 : Nat) "BeamSetter$Reader" "toldWide" "[Z") ∈ TW := tw_in 418 (by decide +kernel) rfl
set_option maxRecDepth 20000 in
theorem k_440 : (Cond.fieldLink "BeamSetter" (10 : Nat) "BeamSetter" "tape" "LBeamSetter$Tape;") ∈ TW := tw_in 440 (by decide +kernel) rfl
set_option maxRecDepth 20000 in
theorem k_441 : (Cond.fieldLink "BeamSetter" (66 : Nat) "BeamSetter" "reader" "LBeamSetter$Reader;") ∈ TW := tw_in 441 (by decide +kernel) rfl
set_option maxRecDepth 20000 in
theorem k_442 : (Cond.fieldLink "BeamSetter" (19 : Nat) "BeamSetter" "history" "LBeamSetter$History;") ∈ TW := tw_in 442 (by decide +kernel) rfl
set_option maxRecDepth 20000 in
theorem k_443 : (Cond.fieldLink "BeamSetter" (26 : Nat) "BeamSetter" "group" "LBeamSetter$Group;") ∈ TW := tw_in 443 (by decide +kernel) rfl
set_option maxRecDepth 20000 in
theorem k_444 : (Cond.fieldLink "BeamSetter" (33 : Nat) "BeamSetter" "totals" "LBeamSetter$Totals;") ∈ TW := tw_in 444 (by decide +kernel) rfl
set_option maxRecDepth 20000 in
theorem k_445 : (Cond.fieldLink "BeamSetter" (40 : Nat) "BeamSetter" "smoother" "LBeamSetter$Smoother;") ∈ TW := tw_in 445 (by decide +kernel) rfl
set_option maxRecDepth 20000 in
theorem k_446 : (Cond.fieldLink "BeamSetter" (46 : Nat) "BeamSetter" "tried" "[I") ∈ TW := tw_in 446 (by decide +kernel) rfl
set_option maxRecDepth 20000 in
theorem k_447 : (Cond.fieldLink "BeamSetter" (51 : Nat) "BeamSetter" "piece" "LBeamSetter$Piece;") ∈ TW := tw_in 447 (by decide +kernel) rfl
set_option maxRecDepth 20000 in
theorem k_448 : (Cond.fieldLink "BeamSetter" (55 : Nat) "BeamSetter" "spare" "LBeamSetter$Piece;") ∈ TW := tw_in 448 (by decide +kernel) rfl
set_option maxRecDepth 20000 in
theorem k_471 : (Cond.code ({ cls := "BeamSetter", name := "feed", desc := "(IIIII)I" } : MethodName) prog_1_method_2_code (6 : Nat) (some FieldType.int)) ∈ TW := tw_in 471 (by decide +kernel) rfl
set_option maxRecDepth 20000 in
theorem k_472 : (Cond.methodLink "BeamSetter" (70 : Nat) ({ cls := "BeamSetter$Tape", name := "hasRoomFor", desc := "(I)Z" } : MethodName)) ∈ TW := tw_in 472 (by decide +kernel) rfl
set_option maxRecDepth 20000 in
theorem k_473 : (Cond.instanceMethod ({ cls := "BeamSetter$Tape", name := "hasRoomFor", desc := "(I)Z" } : MethodName)) ∈ TW := tw_in 473 (by decide +kernel) rfl
set_option maxRecDepth 20000 in
theorem k_474 : (Cond.selects "BeamSetter$Tape" ({ cls := "BeamSetter$Tape", name := "hasRoomFor", desc := "(I)Z" } : MethodName) ({ cls := "BeamSetter$Tape", name := "hasRoomFor", desc := "(I)Z" } : MethodName)) ∈ TW := tw_in 474 (by decide +kernel) rfl
set_option maxRecDepth 20000 in
theorem k_475 : (Cond.code ({ cls := "BeamSetter$Tape", name := "hasRoomFor", desc := "(I)Z" } : MethodName) prog_7_method_2_code (2 : Nat) (some FieldType.boolean)) ∈ TW := tw_in 475 (by decide +kernel) rfl
set_option maxRecDepth 20000 in
theorem k_476 : (Cond.methodLink "BeamSetter" (74 : Nat) ({ cls := "BeamSetter$Tape", name := "append", desc := "(I)V" } : MethodName)) ∈ TW := tw_in 476 (by decide +kernel) rfl
set_option maxRecDepth 20000 in
theorem k_477 : (Cond.instanceMethod ({ cls := "BeamSetter$Tape", name := "append", desc := "(I)V" } : MethodName)) ∈ TW := tw_in 477 (by decide +kernel) rfl
set_option maxRecDepth 20000 in
theorem k_478 : (Cond.selects "BeamSetter$Tape" ({ cls := "BeamSetter$Tape", name := "append", desc := "(I)V" } : MethodName) ({ cls := "BeamSetter$Tape", name := "append", desc := "(I)V" } : MethodName)) ∈ TW := tw_in 478 (by decide +kernel) rfl
set_option maxRecDepth 20000 in
theorem k_479 : (Cond.code ({ cls := "BeamSetter$Tape", name := "append", desc := "(I)V" } : MethodName) prog_7_method_3_code (3 : Nat) (none : Option FieldType)) ∈ TW := tw_in 479 (by decide +kernel) rfl
set_option maxRecDepth 20000 in
theorem k_483 : (Cond.code ({ cls := "BeamSetter", name := "text", desc := "(I)I" } : MethodName) prog_1_method_3_code (3 : Nat) (some FieldType.int)) ∈ TW := tw_in 483 (by decide +kernel) rfl
set_option maxRecDepth 20000 in
theorem k_484 : (Cond.methodLink "BeamSetter" (82 : Nat) ({ cls := "BeamSetter$Reader", name := "read", desc := "(ILBeamSetter$Piece;)Z" } : MethodName)) ∈ TW := tw_in 484 (by decide +kernel) rfl
set_option maxRecDepth 20000 in
theorem k_485 : (Cond.instanceMethod ({ cls := "BeamSetter$Reader", name := "read", desc := "(ILBeamSetter$Piece;)Z" } : MethodName)) ∈ TW := tw_in 485 (by decide +kernel) rfl
set_option maxRecDepth 20000 in
theorem k_486 : (Cond.selects "BeamSetter$Reader" ({ cls := "BeamSetter$Reader", name := "read", desc := "(ILBeamSetter$Piece;)Z" } : MethodName) ({ cls := "BeamSetter$Reader", name := "read", desc := "(ILBeamSetter$Piece;)Z" } : MethodName)) ∈ TW := tw_in 486 (by decide +kernel) rfl
set_option maxRecDepth 20000 in
theorem k_487 : (Cond.code ({ cls := "BeamSetter$Reader", name := "read", desc := "(ILBeamSetter$Piece;)Z" } : MethodName) prog_5_method_2_code (4 : Nat) (some FieldType.boolean)) ∈ TW := tw_in 487 (by decide +kernel) rfl
set_option maxRecDepth 20000 in
theorem k_488 : (Cond.methodLink "BeamSetter$Reader" (30 : Nat) ({ cls := "java/lang/Math", name := "min", desc := "(II)I" } : MethodName)) ∈ TW := tw_in 488 (by decide +kernel) rfl
set_option maxRecDepth 20000 in
theorem k_489 : (Cond.methodLink "BeamSetter$Reader" (45 : Nat) ({ cls := "BeamSetter$Piece", name := "clear", desc := "()V" } : MethodName)) ∈ TW := tw_in 489 (by decide +kernel) rfl
set_option maxRecDepth 20000 in
theorem k_490 : (Cond.methodLink "BeamSetter$Reader" (50 : Nat) ({ cls := "BeamSetter$Reader", name := "forgetTold", desc := "()V" } : MethodName)) ∈ TW := tw_in 490 (by decide +kernel) rfl
set_option maxRecDepth 20000 in
theorem k_492 : (Cond.instanceMethod ({ cls := "BeamSetter$Reader", name := "forgetTold", desc := "()V" } : MethodName)) ∈ TW := tw_in 492 (by decide +kernel) rfl
set_option maxRecDepth 20000 in
theorem k_493 : (Cond.code ({ cls := "BeamSetter$Reader", name := "forgetTold", desc := "()V" } : MethodName) prog_5_method_3_code (2 : Nat) (none : Option FieldType)) ∈ TW := tw_in 493 (by decide +kernel) rfl
set_option maxRecDepth 20000 in
theorem k_494 : (Cond.methodLink "BeamSetter$Reader" (53 : Nat) ({ cls := "BeamSetter$Reader", name := "skipBlanks", desc := "()V" } : MethodName)) ∈ TW := tw_in 494 (by decide +kernel) rfl
set_option maxRecDepth 20000 in
theorem k_496 : (Cond.instanceMethod ({ cls := "BeamSetter$Reader", name := "skipBlanks", desc := "()V" } : MethodName)) ∈ TW := tw_in 496 (by decide +kernel) rfl
set_option maxRecDepth 20000 in
theorem k_497 : (Cond.code ({ cls := "BeamSetter$Reader", name := "skipBlanks", desc := "()V" } : MethodName) prog_5_method_8_code (1 : Nat) (none : Option FieldType)) ∈ TW := tw_in 497 (by decide +kernel) rfl
set_option maxRecDepth 20000 in
theorem k_498 : (Cond.methodLink "BeamSetter$Reader" (56 : Nat) ({ cls := "BeamSetter$Reader", name := "readLine", desc := "()Z" } : MethodName)) ∈ TW := tw_in 498 (by decide +kernel) rfl
set_option maxRecDepth 20000 in
theorem k_500 : (Cond.instanceMethod ({ cls := "BeamSetter$Reader", name := "readLine", desc := "()Z" } : MethodName)) ∈ TW := tw_in 500 (by decide +kernel) rfl
set_option maxRecDepth 20000 in
theorem k_501 : (Cond.code ({ cls := "BeamSetter$Reader", name := "readLine", desc := "()Z" } : MethodName) prog_5_method_9_code (4 : Nat) (some FieldType.boolean)) ∈ TW := tw_in 501 (by decide +kernel) rfl
set_option maxRecDepth 20000 in
theorem k_502 : (Cond.methodLink "BeamSetter$Reader" (66 : Nat) ({ cls := "BeamSetter$Reader", name := "takeWord", desc := "()I" } : MethodName)) ∈ TW := tw_in 502 (by decide +kernel) rfl
set_option maxRecDepth 20000 in
theorem k_504 : (Cond.instanceMethod ({ cls := "BeamSetter$Reader", name := "takeWord", desc := "()I" } : MethodName)) ∈ TW := tw_in 504 (by decide +kernel) rfl
set_option maxRecDepth 20000 in
theorem k_505 : (Cond.code ({ cls := "BeamSetter$Reader", name := "takeWord", desc := "()I" } : MethodName) prog_5_method_11_code (2 : Nat) (some FieldType.int)) ∈ TW := tw_in 505 (by decide +kernel) rfl
set_option maxRecDepth 20000 in
theorem k_506 : (Cond.methodLink "BeamSetter$Reader" (100 : Nat) ({ cls := "BeamSetter$Reader", name := "isLetterHere", desc := "()Z" } : MethodName)) ∈ TW := tw_in 506 (by decide +kernel) rfl
set_option maxRecDepth 20000 in
theorem k_508 : (Cond.instanceMethod ({ cls := "BeamSetter$Reader", name := "isLetterHere", desc := "()Z" } : MethodName)) ∈ TW := tw_in 508 (by decide +kernel) rfl
set_option maxRecDepth 20000 in
theorem k_509 : (Cond.code ({ cls := "BeamSetter$Reader", name := "isLetterHere", desc := "()Z" } : MethodName) prog_5_method_7_code (1 : Nat) (some FieldType.boolean)) ∈ TW := tw_in 509 (by decide +kernel) rfl
set_option maxRecDepth 20000 in
theorem k_511 : (Cond.methodLink "BeamSetter$Reader" (105 : Nat) ({ cls := "BeamSetter$Reader", name := "spells", desc := "(ILjava/lang/String;)Z" } : MethodName)) ∈ TW := tw_in 511 (by decide +kernel) rfl
set_option maxRecDepth 20000 in
theorem k_513 : (Cond.instanceMethod ({ cls := "BeamSetter$Reader", name := "spells", desc := "(ILjava/lang/String;)Z" } : MethodName)) ∈ TW := tw_in 513 (by decide +kernel) rfl
set_option maxRecDepth 20000 in
theorem k_514 : (Cond.code ({ cls := "BeamSetter$Reader", name := "spells", desc := "(ILjava/lang/String;)Z" } : MethodName) prog_5_method_12_code (4 : Nat) (some FieldType.boolean)) ∈ TW := tw_in 514 (by decide +kernel) rfl
set_option maxRecDepth 20000 in
theorem k_568 : (Cond.methodLink "BeamSetter$Reader" (70 : Nat) ({ cls := "BeamSetter$Reader", name := "isTooLate", desc := "(I)Z" } : MethodName)) ∈ TW := tw_in 568 (by decide +kernel) rfl
set_option maxRecDepth 20000 in
theorem k_570 : (Cond.instanceMethod ({ cls := "BeamSetter$Reader", name := "isTooLate", desc := "(I)Z" } : MethodName)) ∈ TW := tw_in 570 (by decide +kernel) rfl
set_option maxRecDepth 20000 in
theorem k_571 : (Cond.code ({ cls := "BeamSetter$Reader", name := "isTooLate", desc := "(I)Z" } : MethodName) prog_5_method_10_code (2 : Nat) (some FieldType.boolean)) ∈ TW := tw_in 571 (by decide +kernel) rfl
set_option maxRecDepth 20000 in
theorem k_572 : (Cond.methodLink "BeamSetter$Reader" (74 : Nat) ({ cls := "BeamSetter$Reader", name := "fail", desc := "(II)Z" } : MethodName)) ∈ TW := tw_in 572 (by decide +kernel) rfl
set_option maxRecDepth 20000 in
theorem k_574 : (Cond.instanceMethod ({ cls := "BeamSetter$Reader", name := "fail", desc := "(II)Z" } : MethodName)) ∈ TW := tw_in 574 (by decide +kernel) rfl
set_option maxRecDepth 20000 in
theorem k_575 : (Cond.code ({ cls := "BeamSetter$Reader", name := "fail", desc := "(II)Z" } : MethodName) prog_5_method_4_code (3 : Nat) (some FieldType.boolean)) ∈ TW := tw_in 575 (by decide +kernel) rfl
set_option maxRecDepth 20000 in
theorem k_576 : (Cond.methodLink "BeamSetter$Reader" (81 : Nat) ({ cls := "BeamSetter$Reader", name := "readMetre", desc := "()Z" } : MethodName)) ∈ TW := tw_in 576 (by decide +kernel) rfl
set_option maxRecDepth 20000 in
theorem k_578 : (Cond.instanceMethod ({ cls := "BeamSetter$Reader", name := "readMetre", desc := "()Z" } : MethodName)) ∈ TW := tw_in 578 (by decide +kernel) rfl
set_option maxRecDepth 20000 in
theorem k_579 : (Cond.code ({ cls := "BeamSetter$Reader", name := "readMetre", desc := "()Z" } : MethodName) prog_5_method_18_code (2 : Nat) (some FieldType.boolean)) ∈ TW := tw_in 579 (by decide +kernel) rfl
set_option maxRecDepth 20000 in
theorem k_580 : (Cond.methodLink "BeamSetter$Reader" (146 : Nat) ({ cls := "BeamSetter$Reader", name := "takeNumberWithin", desc := "(II)Z" } : MethodName)) ∈ TW := tw_in 580 (by decide +kernel) rfl
set_option maxRecDepth 20000 in
theorem k_582 : (Cond.instanceMethod ({ cls := "BeamSetter$Reader", name := "takeNumberWithin", desc := "(II)Z" } : MethodName)) ∈ TW := tw_in 582 (by decide +kernel) rfl
set_option maxRecDepth 20000 in
theorem k_583 : (Cond.code ({ cls := "BeamSetter$Reader", name := "takeNumberWithin", desc := "(II)Z" } : MethodName) prog_5_method_15_code (3 : Nat) (some FieldType.boolean)) ∈ TW := tw_in 583 (by decide +kernel) rfl
set_option maxRecDepth 20000 in
theorem k_584 : (Cond.methodLink "BeamSetter$Reader" (140 : Nat) ({ cls := "BeamSetter$Reader", name := "takeNumber", desc := "()Z" } : MethodName)) ∈ TW := tw_in 584 (by decide +kernel) rfl
set_option maxRecDepth 20000 in
theorem k_586 : (Cond.instanceMethod ({ cls := "BeamSetter$Reader", name := "takeNumber", desc := "()Z" } : MethodName)) ∈ TW := tw_in 586 (by decide +kernel) rfl
set_option maxRecDepth 20000 in
theorem k_587 : (Cond.code ({ cls := "BeamSetter$Reader", name := "takeNumber", desc := "()Z" } : MethodName) prog_5_method_14_code (1 : Nat) (some FieldType.boolean)) ∈ TW := tw_in 587 (by decide +kernel) rfl
set_option maxRecDepth 20000 in
theorem k_588 : (Cond.methodLink "BeamSetter$Reader" (133 : Nat) ({ cls := "BeamSetter$Reader", name := "isDigitHere", desc := "()Z" } : MethodName)) ∈ TW := tw_in 588 (by decide +kernel) rfl
set_option maxRecDepth 20000 in
theorem k_590 : (Cond.instanceMethod ({ cls := "BeamSetter$Reader", name := "isDigitHere", desc := "()Z" } : MethodName)) ∈ TW := tw_in 590 (by decide +kernel) rfl
set_option maxRecDepth 20000 in
theorem k_591 : (Cond.code ({ cls := "BeamSetter$Reader", name := "isDigitHere", desc := "()Z" } : MethodName) prog_5_method_6_code (1 : Nat) (some FieldType.boolean)) ∈ TW := tw_in 591 (by decide +kernel) rfl
set_option maxRecDepth 20000 in
theorem k_592 : (Cond.constant "BeamSetter$Reader" (139 : Nat) (100000 : Int32)) ∈ TW := tw_in 592 (by decide +kernel) rfl
set_option maxRecDepth 20000 in
theorem k_593 : (Cond.methodLink "BeamSetter$Reader" (149 : Nat) ({ cls := "BeamSetter$Piece", name := "setMetre", desc := "(II)V" } : MethodName)) ∈ TW := tw_in 593 (by decide +kernel) rfl
set_option maxRecDepth 20000 in
theorem k_594 : (Cond.methodLink "BeamSetter$Reader" (84 : Nat) ({ cls := "BeamSetter$Reader", name := "readSplit", desc := "()Z" } : MethodName)) ∈ TW := tw_in 594 (by decide +kernel) rfl
set_option maxRecDepth 20000 in
theorem k_596 : (Cond.instanceMethod ({ cls := "BeamSetter$Reader", name := "readSplit", desc := "()Z" } : MethodName)) ∈ TW := tw_in 596 (by decide +kernel) rfl
set_option maxRecDepth 20000 in
theorem k_597 : (Cond.code ({ cls := "BeamSetter$Reader", name := "readSplit", desc := "()Z" } : MethodName) prog_5_method_19_code (4 : Nat) (some FieldType.boolean)) ∈ TW := tw_in 597 (by decide +kernel) rfl
set_option maxRecDepth 20000 in
theorem k_598 : (Cond.methodLink "BeamSetter$Reader" (127 : Nat) ({ cls := "BeamSetter$Reader", name := "here", desc := "()I" } : MethodName)) ∈ TW := tw_in 598 (by decide +kernel) rfl
set_option maxRecDepth 20000 in
theorem k_600 : (Cond.instanceMethod ({ cls := "BeamSetter$Reader", name := "here", desc := "()I" } : MethodName)) ∈ TW := tw_in 600 (by decide +kernel) rfl
set_option maxRecDepth 20000 in
theorem k_601 : (Cond.code ({ cls := "BeamSetter$Reader", name := "here", desc := "()I" } : MethodName) prog_5_method_5_code (1 : Nat) (some FieldType.int)) ∈ TW := tw_in 601 (by decide +kernel) rfl
set_option maxRecDepth 20000 in
theorem k_602 : (Cond.methodLink "BeamSetter$Reader" (87 : Nat) ({ cls := "BeamSetter$Reader", name := "readKnee", desc := "()Z" } : MethodName)) ∈ TW := tw_in 602 (by decide +kernel) rfl
set_option maxRecDepth 20000 in
theorem k_604 : (Cond.instanceMethod ({ cls := "BeamSetter$Reader", name := "readKnee", desc := "()Z" } : MethodName)) ∈ TW := tw_in 604 (by decide +kernel) rfl
set_option maxRecDepth 20000 in
theorem k_605 : (Cond.code ({ cls := "BeamSetter$Reader", name := "readKnee", desc := "()Z" } : MethodName) prog_5_method_20_code (1 : Nat) (some FieldType.boolean)) ∈ TW := tw_in 605 (by decide +kernel) rfl
set_option maxRecDepth 20000 in
theorem k_606 : (Cond.methodLink "BeamSetter$Reader" (90 : Nat) ({ cls := "BeamSetter$Reader", name := "readWide", desc := "()Z" } : MethodName)) ∈ TW := tw_in 606 (by decide +kernel) rfl
set_option maxRecDepth 20000 in
theorem k_608 : (Cond.instanceMethod ({ cls := "BeamSetter$Reader", name := "readWide", desc := "()Z" } : MethodName)) ∈ TW := tw_in 608 (by decide +kernel) rfl
set_option maxRecDepth 20000 in
theorem k_609 : (Cond.code ({ cls := "BeamSetter$Reader", name := "readWide", desc := "()Z" } : MethodName) prog_5_method_21_code (2 : Nat) (some FieldType.boolean)) ∈ TW := tw_in 609 (by decide +kernel) rfl
set_option maxRecDepth 20000 in
theorem k_610 : (Cond.methodLink "BeamSetter$Reader" (164 : Nat) ({ cls := "BeamSetter$Reader", name := "takeKind", desc := "()Z" } : MethodName)) ∈ TW := tw_in 610 (by decide +kernel) rfl
set_option maxRecDepth 20000 in
theorem k_612 : (Cond.instanceMethod ({ cls := "BeamSetter$Reader", name := "takeKind", desc := "()Z" } : MethodName)) ∈ TW := tw_in 612 (by decide +kernel) rfl
set_option maxRecDepth 20000 in
theorem k_613 : (Cond.code ({ cls := "BeamSetter$Reader", name := "takeKind", desc := "()Z" } : MethodName) prog_5_method_16_code (1 : Nat) (some FieldType.boolean)) ∈ TW := tw_in 613 (by decide +kernel) rfl
set_option maxRecDepth 20000 in
theorem k_614 : (Cond.methodLink "BeamSetter$Reader" (143 : Nat) ({ cls := "BeamSetter$Piece", name := "isKind", desc := "(I)Z" } : MethodName)) ∈ TW := tw_in 614 (by decide +kernel) rfl
set_option maxRecDepth 20000 in
theorem k_615 : (Cond.static ({ cls := "BeamSetter$Piece", name := "isKind", desc := "(I)Z" } : MethodName)) ∈ TW := tw_in 615 (by decide +kernel) rfl
set_option maxRecDepth 20000 in
theorem k_616 : (Cond.code ({ cls := "BeamSetter$Piece", name := "isKind", desc := "(I)Z" } : MethodName) prog_4_method_4_code (1 : Nat) (some FieldType.boolean)) ∈ TW := tw_in 616 (by decide +kernel) rfl
set_option maxRecDepth 20000 in
theorem k_617 : (Cond.methodLink "BeamSetter$Reader" (167 : Nat) ({ cls := "BeamSetter$Piece", name := "beamsOfKind", desc := "(I)I" } : MethodName)) ∈ TW := tw_in 617 (by decide +kernel) rfl
set_option maxRecDepth 20000 in
theorem k_618 : (Cond.static ({ cls := "BeamSetter$Piece", name := "beamsOfKind", desc := "(I)I" } : MethodName)) ∈ TW := tw_in 618 (by decide +kernel) rfl
set_option maxRecDepth 20000 in
theorem k_619 : (Cond.code ({ cls := "BeamSetter$Piece", name := "beamsOfKind", desc := "(I)I" } : MethodName) prog_4_method_5_code (1 : Nat) (some FieldType.int)) ∈ TW := tw_in 619 (by decide +kernel) rfl
set_option maxRecDepth 20000 in
theorem k_620 : (Cond.methodLink "BeamSetter$Reader" (93 : Nat) ({ cls := "BeamSetter$Reader", name := "readElement", desc := "(Z)Z" } : MethodName)) ∈ TW := tw_in 620 (by decide +kernel) rfl
set_option maxRecDepth 20000 in
theorem k_622 : (Cond.instanceMethod ({ cls := "BeamSetter$Reader", name := "readElement", desc := "(Z)Z" } : MethodName)) ∈ TW := tw_in 622 (by decide +kernel) rfl
set_option maxRecDepth 20000 in
theorem k_623 : (Cond.code ({ cls := "BeamSetter$Reader", name := "readElement", desc := "(Z)Z" } : MethodName) prog_5_method_22_code (3 : Nat) (some FieldType.boolean)) ∈ TW := tw_in 623 (by decide +kernel) rfl
set_option maxRecDepth 20000 in
theorem k_624 : (Cond.methodLink "BeamSetter$Reader" (174 : Nat) ({ cls := "BeamSetter$Piece", name := "fits", desc := "(I)Z" } : MethodName)) ∈ TW := tw_in 624 (by decide +kernel) rfl
set_option maxRecDepth 20000 in
theorem k_625 : (Cond.instanceMethod ({ cls := "BeamSetter$Piece", name := "fits", desc := "(I)Z" } : MethodName)) ∈ TW := tw_in 625 (by decide +kernel) rfl
set_option maxRecDepth 20000 in
theorem k_626 : (Cond.selects "BeamSetter$Piece" ({ cls := "BeamSetter$Piece", name := "fits", desc := "(I)Z" } : MethodName) ({ cls := "BeamSetter$Piece", name := "fits", desc := "(I)Z" } : MethodName)) ∈ TW := tw_in 626 (by decide +kernel) rfl
set_option maxRecDepth 20000 in
theorem k_627 : (Cond.code ({ cls := "BeamSetter$Piece", name := "fits", desc := "(I)Z" } : MethodName) prog_4_method_11_code (2 : Nat) (some FieldType.boolean)) ∈ TW := tw_in 627 (by decide +kernel) rfl
set_option maxRecDepth 20000 in
theorem k_628 : (Cond.methodLink "BeamSetter$Piece" (92 : Nat) ({ cls := "BeamSetter$Piece", name := "timeOfNext", desc := "()I" } : MethodName)) ∈ TW := tw_in 628 (by decide +kernel) rfl
set_option maxRecDepth 20000 in
theorem k_630 : (Cond.instanceMethod ({ cls := "BeamSetter$Piece", name := "timeOfNext", desc := "()I" } : MethodName)) ∈ TW := tw_in 630 (by decide +kernel) rfl
set_option maxRecDepth 20000 in
theorem k_631 : (Cond.code ({ cls := "BeamSetter$Piece", name := "timeOfNext", desc := "()I" } : MethodName) prog_4_method_9_code (1 : Nat) (some FieldType.int)) ∈ TW := tw_in 631 (by decide +kernel) rfl
set_option maxRecDepth 20000 in
theorem k_632 : (Cond.methodLink "BeamSetter$Piece" (89 : Nat) ({ cls := "BeamSetter$Piece", name := "longOfKind", desc := "(I)I" } : MethodName)) ∈ TW := tw_in 632 (by decide +kernel) rfl
set_option maxRecDepth 20000 in
theorem k_633 : (Cond.static ({ cls := "BeamSetter$Piece", name := "longOfKind", desc := "(I)I" } : MethodName)) ∈ TW := tw_in 633 (by decide +kernel) rfl
set_option maxRecDepth 20000 in
theorem k_634 : (Cond.code ({ cls := "BeamSetter$Piece", name := "longOfKind", desc := "(I)I" } : MethodName) prog_4_method_6_code (1 : Nat) (some FieldType.int)) ∈ TW := tw_in 634 (by decide +kernel) rfl
set_option maxRecDepth 20000 in
theorem k_635 : (Cond.methodLink "BeamSetter$Piece" (78 : Nat) ({ cls := "BeamSetter$Piece", name := "beamsOfKind", desc := "(I)I" } : MethodName)) ∈ TW := tw_in 635 (by decide +kernel) rfl
set_option maxRecDepth 20000 in
theorem k_636 : (Cond.methodLink "BeamSetter$Piece" (95 : Nat) ({ cls := "BeamSetter$Piece", name := "measureLong", desc := "()I" } : MethodName)) ∈ TW := tw_in 636 (by decide +kernel) rfl
set_option maxRecDepth 20000 in
theorem k_638 : (Cond.instanceMethod ({ cls := "BeamSetter$Piece", name := "measureLong", desc := "()I" } : MethodName)) ∈ TW := tw_in 638 (by decide +kernel) rfl
set_option maxRecDepth 20000 in
theorem k_639 : (Cond.code ({ cls := "BeamSetter$Piece", name := "measureLong", desc := "()I" } : MethodName) prog_4_method_8_code (1 : Nat) (some FieldType.int)) ∈ TW := tw_in 639 (by decide +kernel) rfl
set_option maxRecDepth 20000 in
theorem k_640 : (Cond.methodLink "BeamSetter$Piece" (82 : Nat) ({ cls := "BeamSetter$Piece", name := "beatLong", desc := "()I" } : MethodName)) ∈ TW := tw_in 640 (by decide +kernel) rfl
set_option maxRecDepth 20000 in
theorem k_642 : (Cond.instanceMethod ({ cls := "BeamSetter$Piece", name := "beatLong", desc := "()I" } : MethodName)) ∈ TW := tw_in 642 (by decide +kernel) rfl
set_option maxRecDepth 20000 in
theorem k_643 : (Cond.code ({ cls := "BeamSetter$Piece", name := "beatLong", desc := "()I" } : MethodName) prog_4_method_7_code (1 : Nat) (some FieldType.int)) ∈ TW := tw_in 643 (by decide +kernel) rfl
set_option maxRecDepth 20000 in
theorem k_644 : (Cond.methodLink "BeamSetter$Piece" (86 : Nat) ({ cls := "java/lang/Math", name := "max", desc := "(II)I" } : MethodName)) ∈ TW := tw_in 644 (by decide +kernel) rfl
set_option maxRecDepth 20000 in
theorem k_645 : (Cond.static ({ cls := "java/lang/Math", name := "max", desc := "(II)I" } : MethodName)) ∈ TW := tw_in 645 (by decide +kernel) rfl
set_option maxRecDepth 20000 in
theorem k_646 : (Cond.code ({ cls := "java/lang/Math", name := "max", desc := "(II)I" } : MethodName) prog_16_method_65_code (2 : Nat) (some FieldType.int)) ∈ TW := tw_in 646 (by decide +kernel) rfl
set_option maxRecDepth 20000 in
theorem k_647 : (Cond.methodLink "BeamSetter$Reader" (177 : Nat) ({ cls := "BeamSetter$Reader", name := "takePosition", desc := "()Z" } : MethodName)) ∈ TW := tw_in 647 (by decide +kernel) rfl
set_option maxRecDepth 20000 in
theorem k_649 : (Cond.instanceMethod ({ cls := "BeamSetter$Reader", name := "takePosition", desc := "()Z" } : MethodName)) ∈ TW := tw_in 649 (by decide +kernel) rfl
set_option maxRecDepth 20000 in
theorem k_650 : (Cond.code ({ cls := "BeamSetter$Reader", name := "takePosition", desc := "()Z" } : MethodName) prog_5_method_17_code (3 : Nat) (some FieldType.boolean)) ∈ TW := tw_in 650 (by decide +kernel) rfl
set_option maxRecDepth 20000 in
theorem k_651 : (Cond.methodLink "BeamSetter$Reader" (180 : Nat) ({ cls := "BeamSetter$Piece", name := "add", desc := "(ZII)V" } : MethodName)) ∈ TW := tw_in 651 (by decide +kernel) rfl
set_option maxRecDepth 20000 in
theorem k_652 : (Cond.instanceMethod ({ cls := "BeamSetter$Piece", name := "add", desc := "(ZII)V" } : MethodName)) ∈ TW := tw_in 652 (by decide +kernel) rfl
set_option maxRecDepth 20000 in
theorem k_653 : (Cond.selects "BeamSetter$Piece" ({ cls := "BeamSetter$Piece", name := "add", desc := "(ZII)V" } : MethodName) ({ cls := "BeamSetter$Piece", name := "add", desc := "(ZII)V" } : MethodName)) ∈ TW := tw_in 653 (by decide +kernel) rfl
set_option maxRecDepth 20000 in
theorem k_654 : (Cond.code ({ cls := "BeamSetter$Piece", name := "add", desc := "(ZII)V" } : MethodName) prog_4_method_12_code (6 : Nat) (none : Option FieldType)) ∈ TW := tw_in 654 (by decide +kernel) rfl
set_option maxRecDepth 20000 in
theorem k_655 : (Cond.methodLink "BeamSetter$Piece" (98 : Nat) ({ cls := "BeamSetter$Piece", name := "xOfNext", desc := "()I" } : MethodName)) ∈ TW := tw_in 655 (by decide +kernel) rfl
set_option maxRecDepth 20000 in
theorem k_657 : (Cond.instanceMethod ({ cls := "BeamSetter$Piece", name := "xOfNext", desc := "()I" } : MethodName)) ∈ TW := tw_in 657 (by decide +kernel) rfl
set_option maxRecDepth 20000 in
theorem k_658 : (Cond.code ({ cls := "BeamSetter$Piece", name := "xOfNext", desc := "()I" } : MethodName) prog_4_method_10_code (1 : Nat) (some FieldType.int)) ∈ TW := tw_in 658 (by decide +kernel) rfl
set_option maxRecDepth 20000 in
theorem k_659 : (Cond.methodLink "BeamSetter$Reader" (97 : Nat) ({ cls := "BeamSetter$Reader", name := "takeEnd", desc := "()Z" } : MethodName)) ∈ TW := tw_in 659 (by decide +kernel) rfl
set_option maxRecDepth 20000 in
theorem k_661 : (Cond.instanceMethod ({ cls := "BeamSetter$Reader", name := "takeEnd", desc := "()Z" } : MethodName)) ∈ TW := tw_in 661 (by decide +kernel) rfl
set_option maxRecDepth 20000 in
theorem k_662 : (Cond.code ({ cls := "BeamSetter$Reader", name := "takeEnd", desc := "()Z" } : MethodName) prog_5_method_13_code (1 : Nat) (some FieldType.boolean)) ∈ TW := tw_in 662 (by decide +kernel) rfl
set_option maxRecDepth 20000 in
theorem k_663 : (Cond.methodLink "BeamSetter$Reader" (63 : Nat) ({ cls := "BeamSetter$Piece", name := "findGroups", desc := "()V" } : MethodName)) ∈ TW := tw_in 663 (by decide +kernel) rfl
set_option maxRecDepth 20000 in
theorem k_664 : (Cond.instanceMethod ({ cls := "BeamSetter$Piece", name := "findGroups", desc := "()V" } : MethodName)) ∈ TW := tw_in 664 (by decide +kernel) rfl
set_option maxRecDepth 20000 in
theorem k_665 : (Cond.selects "BeamSetter$Piece" ({ cls := "BeamSetter$Piece", name := "findGroups", desc := "()V" } : MethodName) ({ cls := "BeamSetter$Piece", name := "findGroups", desc := "()V" } : MethodName)) ∈ TW := tw_in 665 (by decide +kernel) rfl
set_option maxRecDepth 20000 in
theorem k_666 : (Cond.code ({ cls := "BeamSetter$Piece", name := "findGroups", desc := "()V" } : MethodName) prog_4_method_19_code (4 : Nat) (none : Option FieldType)) ∈ TW := tw_in 666 (by decide +kernel) rfl
set_option maxRecDepth 20000 in
theorem k_667 : (Cond.methodLink "BeamSetter$Piece" (113 : Nat) ({ cls := "BeamSetter$Piece", name := "runFrom", desc := "(II)I" } : MethodName)) ∈ TW := tw_in 667 (by decide +kernel) rfl
set_option maxRecDepth 20000 in
theorem k_669 : (Cond.instanceMethod ({ cls := "BeamSetter$Piece", name := "runFrom", desc := "(II)I" } : MethodName)) ∈ TW := tw_in 669 (by decide +kernel) rfl
set_option maxRecDepth 20000 in
theorem k_670 : (Cond.code ({ cls := "BeamSetter$Piece", name := "runFrom", desc := "(II)I" } : MethodName) prog_4_method_17_code (4 : Nat) (some FieldType.int)) ∈ TW := tw_in 670 (by decide +kernel) rfl
set_option maxRecDepth 20000 in
theorem k_671 : (Cond.methodLink "BeamSetter$Piece" (104 : Nat) ({ cls := "BeamSetter$Piece", name := "beamsOf", desc := "(I)I" } : MethodName)) ∈ TW := tw_in 671 (by decide +kernel) rfl
set_option maxRecDepth 20000 in
theorem k_672 : (Cond.instanceMethod ({ cls := "BeamSetter$Piece", name := "beamsOf", desc := "(I)I" } : MethodName)) ∈ TW := tw_in 672 (by decide +kernel) rfl
set_option maxRecDepth 20000 in
theorem k_673 : (Cond.selects "BeamSetter$Piece" ({ cls := "BeamSetter$Piece", name := "beamsOf", desc := "(I)I" } : MethodName) ({ cls := "BeamSetter$Piece", name := "beamsOf", desc := "(I)I" } : MethodName)) ∈ TW := tw_in 673 (by decide +kernel) rfl
set_option maxRecDepth 20000 in
theorem k_674 : (Cond.code ({ cls := "BeamSetter$Piece", name := "beamsOf", desc := "(I)I" } : MethodName) prog_4_method_16_code (2 : Nat) (some FieldType.int)) ∈ TW := tw_in 674 (by decide +kernel) rfl
set_option maxRecDepth 20000 in
theorem k_675 : (Cond.methodLink "BeamSetter$Piece" (107 : Nat) ({ cls := "BeamSetter$Piece", name := "measureOf", desc := "(I)I" } : MethodName)) ∈ TW := tw_in 675 (by decide +kernel) rfl
set_option maxRecDepth 20000 in
theorem k_676 : (Cond.instanceMethod ({ cls := "BeamSetter$Piece", name := "measureOf", desc := "(I)I" } : MethodName)) ∈ TW := tw_in 676 (by decide +kernel) rfl
set_option maxRecDepth 20000 in
theorem k_677 : (Cond.selects "BeamSetter$Piece" ({ cls := "BeamSetter$Piece", name := "measureOf", desc := "(I)I" } : MethodName) ({ cls := "BeamSetter$Piece", name := "measureOf", desc := "(I)I" } : MethodName)) ∈ TW := tw_in 677 (by decide +kernel) rfl
set_option maxRecDepth 20000 in
theorem k_678 : (Cond.code ({ cls := "BeamSetter$Piece", name := "measureOf", desc := "(I)I" } : MethodName) prog_4_method_14_code (2 : Nat) (some FieldType.int)) ∈ TW := tw_in 678 (by decide +kernel) rfl
set_option maxRecDepth 20000 in
theorem k_679 : (Cond.methodLink "BeamSetter$Piece" (110 : Nat) ({ cls := "BeamSetter$Piece", name := "partOf", desc := "(II)I" } : MethodName)) ∈ TW := tw_in 679 (by decide +kernel) rfl
set_option maxRecDepth 20000 in
theorem k_680 : (Cond.instanceMethod ({ cls := "BeamSetter$Piece", name := "partOf", desc := "(II)I" } : MethodName)) ∈ TW := tw_in 680 (by decide +kernel) rfl
set_option maxRecDepth 20000 in
theorem k_681 : (Cond.selects "BeamSetter$Piece" ({ cls := "BeamSetter$Piece", name := "partOf", desc := "(II)I" } : MethodName) ({ cls := "BeamSetter$Piece", name := "partOf", desc := "(II)I" } : MethodName)) ∈ TW := tw_in 681 (by decide +kernel) rfl
set_option maxRecDepth 20000 in
theorem k_682 : (Cond.code ({ cls := "BeamSetter$Piece", name := "partOf", desc := "(II)I" } : MethodName) prog_4_method_15_code (6 : Nat) (some FieldType.int)) ∈ TW := tw_in 682 (by decide +kernel) rfl
set_option maxRecDepth 20000 in
theorem k_683 : (Cond.methodLink "BeamSetter$Piece" (101 : Nat) ({ cls := "BeamSetter$Piece", name := "timeWithin", desc := "(I)I" } : MethodName)) ∈ TW := tw_in 683 (by decide +kernel) rfl
set_option maxRecDepth 20000 in
theorem k_684 : (Cond.instanceMethod ({ cls := "BeamSetter$Piece", name := "timeWithin", desc := "(I)I" } : MethodName)) ∈ TW := tw_in 684 (by decide +kernel) rfl
set_option maxRecDepth 20000 in
theorem k_685 : (Cond.selects "BeamSetter$Piece" ({ cls := "BeamSetter$Piece", name := "timeWithin", desc := "(I)I" } : MethodName) ({ cls := "BeamSetter$Piece", name := "timeWithin", desc := "(I)I" } : MethodName)) ∈ TW := tw_in 685 (by decide +kernel) rfl
set_option maxRecDepth 20000 in
theorem k_686 : (Cond.code ({ cls := "BeamSetter$Piece", name := "timeWithin", desc := "(I)I" } : MethodName) prog_4_method_13_code (2 : Nat) (some FieldType.int)) ∈ TW := tw_in 686 (by decide +kernel) rfl
set_option maxRecDepth 20000 in
theorem k_691 : (Cond.code ({ cls := "BeamSetter", name := "fault", desc := "(I)I" } : MethodName) prog_1_method_4_code (2 : Nat) (some FieldType.int)) ∈ TW := tw_in 691 (by decide +kernel) rfl
set_option maxRecDepth 20000 in
theorem k_695 : (Cond.code ({ cls := "BeamSetter", name := "position", desc := "(I)I" } : MethodName) prog_1_method_6_code (2 : Nat) (some FieldType.int)) ∈ TW := tw_in 695 (by decide +kernel) rfl
set_option maxRecDepth 20000 in
theorem k_696 : (Cond.methodLink "BeamSetter" (141 : Nat) ({ cls := "BeamSetter", name := "isNote", desc := "(I)Z" } : MethodName)) ∈ TW := tw_in 696 (by decide +kernel) rfl
set_option maxRecDepth 20000 in
theorem k_698 : (Cond.instanceMethod ({ cls := "BeamSetter", name := "isNote", desc := "(I)Z" } : MethodName)) ∈ TW := tw_in 698 (by decide +kernel) rfl
set_option maxRecDepth 20000 in
theorem k_699 : (Cond.code ({ cls := "BeamSetter", name := "isNote", desc := "(I)Z" } : MethodName) prog_1_method_40_code (2 : Nat) (some FieldType.boolean)) ∈ TW := tw_in 699 (by decide +kernel) rfl
set_option maxRecDepth 20000 in
theorem k_700 : (Cond.methodLink "BeamSetter" (96 : Nat) ({ cls := "BeamSetter", name := "isElement", desc := "(I)Z" } : MethodName)) ∈ TW := tw_in 700 (by decide +kernel) rfl
set_option maxRecDepth 20000 in
theorem k_702 : (Cond.instanceMethod ({ cls := "BeamSetter", name := "isElement", desc := "(I)Z" } : MethodName)) ∈ TW := tw_in 702 (by decide +kernel) rfl
set_option maxRecDepth 20000 in
theorem k_703 : (Cond.code ({ cls := "BeamSetter", name := "isElement", desc := "(I)Z" } : MethodName) prog_1_method_39_code (2 : Nat) (some FieldType.boolean)) ∈ TW := tw_in 703 (by decide +kernel) rfl
set_option maxRecDepth 20000 in
theorem k_704 : (Cond.constant "BeamSetter" (147 : Nat) (-1000000 : Int32)) ∈ TW := tw_in 704 (by decide +kernel) rfl
set_option maxRecDepth 20000 in
theorem k_708 : (Cond.code ({ cls := "BeamSetter", name := "direction", desc := "(I)I" } : MethodName) prog_1_method_7_code (2 : Nat) (some FieldType.int)) ∈ TW := tw_in 708 (by decide +kernel) rfl
set_option maxRecDepth 20000 in
theorem k_709 : (Cond.methodLink "BeamSetter" (127 : Nat) ({ cls := "BeamSetter", name := "isGrouped", desc := "(I)Z" } : MethodName)) ∈ TW := tw_in 709 (by decide +kernel) rfl
set_option maxRecDepth 20000 in
theorem k_711 : (Cond.instanceMethod ({ cls := "BeamSetter", name := "isGrouped", desc := "(I)Z" } : MethodName)) ∈ TW := tw_in 711 (by decide +kernel) rfl
set_option maxRecDepth 20000 in
theorem k_712 : (Cond.code ({ cls := "BeamSetter", name := "isGrouped", desc := "(I)Z" } : MethodName) prog_1_method_41_code (2 : Nat) (some FieldType.boolean)) ∈ TW := tw_in 712 (by decide +kernel) rfl
set_option maxRecDepth 20000 in
theorem k_713 : (Cond.methodLink "BeamSetter" (151 : Nat) ({ cls := "BeamSetter", name := "loadAround", desc := "(I)I" } : MethodName)) ∈ TW := tw_in 713 (by decide +kernel) rfl
set_option maxRecDepth 20000 in
theorem k_715 : (Cond.instanceMethod ({ cls := "BeamSetter", name := "loadAround", desc := "(I)I" } : MethodName)) ∈ TW := tw_in 715 (by decide +kernel) rfl
set_option maxRecDepth 20000 in
theorem k_716 : (Cond.code ({ cls := "BeamSetter", name := "loadAround", desc := "(I)I" } : MethodName) prog_1_method_47_code (3 : Nat) (some FieldType.int)) ∈ TW := tw_in 716 (by decide +kernel) rfl
set_option maxRecDepth 20000 in
theorem k_717 : (Cond.methodLink "BeamSetter" (176 : Nat) ({ cls := "BeamSetter", name := "load", desc := "(I)V" } : MethodName)) ∈ TW := tw_in 717 (by decide +kernel) rfl
set_option maxRecDepth 20000 in
theorem k_719 : (Cond.instanceMethod ({ cls := "BeamSetter", name := "load", desc := "(I)V" } : MethodName)) ∈ TW := tw_in 719 (by decide +kernel) rfl
set_option maxRecDepth 20000 in
theorem k_720 : (Cond.code ({ cls := "BeamSetter", name := "load", desc := "(I)V" } : MethodName) prog_1_method_45_code (2 : Nat) (none : Option FieldType)) ∈ TW := tw_in 720 (by decide +kernel) rfl
set_option maxRecDepth 20000 in
theorem k_721 : (Cond.methodLink "BeamSetter" (382 : Nat) ({ cls := "BeamSetter$Group", name := "load", desc := "(LBeamSetter$Piece;[IIII)V" } : MethodName)) ∈ TW := tw_in 721 (by decide +kernel) rfl
set_option maxRecDepth 20000 in
theorem k_722 : (Cond.instanceMethod ({ cls := "BeamSetter$Group", name := "load", desc := "(LBeamSetter$Piece;[IIII)V" } : MethodName)) ∈ TW := tw_in 722 (by decide +kernel) rfl
set_option maxRecDepth 20000 in
theorem k_723 : (Cond.selects "BeamSetter$Group" ({ cls := "BeamSetter$Group", name := "load", desc := "(LBeamSetter$Piece;[IIII)V" } : MethodName) ({ cls := "BeamSetter$Group", name := "load", desc := "(LBeamSetter$Piece;[IIII)V" } : MethodName)) ∈ TW := tw_in 723 (by decide +kernel) rfl
set_option maxRecDepth 20000 in
theorem k_724 : (Cond.code ({ cls := "BeamSetter$Group", name := "load", desc := "(LBeamSetter$Piece;[IIII)V" } : MethodName) prog_2_method_2_code (7 : Nat) (none : Option FieldType)) ∈ TW := tw_in 724 (by decide +kernel) rfl
set_option maxRecDepth 20000 in
theorem k_725 : (Cond.methodLink "BeamSetter$Group" (44 : Nat) ({ cls := "java/lang/Math", name := "min", desc := "(II)I" } : MethodName)) ∈ TW := tw_in 725 (by decide +kernel) rfl
set_option maxRecDepth 20000 in
theorem k_726 : (Cond.methodLink "BeamSetter$Group" (50 : Nat) ({ cls := "java/lang/Math", name := "max", desc := "(II)I" } : MethodName)) ∈ TW := tw_in 726 (by decide +kernel) rfl
set_option maxRecDepth 20000 in
theorem k_727 : (Cond.methodLink "BeamSetter$Group" (58 : Nat) ({ cls := "BeamSetter$Piece", name := "beamsOf", desc := "(I)I" } : MethodName)) ∈ TW := tw_in 727 (by decide +kernel) rfl
set_option maxRecDepth 20000 in
theorem k_728 : (Cond.methodLink "BeamSetter$Group" (68 : Nat) ({ cls := "BeamSetter$Group", name := "decideWays", desc := "(I)V" } : MethodName)) ∈ TW := tw_in 728 (by decide +kernel) rfl
set_option maxRecDepth 20000 in
theorem k_730 : (Cond.instanceMethod ({ cls := "BeamSetter$Group", name := "decideWays", desc := "(I)V" } : MethodName)) ∈ TW := tw_in 730 (by decide +kernel) rfl
set_option maxRecDepth 20000 in
theorem k_731 : (Cond.code ({ cls := "BeamSetter$Group", name := "decideWays", desc := "(I)V" } : MethodName) prog_2_method_3_code (6 : Nat) (none : Option FieldType)) ∈ TW := tw_in 731 (by decide +kernel) rfl
set_option maxRecDepth 20000 in
theorem k_732 : (Cond.methodLink "BeamSetter$Group" (79 : Nat) ({ cls := "BeamSetter$Group", name := "lowerSideOfKnee", desc := "(I)I" } : MethodName)) ∈ TW := tw_in 732 (by decide +kernel) rfl
set_option maxRecDepth 20000 in
theorem k_734 : (Cond.instanceMethod ({ cls := "BeamSetter$Group", name := "lowerSideOfKnee", desc := "(I)I" } : MethodName)) ∈ TW := tw_in 734 (by decide +kernel) rfl
set_option maxRecDepth 20000 in
theorem k_735 : (Cond.code ({ cls := "BeamSetter$Group", name := "lowerSideOfKnee", desc := "(I)I" } : MethodName) prog_2_method_4_code (9 : Nat) (some FieldType.int)) ∈ TW := tw_in 735 (by decide +kernel) rfl
set_option maxRecDepth 20000 in
theorem k_736 : (Cond.methodLink "BeamSetter$Group" (94 : Nat) ({ cls := "BeamSetter$Group", name := "markTaken", desc := "()V" } : MethodName)) ∈ TW := tw_in 736 (by decide +kernel) rfl
set_option maxRecDepth 20000 in
theorem k_738 : (Cond.instanceMethod ({ cls := "BeamSetter$Group", name := "markTaken", desc := "()V" } : MethodName)) ∈ TW := tw_in 738 (by decide +kernel) rfl
set_option maxRecDepth 20000 in
theorem k_739 : (Cond.code ({ cls := "BeamSetter$Group", name := "markTaken", desc := "()V" } : MethodName) prog_2_method_5_code (3 : Nat) (none : Option FieldType)) ∈ TW := tw_in 739 (by decide +kernel) rfl
set_option maxRecDepth 20000 in
theorem k_740 : (Cond.constant "BeamSetter$Group" (82 : Nat) (-1000000 : Int32)) ∈ TW := tw_in 740 (by decide +kernel) rfl
set_option maxRecDepth 20000 in
theorem k_741 : (Cond.constant "BeamSetter$Group" (97 : Nat) (2147483647 : Int32)) ∈ TW := tw_in 741 (by decide +kernel) rfl
set_option maxRecDepth 20000 in
theorem k_742 : (Cond.methodLink "BeamSetter$Group" (98 : Nat) ({ cls := "java/lang/Math", name := "abs", desc := "(I)I" } : MethodName)) ∈ TW := tw_in 742 (by decide +kernel) rfl
set_option maxRecDepth 20000 in
theorem k_743 : (Cond.static ({ cls := "java/lang/Math", name := "abs", desc := "(I)I" } : MethodName)) ∈ TW := tw_in 743 (by decide +kernel) rfl
set_option maxRecDepth 20000 in
theorem k_744 : (Cond.code ({ cls := "java/lang/Math", name := "abs", desc := "(I)I" } : MethodName) prog_16_method_59_code (1 : Nat) (some FieldType.int)) ∈ TW := tw_in 744 (by decide +kernel) rfl
set_option maxRecDepth 20000 in
theorem k_745 : (Cond.methodLink "BeamSetter$Group" (87 : Nat) ({ cls := "BeamSetter$Group", name := "commonWay", desc := "()I" } : MethodName)) ∈ TW := tw_in 745 (by decide +kernel) rfl
set_option maxRecDepth 20000 in
theorem k_747 : (Cond.instanceMethod ({ cls := "BeamSetter$Group", name := "commonWay", desc := "()I" } : MethodName)) ∈ TW := tw_in 747 (by decide +kernel) rfl
set_option maxRecDepth 20000 in
theorem k_748 : (Cond.code ({ cls := "BeamSetter$Group", name := "commonWay", desc := "()I" } : MethodName) prog_2_method_6_code (5 : Nat) (some FieldType.int)) ∈ TW := tw_in 748 (by decide +kernel) rfl
set_option maxRecDepth 20000 in
theorem k_749 : (Cond.methodLink "BeamSetter$Group" (72 : Nat) ({ cls := "BeamSetter$Group", name := "decideWant", desc := "()V" } : MethodName)) ∈ TW := tw_in 749 (by decide +kernel) rfl
set_option maxRecDepth 20000 in
theorem k_751 : (Cond.instanceMethod ({ cls := "BeamSetter$Group", name := "decideWant", desc := "()V" } : MethodName)) ∈ TW := tw_in 751 (by decide +kernel) rfl
set_option maxRecDepth 20000 in
theorem k_752 : (Cond.code ({ cls := "BeamSetter$Group", name := "decideWant", desc := "()V" } : MethodName) prog_2_method_7_code (5 : Nat) (none : Option FieldType)) ∈ TW := tw_in 752 (by decide +kernel) rfl
set_option maxRecDepth 20000 in
theorem k_753 : (Cond.methodLink "BeamSetter$Group" (75 : Nat) ({ cls := "BeamSetter$Group", name := "idealLength", desc := "(III)I" } : MethodName)) ∈ TW := tw_in 753 (by decide +kernel) rfl
set_option maxRecDepth 20000 in
theorem k_754 : (Cond.static ({ cls := "BeamSetter$Group", name := "idealLength", desc := "(III)I" } : MethodName)) ∈ TW := tw_in 754 (by decide +kernel) rfl
set_option maxRecDepth 20000 in
theorem k_755 : (Cond.code ({ cls := "BeamSetter$Group", name := "idealLength", desc := "(III)I" } : MethodName) prog_2_method_8_code (5 : Nat) (some FieldType.int)) ∈ TW := tw_in 755 (by decide +kernel) rfl
set_option maxRecDepth 20000 in
theorem k_759 : (Cond.code ({ cls := "BeamSetter", name := "put", desc := "(II)I" } : MethodName) prog_1_method_8_code (4 : Nat) (some FieldType.int)) ∈ TW := tw_in 759 (by decide +kernel) rfl
set_option maxRecDepth 20000 in
theorem k_760 : (Cond.methodLink "BeamSetter" (154 : Nat) ({ cls := "BeamSetter", name := "isPosition", desc := "(I)Z" } : MethodName)) ∈ TW := tw_in 760 (by decide +kernel) rfl
set_option maxRecDepth 20000 in
theorem k_761 : (Cond.static ({ cls := "BeamSetter", name := "isPosition", desc := "(I)Z" } : MethodName)) ∈ TW := tw_in 761 (by decide +kernel) rfl
set_option maxRecDepth 20000 in
theorem k_762 : (Cond.code ({ cls := "BeamSetter", name := "isPosition", desc := "(I)Z" } : MethodName) prog_1_method_43_code (1 : Nat) (some FieldType.boolean)) ∈ TW := tw_in 762 (by decide +kernel) rfl
set_option maxRecDepth 20000 in
theorem k_763 : (Cond.methodLink "BeamSetter" (157 : Nat) ({ cls := "BeamSetter$History", name := "remember", desc := "(II)V" } : MethodName)) ∈ TW := tw_in 763 (by decide +kernel) rfl
set_option maxRecDepth 20000 in
theorem k_764 : (Cond.instanceMethod ({ cls := "BeamSetter$History", name := "remember", desc := "(II)V" } : MethodName)) ∈ TW := tw_in 764 (by decide +kernel) rfl
set_option maxRecDepth 20000 in
theorem k_765 : (Cond.selects "BeamSetter$History" ({ cls := "BeamSetter$History", name := "remember", desc := "(II)V" } : MethodName) ({ cls := "BeamSetter$History", name := "remember", desc := "(II)V" } : MethodName)) ∈ TW := tw_in 765 (by decide +kernel) rfl
set_option maxRecDepth 20000 in
theorem k_766 : (Cond.code ({ cls := "BeamSetter$History", name := "remember", desc := "(II)V" } : MethodName) prog_3_method_2_code (3 : Nat) (none : Option FieldType)) ∈ TW := tw_in 766 (by decide +kernel) rfl
set_option maxRecDepth 20000 in
theorem k_773 : (Cond.code ({ cls := "BeamSetter", name := "undo", desc := "()I" } : MethodName) prog_1_method_9_code (2 : Nat) (some FieldType.int)) ∈ TW := tw_in 773 (by decide +kernel) rfl
set_option maxRecDepth 20000 in
theorem k_774 : (Cond.methodLink "BeamSetter" (161 : Nat) ({ cls := "BeamSetter$History", name := "latestElement", desc := "()I" } : MethodName)) ∈ TW := tw_in 774 (by decide +kernel) rfl
set_option maxRecDepth 20000 in
theorem k_775 : (Cond.instanceMethod ({ cls := "BeamSetter$History", name := "latestElement", desc := "()I" } : MethodName)) ∈ TW := tw_in 775 (by decide +kernel) rfl
set_option maxRecDepth 20000 in
theorem k_776 : (Cond.selects "BeamSetter$History" ({ cls := "BeamSetter$History", name := "latestElement", desc := "()I" } : MethodName) ({ cls := "BeamSetter$History", name := "latestElement", desc := "()I" } : MethodName)) ∈ TW := tw_in 776 (by decide +kernel) rfl
set_option maxRecDepth 20000 in
theorem k_777 : (Cond.code ({ cls := "BeamSetter$History", name := "latestElement", desc := "()I" } : MethodName) prog_3_method_3_code (1 : Nat) (some FieldType.int)) ∈ TW := tw_in 777 (by decide +kernel) rfl
set_option maxRecDepth 20000 in
theorem k_778 : (Cond.methodLink "BeamSetter" (165 : Nat) ({ cls := "BeamSetter$History", name := "latestPosition", desc := "()I" } : MethodName)) ∈ TW := tw_in 778 (by decide +kernel) rfl
set_option maxRecDepth 20000 in
theorem k_779 : (Cond.instanceMethod ({ cls := "BeamSetter$History", name := "latestPosition", desc := "()I" } : MethodName)) ∈ TW := tw_in 779 (by decide +kernel) rfl
set_option maxRecDepth 20000 in
theorem k_780 : (Cond.selects "BeamSetter$History" ({ cls := "BeamSetter$History", name := "latestPosition", desc := "()I" } : MethodName) ({ cls := "BeamSetter$History", name := "latestPosition", desc := "()I" } : MethodName)) ∈ TW := tw_in 780 (by decide +kernel) rfl
set_option maxRecDepth 20000 in
theorem k_781 : (Cond.code ({ cls := "BeamSetter$History", name := "latestPosition", desc := "()I" } : MethodName) prog_3_method_4_code (1 : Nat) (some FieldType.int)) ∈ TW := tw_in 781 (by decide +kernel) rfl
set_option maxRecDepth 20000 in
theorem k_782 : (Cond.methodLink "BeamSetter" (168 : Nat) ({ cls := "BeamSetter$History", name := "forgetLatest", desc := "()V" } : MethodName)) ∈ TW := tw_in 782 (by decide +kernel) rfl
set_option maxRecDepth 20000 in
theorem k_783 : (Cond.instanceMethod ({ cls := "BeamSetter$History", name := "forgetLatest", desc := "()V" } : MethodName)) ∈ TW := tw_in 783 (by decide +kernel) rfl
set_option maxRecDepth 20000 in
theorem k_784 : (Cond.selects "BeamSetter$History" ({ cls := "BeamSetter$History", name := "forgetLatest", desc := "()V" } : MethodName) ({ cls := "BeamSetter$History", name := "forgetLatest", desc := "()V" } : MethodName)) ∈ TW := tw_in 784 (by decide +kernel) rfl
set_option maxRecDepth 20000 in
theorem k_785 : (Cond.code ({ cls := "BeamSetter$History", name := "forgetLatest", desc := "()V" } : MethodName) prog_3_method_5_code (1 : Nat) (none : Option FieldType)) ∈ TW := tw_in 785 (by decide +kernel) rfl
set_option maxRecDepth 20000 in
theorem k_786 : (Cond.methodLink "BeamSetter$History" (28 : Nat) ({ cls := "java/lang/Math", name := "max", desc := "(II)I" } : MethodName)) ∈ TW := tw_in 786 (by decide +kernel) rfl
set_option maxRecDepth 20000 in
theorem k_790 : (Cond.code ({ cls := "BeamSetter", name := "want", desc := "(I)I" } : MethodName) prog_1_method_11_code (2 : Nat) (some FieldType.int)) ∈ TW := tw_in 790 (by decide +kernel) rfl
set_option maxRecDepth 20000 in
theorem k_791 : (Cond.methodLink "BeamSetter" (171 : Nat) ({ cls := "BeamSetter", name := "isGroup", desc := "(I)Z" } : MethodName)) ∈ TW := tw_in 791 (by decide +kernel) rfl
set_option maxRecDepth 20000 in
theorem k_793 : (Cond.instanceMethod ({ cls := "BeamSetter", name := "isGroup", desc := "(I)Z" } : MethodName)) ∈ TW := tw_in 793 (by decide +kernel) rfl
set_option maxRecDepth 20000 in
theorem k_794 : (Cond.code ({ cls := "BeamSetter", name := "isGroup", desc := "(I)Z" } : MethodName) prog_1_method_42_code (2 : Nat) (some FieldType.boolean)) ∈ TW := tw_in 794 (by decide +kernel) rfl
set_option maxRecDepth 20000 in
theorem k_798 : (Cond.code ({ cls := "BeamSetter", name := "ideal", desc := "(I)I" } : MethodName) prog_1_method_12_code (2 : Nat) (some FieldType.int)) ∈ TW := tw_in 798 (by decide +kernel) rfl
set_option maxRecDepth 20000 in
theorem k_802 : (Cond.code ({ cls := "BeamSetter", name := "ugliness", desc := "(IIII)I" } : MethodName) prog_1_method_13_code (5 : Nat) (some FieldType.int)) ∈ TW := tw_in 802 (by decide +kernel) rfl
set_option maxRecDepth 20000 in
theorem k_803 : (Cond.methodLink "BeamSetter" (205 : Nat) ({ cls := "BeamSetter$Group", name := "isSetting", desc := "(II)Z" } : MethodName)) ∈ TW := tw_in 803 (by decide +kernel) rfl
set_option maxRecDepth 20000 in
theorem k_804 : (Cond.static ({ cls := "BeamSetter$Group", name := "isSetting", desc := "(II)Z" } : MethodName)) ∈ TW := tw_in 804 (by decide +kernel) rfl
set_option maxRecDepth 20000 in
theorem k_805 : (Cond.code ({ cls := "BeamSetter$Group", name := "isSetting", desc := "(II)Z" } : MethodName) prog_2_method_10_code (2 : Nat) (some FieldType.boolean)) ∈ TW := tw_in 805 (by decide +kernel) rfl
set_option maxRecDepth 20000 in
theorem k_806 : (Cond.methodLink "BeamSetter" (209 : Nat) ({ cls := "BeamSetter$Group", name := "allows", desc := "(II)Z" } : MethodName)) ∈ TW := tw_in 806 (by decide +kernel) rfl
set_option maxRecDepth 20000 in
theorem k_807 : (Cond.instanceMethod ({ cls := "BeamSetter$Group", name := "allows", desc := "(II)Z" } : MethodName)) ∈ TW := tw_in 807 (by decide +kernel) rfl
set_option maxRecDepth 20000 in
theorem k_808 : (Cond.selects "BeamSetter$Group" ({ cls := "BeamSetter$Group", name := "allows", desc := "(II)Z" } : MethodName) ({ cls := "BeamSetter$Group", name := "allows", desc := "(II)Z" } : MethodName)) ∈ TW := tw_in 808 (by decide +kernel) rfl
set_option maxRecDepth 20000 in
theorem k_809 : (Cond.code ({ cls := "BeamSetter$Group", name := "allows", desc := "(II)Z" } : MethodName) prog_2_method_12_code (3 : Nat) (some FieldType.boolean)) ∈ TW := tw_in 809 (by decide +kernel) rfl
set_option maxRecDepth 20000 in
theorem k_810 : (Cond.methodLink "BeamSetter$Group" (119 : Nat) ({ cls := "BeamSetter$Group", name := "tilt", desc := "(I)V" } : MethodName)) ∈ TW := tw_in 810 (by decide +kernel) rfl
set_option maxRecDepth 20000 in
theorem k_812 : (Cond.instanceMethod ({ cls := "BeamSetter$Group", name := "tilt", desc := "(I)V" } : MethodName)) ∈ TW := tw_in 812 (by decide +kernel) rfl
set_option maxRecDepth 20000 in
theorem k_813 : (Cond.code ({ cls := "BeamSetter$Group", name := "tilt", desc := "(I)V" } : MethodName) prog_2_method_11_code (6 : Nat) (none : Option FieldType)) ∈ TW := tw_in 813 (by decide +kernel) rfl
set_option maxRecDepth 20000 in
theorem k_814 : (Cond.methodLink "BeamSetter$Group" (113 : Nat) ({ cls := "java/lang/Math", name := "floorDiv", desc := "(II)I" } : MethodName)) ∈ TW := tw_in 814 (by decide +kernel) rfl
set_option maxRecDepth 20000 in
theorem k_815 : (Cond.static ({ cls := "java/lang/Math", name := "floorDiv", desc := "(II)I" } : MethodName)) ∈ TW := tw_in 815 (by decide +kernel) rfl
set_option maxRecDepth 20000 in
theorem k_816 : (Cond.code ({ cls := "java/lang/Math", name := "floorDiv", desc := "(II)I" } : MethodName) prog_16_method_47_code (3 : Nat) (some FieldType.int)) ∈ TW := tw_in 816 (by decide +kernel) rfl
set_option maxRecDepth 20000 in
theorem k_817 : (Cond.methodLink "BeamSetter$Group" (116 : Nat) ({ cls := "BeamSetter$Group", name := "shortestLength", desc := "(I)I" } : MethodName)) ∈ TW := tw_in 817 (by decide +kernel) rfl
set_option maxRecDepth 20000 in
theorem k_818 : (Cond.static ({ cls := "BeamSetter$Group", name := "shortestLength", desc := "(I)I" } : MethodName)) ∈ TW := tw_in 818 (by decide +kernel) rfl
set_option maxRecDepth 20000 in
theorem k_819 : (Cond.code ({ cls := "BeamSetter$Group", name := "shortestLength", desc := "(I)I" } : MethodName) prog_2_method_9_code (1 : Nat) (some FieldType.int)) ∈ TW := tw_in 819 (by decide +kernel) rfl
set_option maxRecDepth 20000 in
theorem k_820 : (Cond.methodLink "BeamSetter" (212 : Nat) ({ cls := "BeamSetter$Group", name := "tellSetting", desc := "(III)I" } : MethodName)) ∈ TW := tw_in 820 (by decide +kernel) rfl
set_option maxRecDepth 20000 in
theorem k_821 : (Cond.instanceMethod ({ cls := "BeamSetter$Group", name := "tellSetting", desc := "(III)I" } : MethodName)) ∈ TW := tw_in 821 (by decide +kernel) rfl
set_option maxRecDepth 20000 in
theorem k_822 : (Cond.selects "BeamSetter$Group" ({ cls := "BeamSetter$Group", name := "tellSetting", desc := "(III)I" } : MethodName) ({ cls := "BeamSetter$Group", name := "tellSetting", desc := "(III)I" } : MethodName)) ∈ TW := tw_in 822 (by decide +kernel) rfl
set_option maxRecDepth 20000 in
theorem k_823 : (Cond.code ({ cls := "BeamSetter$Group", name := "tellSetting", desc := "(III)I" } : MethodName) prog_2_method_30_code (5 : Nat) (some FieldType.int)) ∈ TW := tw_in 823 (by decide +kernel) rfl
set_option maxRecDepth 20000 in
theorem k_824 : (Cond.methodLink "BeamSetter$Group" (130 : Nat) ({ cls := "BeamSetter$Group", name := "stemsAt", desc := "(I)I" } : MethodName)) ∈ TW := tw_in 824 (by decide +kernel) rfl
set_option maxRecDepth 20000 in
theorem k_826 : (Cond.instanceMethod ({ cls := "BeamSetter$Group", name := "stemsAt", desc := "(I)I" } : MethodName)) ∈ TW := tw_in 826 (by decide +kernel) rfl
set_option maxRecDepth 20000 in
theorem k_827 : (Cond.code ({ cls := "BeamSetter$Group", name := "stemsAt", desc := "(I)I" } : MethodName) prog_2_method_13_code (5 : Nat) (some FieldType.int)) ∈ TW := tw_in 827 (by decide +kernel) rfl
set_option maxRecDepth 20000 in
theorem k_828 : (Cond.methodLink "BeamSetter$Group" (133 : Nat) ({ cls := "BeamSetter$Group", name := "slopeOf", desc := "(I)I" } : MethodName)) ∈ TW := tw_in 828 (by decide +kernel) rfl
set_option maxRecDepth 20000 in
theorem k_830 : (Cond.instanceMethod ({ cls := "BeamSetter$Group", name := "slopeOf", desc := "(I)I" } : MethodName)) ∈ TW := tw_in 830 (by decide +kernel) rfl
set_option maxRecDepth 20000 in
theorem k_831 : (Cond.code ({ cls := "BeamSetter$Group", name := "slopeOf", desc := "(I)I" } : MethodName) prog_2_method_14_code (3 : Nat) (some FieldType.int)) ∈ TW := tw_in 831 (by decide +kernel) rfl
set_option maxRecDepth 20000 in
theorem k_832 : (Cond.methodLink "BeamSetter$Group" (136 : Nat) ({ cls := "BeamSetter$Group", name := "staffAt", desc := "(II)I" } : MethodName)) ∈ TW := tw_in 832 (by decide +kernel) rfl
set_option maxRecDepth 20000 in
theorem k_834 : (Cond.instanceMethod ({ cls := "BeamSetter$Group", name := "staffAt", desc := "(II)I" } : MethodName)) ∈ TW := tw_in 834 (by decide +kernel) rfl
set_option maxRecDepth 20000 in
theorem k_835 : (Cond.code ({ cls := "BeamSetter$Group", name := "staffAt", desc := "(II)I" } : MethodName) prog_2_method_15_code (3 : Nat) (some FieldType.int)) ∈ TW := tw_in 835 (by decide +kernel) rfl
set_option maxRecDepth 20000 in
theorem k_836 : (Cond.methodLink "BeamSetter$Group" (122 : Nat) ({ cls := "BeamSetter$Group", name := "staffAtEnd", desc := "(III)I" } : MethodName)) ∈ TW := tw_in 836 (by decide +kernel) rfl
set_option maxRecDepth 20000 in
theorem k_838 : (Cond.instanceMethod ({ cls := "BeamSetter$Group", name := "staffAtEnd", desc := "(III)I" } : MethodName)) ∈ TW := tw_in 838 (by decide +kernel) rfl
set_option maxRecDepth 20000 in
theorem k_839 : (Cond.code ({ cls := "BeamSetter$Group", name := "staffAtEnd", desc := "(III)I" } : MethodName) prog_2_method_16_code (7 : Nat) (some FieldType.int)) ∈ TW := tw_in 839 (by decide +kernel) rfl
set_option maxRecDepth 20000 in
theorem k_840 : (Cond.methodLink "BeamSetter$Group" (125 : Nat) ({ cls := "BeamSetter$Group", name := "touchCost", desc := "(II)I" } : MethodName)) ∈ TW := tw_in 840 (by decide +kernel) rfl
set_option maxRecDepth 20000 in
theorem k_841 : (Cond.static ({ cls := "BeamSetter$Group", name := "touchCost", desc := "(II)I" } : MethodName)) ∈ TW := tw_in 841 (by decide +kernel) rfl
set_option maxRecDepth 20000 in
theorem k_842 : (Cond.code ({ cls := "BeamSetter$Group", name := "touchCost", desc := "(II)I" } : MethodName) prog_2_method_17_code (2 : Nat) (some FieldType.int)) ∈ TW := tw_in 842 (by decide +kernel) rfl
set_option maxRecDepth 20000 in
theorem k_846 : (Cond.code ({ cls := "BeamSetter", name := "best", desc := "(II)I" } : MethodName) prog_1_method_14_code (3 : Nat) (some FieldType.int)) ∈ TW := tw_in 846 (by decide +kernel) rfl
set_option maxRecDepth 20000 in
theorem k_847 : (Cond.methodLink "BeamSetter" (216 : Nat) ({ cls := "BeamSetter", name := "tellBest", desc := "(I)I" } : MethodName)) ∈ TW := tw_in 847 (by decide +kernel) rfl
set_option maxRecDepth 20000 in
theorem k_849 : (Cond.instanceMethod ({ cls := "BeamSetter", name := "tellBest", desc := "(I)I" } : MethodName)) ∈ TW := tw_in 849 (by decide +kernel) rfl
set_option maxRecDepth 20000 in
theorem k_850 : (Cond.code ({ cls := "BeamSetter", name := "tellBest", desc := "(I)I" } : MethodName) prog_1_method_49_code (4 : Nat) (some FieldType.int)) ∈ TW := tw_in 850 (by decide +kernel) rfl
set_option maxRecDepth 20000 in
theorem k_851 : (Cond.methodLink "BeamSetter" (238 : Nat) ({ cls := "BeamSetter$Group", name := "findBest", desc := "()J" } : MethodName)) ∈ TW := tw_in 851 (by decide +kernel) rfl
set_option maxRecDepth 20000 in
theorem k_852 : (Cond.instanceMethod ({ cls := "BeamSetter$Group", name := "findBest", desc := "()J" } : MethodName)) ∈ TW := tw_in 852 (by decide +kernel) rfl
set_option maxRecDepth 20000 in
theorem k_853 : (Cond.selects "BeamSetter$Group" ({ cls := "BeamSetter$Group", name := "findBest", desc := "()J" } : MethodName) ({ cls := "BeamSetter$Group", name := "findBest", desc := "()J" } : MethodName)) ∈ TW := tw_in 853 (by decide +kernel) rfl
set_option maxRecDepth 20000 in
theorem k_854 : (Cond.code ({ cls := "BeamSetter$Group", name := "findBest", desc := "()J" } : MethodName) prog_2_method_33_code (4 : Nat) (some FieldType.long)) ∈ TW := tw_in 854 (by decide +kernel) rfl
set_option maxRecDepth 20000 in
theorem k_855 : (Cond.constantLong "BeamSetter$Group" (165 : Nat) (9223372036854775807 : Int64)) ∈ TW := tw_in 855 (by decide +kernel) rfl
set_option maxRecDepth 20000 in
theorem k_856 : (Cond.methodLink "BeamSetter$Group" (155 : Nat) ({ cls := "BeamSetter$Group", name := "uglinessOf", desc := "(J)I" } : MethodName)) ∈ TW := tw_in 856 (by decide +kernel) rfl
set_option maxRecDepth 20000 in
theorem k_857 : (Cond.static ({ cls := "BeamSetter$Group", name := "uglinessOf", desc := "(J)I" } : MethodName)) ∈ TW := tw_in 857 (by decide +kernel) rfl
set_option maxRecDepth 20000 in
theorem k_858 : (Cond.code ({ cls := "BeamSetter$Group", name := "uglinessOf", desc := "(J)I" } : MethodName) prog_2_method_25_code (2 : Nat) (some FieldType.int)) ∈ TW := tw_in 858 (by decide +kernel) rfl
set_option maxRecDepth 20000 in
theorem k_859 : (Cond.methodLink "BeamSetter$Group" (167 : Nat) ({ cls := "BeamSetter$Group", name := "bestSloping", desc := "(IJ)J" } : MethodName)) ∈ TW := tw_in 859 (by decide +kernel) rfl
set_option maxRecDepth 20000 in
theorem k_861 : (Cond.instanceMethod ({ cls := "BeamSetter$Group", name := "bestSloping", desc := "(IJ)J" } : MethodName)) ∈ TW := tw_in 861 (by decide +kernel) rfl
set_option maxRecDepth 20000 in
theorem k_862 : (Cond.code ({ cls := "BeamSetter$Group", name := "bestSloping", desc := "(IJ)J" } : MethodName) prog_2_method_35_code (9 : Nat) (some FieldType.long)) ∈ TW := tw_in 862 (by decide +kernel) rfl
set_option maxRecDepth 20000 in
theorem k_863 : (Cond.methodLink "BeamSetter$Group" (139 : Nat) ({ cls := "BeamSetter$Group", name := "keyAt", desc := "(III)J" } : MethodName)) ∈ TW := tw_in 863 (by decide +kernel) rfl
set_option maxRecDepth 20000 in
theorem k_865 : (Cond.instanceMethod ({ cls := "BeamSetter$Group", name := "keyAt", desc := "(III)J" } : MethodName)) ∈ TW := tw_in 865 (by decide +kernel) rfl
set_option maxRecDepth 20000 in
theorem k_866 : (Cond.code ({ cls := "BeamSetter$Group", name := "keyAt", desc := "(III)J" } : MethodName) prog_2_method_23_code (6 : Nat) (some FieldType.long)) ∈ TW := tw_in 866 (by decide +kernel) rfl
set_option maxRecDepth 20000 in
theorem k_867 : (Cond.constantLong "BeamSetter$Group" (128 : Nat) (60 : Int64)) ∈ TW := tw_in 867 (by decide +kernel) rfl
set_option maxRecDepth 20000 in
theorem k_868 : (Cond.methodLink "BeamSetter$Group" (171 : Nat) ({ cls := "java/lang/Math", name := "min", desc := "(JJ)J" } : MethodName)) ∈ TW := tw_in 868 (by decide +kernel) rfl
set_option maxRecDepth 20000 in
theorem k_869 : (Cond.static ({ cls := "java/lang/Math", name := "min", desc := "(JJ)J" } : MethodName)) ∈ TW := tw_in 869 (by decide +kernel) rfl
set_option maxRecDepth 20000 in
theorem k_870 : (Cond.code ({ cls := "java/lang/Math", name := "min", desc := "(JJ)J" } : MethodName) prog_16_method_70_code (4 : Nat) (some FieldType.long)) ∈ TW := tw_in 870 (by decide +kernel) rfl
set_option maxRecDepth 20000 in
theorem k_871 : (Cond.constantLong "BeamSetter" (242 : Nat) (9223372036854775807 : Int64)) ∈ TW := tw_in 871 (by decide +kernel) rfl
set_option maxRecDepth 20000 in
theorem k_872 : (Cond.methodLink "BeamSetter" (226 : Nat) ({ cls := "BeamSetter$Group", name := "tell", desc := "(JI)I" } : MethodName)) ∈ TW := tw_in 872 (by decide +kernel) rfl
set_option maxRecDepth 20000 in
theorem k_873 : (Cond.instanceMethod ({ cls := "BeamSetter$Group", name := "tell", desc := "(JI)I" } : MethodName)) ∈ TW := tw_in 873 (by decide +kernel) rfl
set_option maxRecDepth 20000 in
theorem k_874 : (Cond.selects "BeamSetter$Group" ({ cls := "BeamSetter$Group", name := "tell", desc := "(JI)I" } : MethodName) ({ cls := "BeamSetter$Group", name := "tell", desc := "(JI)I" } : MethodName)) ∈ TW := tw_in 874 (by decide +kernel) rfl
set_option maxRecDepth 20000 in
theorem k_875 : (Cond.code ({ cls := "BeamSetter$Group", name := "tell", desc := "(JI)I" } : MethodName) prog_2_method_29_code (4 : Nat) (some FieldType.int)) ∈ TW := tw_in 875 (by decide +kernel) rfl
set_option maxRecDepth 20000 in
theorem k_876 : (Cond.methodLink "BeamSetter$Group" (149 : Nat) ({ cls := "BeamSetter$Group", name := "leftOf", desc := "(J)I" } : MethodName)) ∈ TW := tw_in 876 (by decide +kernel) rfl
set_option maxRecDepth 20000 in
theorem k_877 : (Cond.instanceMethod ({ cls := "BeamSetter$Group", name := "leftOf", desc := "(J)I" } : MethodName)) ∈ TW := tw_in 877 (by decide +kernel) rfl
set_option maxRecDepth 20000 in
theorem k_878 : (Cond.selects "BeamSetter$Group" ({ cls := "BeamSetter$Group", name := "leftOf", desc := "(J)I" } : MethodName) ({ cls := "BeamSetter$Group", name := "leftOf", desc := "(J)I" } : MethodName)) ∈ TW := tw_in 878 (by decide +kernel) rfl
set_option maxRecDepth 20000 in
theorem k_879 : (Cond.code ({ cls := "BeamSetter$Group", name := "leftOf", desc := "(J)I" } : MethodName) prog_2_method_27_code (3 : Nat) (some FieldType.int)) ∈ TW := tw_in 879 (by decide +kernel) rfl
set_option maxRecDepth 20000 in
theorem k_880 : (Cond.methodLink "BeamSetter$Group" (145 : Nat) ({ cls := "BeamSetter$Group", name := "heightIn", desc := "(J)I" } : MethodName)) ∈ TW := tw_in 880 (by decide +kernel) rfl
set_option maxRecDepth 20000 in
theorem k_882 : (Cond.instanceMethod ({ cls := "BeamSetter$Group", name := "heightIn", desc := "(J)I" } : MethodName)) ∈ TW := tw_in 882 (by decide +kernel) rfl
set_option maxRecDepth 20000 in
theorem k_883 : (Cond.code ({ cls := "BeamSetter$Group", name := "heightIn", desc := "(J)I" } : MethodName) prog_2_method_26_code (3 : Nat) (some FieldType.int)) ∈ TW := tw_in 883 (by decide +kernel) rfl
set_option maxRecDepth 20000 in
theorem k_884 : (Cond.constantLong "BeamSetter$Group" (143 : Nat) (127 : Int64)) ∈ TW := tw_in 884 (by decide +kernel) rfl
set_option maxRecDepth 20000 in
theorem k_885 : (Cond.methodLink "BeamSetter$Group" (152 : Nat) ({ cls := "BeamSetter$Group", name := "rightOf", desc := "(J)I" } : MethodName)) ∈ TW := tw_in 885 (by decide +kernel) rfl
set_option maxRecDepth 20000 in
theorem k_886 : (Cond.instanceMethod ({ cls := "BeamSetter$Group", name := "rightOf", desc := "(J)I" } : MethodName)) ∈ TW := tw_in 886 (by decide +kernel) rfl
set_option maxRecDepth 20000 in
theorem k_887 : (Cond.selects "BeamSetter$Group" ({ cls := "BeamSetter$Group", name := "rightOf", desc := "(J)I" } : MethodName) ({ cls := "BeamSetter$Group", name := "rightOf", desc := "(J)I" } : MethodName)) ∈ TW := tw_in 887 (by decide +kernel) rfl
set_option maxRecDepth 20000 in
theorem k_888 : (Cond.code ({ cls := "BeamSetter$Group", name := "rightOf", desc := "(J)I" } : MethodName) prog_2_method_28_code (3 : Nat) (some FieldType.int)) ∈ TW := tw_in 888 (by decide +kernel) rfl
set_option maxRecDepth 20000 in
theorem k_889 : (Cond.methodLink "BeamSetter$Group" (158 : Nat) ({ cls := "BeamSetter$Group", name := "tellSetting", desc := "(III)I" } : MethodName)) ∈ TW := tw_in 889 (by decide +kernel) rfl
set_option maxRecDepth 20000 in
theorem k_893 : (Cond.code ({ cls := "BeamSetter", name := "ranked", desc := "(III)I" } : MethodName) prog_1_method_15_code (4 : Nat) (some FieldType.int)) ∈ TW := tw_in 893 (by decide +kernel) rfl
set_option maxRecDepth 20000 in
theorem k_894 : (Cond.methodLink "BeamSetter" (193 : Nat) ({ cls := "BeamSetter$Group", name := "gather", desc := "()I" } : MethodName)) ∈ TW := tw_in 894 (by decide +kernel) rfl
set_option maxRecDepth 20000 in
theorem k_895 : (Cond.instanceMethod ({ cls := "BeamSetter$Group", name := "gather", desc := "()I" } : MethodName)) ∈ TW := tw_in 895 (by decide +kernel) rfl
set_option maxRecDepth 20000 in
theorem k_896 : (Cond.selects "BeamSetter$Group" ({ cls := "BeamSetter$Group", name := "gather", desc := "()I" } : MethodName) ({ cls := "BeamSetter$Group", name := "gather", desc := "()I" } : MethodName)) ∈ TW := tw_in 896 (by decide +kernel) rfl
set_option maxRecDepth 20000 in
theorem k_897 : (Cond.code ({ cls := "BeamSetter$Group", name := "gather", desc := "()I" } : MethodName) prog_2_method_36_code (4 : Nat) (some FieldType.int)) ∈ TW := tw_in 897 (by decide +kernel) rfl
set_option maxRecDepth 20000 in
theorem k_898 : (Cond.methodLink "BeamSetter" (219 : Nat) ({ cls := "BeamSetter$Group", name := "sortKeys", desc := "()V" } : MethodName)) ∈ TW := tw_in 898 (by decide +kernel) rfl
set_option maxRecDepth 20000 in
theorem k_899 : (Cond.instanceMethod ({ cls := "BeamSetter$Group", name := "sortKeys", desc := "()V" } : MethodName)) ∈ TW := tw_in 899 (by decide +kernel) rfl
set_option maxRecDepth 20000 in
theorem k_900 : (Cond.selects "BeamSetter$Group" ({ cls := "BeamSetter$Group", name := "sortKeys", desc := "()V" } : MethodName) ({ cls := "BeamSetter$Group", name := "sortKeys", desc := "()V" } : MethodName)) ∈ TW := tw_in 900 (by decide +kernel) rfl
set_option maxRecDepth 20000 in
theorem k_901 : (Cond.code ({ cls := "BeamSetter$Group", name := "sortKeys", desc := "()V" } : MethodName) prog_2_method_38_code (6 : Nat) (none : Option FieldType)) ∈ TW := tw_in 901 (by decide +kernel) rfl
set_option maxRecDepth 20000 in
theorem k_905 : (Cond.code ({ cls := "BeamSetter", name := "rank", desc := "(III)I" } : MethodName) prog_1_method_16_code (4 : Nat) (some FieldType.int)) ∈ TW := tw_in 905 (by decide +kernel) rfl
set_option maxRecDepth 20000 in
theorem k_906 : (Cond.methodLink "BeamSetter" (230 : Nat) ({ cls := "BeamSetter$Group", name := "keyOfSetting", desc := "(II)J" } : MethodName)) ∈ TW := tw_in 906 (by decide +kernel) rfl
set_option maxRecDepth 20000 in
theorem k_907 : (Cond.instanceMethod ({ cls := "BeamSetter$Group", name := "keyOfSetting", desc := "(II)J" } : MethodName)) ∈ TW := tw_in 907 (by decide +kernel) rfl
set_option maxRecDepth 20000 in
theorem k_908 : (Cond.selects "BeamSetter$Group" ({ cls := "BeamSetter$Group", name := "keyOfSetting", desc := "(II)J" } : MethodName) ({ cls := "BeamSetter$Group", name := "keyOfSetting", desc := "(II)J" } : MethodName)) ∈ TW := tw_in 908 (by decide +kernel) rfl
set_option maxRecDepth 20000 in
theorem k_909 : (Cond.code ({ cls := "BeamSetter$Group", name := "keyOfSetting", desc := "(II)J" } : MethodName) prog_2_method_24_code (3 : Nat) (some FieldType.long)) ∈ TW := tw_in 909 (by decide +kernel) rfl
set_option maxRecDepth 20000 in
theorem k_910 : (Cond.methodLink "BeamSetter" (234 : Nat) ({ cls := "BeamSetter$Group", name := "rankOf", desc := "(J)I" } : MethodName)) ∈ TW := tw_in 910 (by decide +kernel) rfl
set_option maxRecDepth 20000 in
theorem k_911 : (Cond.instanceMethod ({ cls := "BeamSetter$Group", name := "rankOf", desc := "(J)I" } : MethodName)) ∈ TW := tw_in 911 (by decide +kernel) rfl
set_option maxRecDepth 20000 in
theorem k_912 : (Cond.selects "BeamSetter$Group" ({ cls := "BeamSetter$Group", name := "rankOf", desc := "(J)I" } : MethodName) ({ cls := "BeamSetter$Group", name := "rankOf", desc := "(J)I" } : MethodName)) ∈ TW := tw_in 912 (by decide +kernel) rfl
set_option maxRecDepth 20000 in
theorem k_913 : (Cond.code ({ cls := "BeamSetter$Group", name := "rankOf", desc := "(J)I" } : MethodName) prog_2_method_37_code (6 : Nat) (some FieldType.int)) ∈ TW := tw_in 913 (by decide +kernel) rfl
set_option maxRecDepth 20000 in
theorem k_914 : (Cond.methodLink "BeamSetter$Group" (174 : Nat) ({ cls := "BeamSetter$Group", name := "gather", desc := "()I" } : MethodName)) ∈ TW := tw_in 914 (by decide +kernel) rfl
set_option maxRecDepth 20000 in
theorem k_918 : (Cond.code ({ cls := "BeamSetter", name := "stem", desc := "(II)I" } : MethodName) prog_1_method_17_code (8 : Nat) (some FieldType.int)) ∈ TW := tw_in 918 (by decide +kernel) rfl
set_option maxRecDepth 20000 in
theorem k_919 : (Cond.methodLink "BeamSetter" (244 : Nat) ({ cls := "BeamSetter$Group", name := "lengthOf", desc := "(JI)I" } : MethodName)) ∈ TW := tw_in 919 (by decide +kernel) rfl
set_option maxRecDepth 20000 in
theorem k_920 : (Cond.instanceMethod ({ cls := "BeamSetter$Group", name := "lengthOf", desc := "(JI)I" } : MethodName)) ∈ TW := tw_in 920 (by decide +kernel) rfl
set_option maxRecDepth 20000 in
theorem k_921 : (Cond.selects "BeamSetter$Group" ({ cls := "BeamSetter$Group", name := "lengthOf", desc := "(JI)I" } : MethodName) ({ cls := "BeamSetter$Group", name := "lengthOf", desc := "(JI)I" } : MethodName)) ∈ TW := tw_in 921 (by decide +kernel) rfl
set_option maxRecDepth 20000 in
theorem k_922 : (Cond.code ({ cls := "BeamSetter$Group", name := "lengthOf", desc := "(JI)I" } : MethodName) prog_2_method_32_code (4 : Nat) (some FieldType.int)) ∈ TW := tw_in 922 (by decide +kernel) rfl
set_option maxRecDepth 20000 in
theorem k_923 : (Cond.methodLink "BeamSetter$Group" (161 : Nat) ({ cls := "BeamSetter$Group", name := "heightOf", desc := "(JI)I" } : MethodName)) ∈ TW := tw_in 923 (by decide +kernel) rfl
set_option maxRecDepth 20000 in
theorem k_924 : (Cond.instanceMethod ({ cls := "BeamSetter$Group", name := "heightOf", desc := "(JI)I" } : MethodName)) ∈ TW := tw_in 924 (by decide +kernel) rfl
set_option maxRecDepth 20000 in
theorem k_925 : (Cond.selects "BeamSetter$Group" ({ cls := "BeamSetter$Group", name := "heightOf", desc := "(JI)I" } : MethodName) ({ cls := "BeamSetter$Group", name := "heightOf", desc := "(JI)I" } : MethodName)) ∈ TW := tw_in 925 (by decide +kernel) rfl
set_option maxRecDepth 20000 in
theorem k_926 : (Cond.code ({ cls := "BeamSetter$Group", name := "heightOf", desc := "(JI)I" } : MethodName) prog_2_method_31_code (5 : Nat) (some FieldType.int)) ∈ TW := tw_in 926 (by decide +kernel) rfl
set_option maxRecDepth 20000 in
theorem k_927 : (Cond.methodLink "BeamSetter" (247 : Nat) ({ cls := "BeamSetter$Group", name := "heightOf", desc := "(JI)I" } : MethodName)) ∈ TW := tw_in 927 (by decide +kernel) rfl
set_option maxRecDepth 20000 in
theorem k_928 : (Cond.methodLink "BeamSetter" (250 : Nat) ({ cls := "java/lang/Math", name := "abs", desc := "(I)I" } : MethodName)) ∈ TW := tw_in 928 (by decide +kernel) rfl
set_option maxRecDepth 20000 in
theorem k_929 : (Cond.methodLink "BeamSetter" (255 : Nat) ({ cls := "BeamSetter", name := "greatestDivisor", desc := "(II)I" } : MethodName)) ∈ TW := tw_in 929 (by decide +kernel) rfl
set_option maxRecDepth 20000 in
theorem k_930 : (Cond.static ({ cls := "BeamSetter", name := "greatestDivisor", desc := "(II)I" } : MethodName)) ∈ TW := tw_in 930 (by decide +kernel) rfl
set_option maxRecDepth 20000 in
theorem k_931 : (Cond.code ({ cls := "BeamSetter", name := "greatestDivisor", desc := "(II)I" } : MethodName) prog_1_method_53_code (6 : Nat) (some FieldType.int)) ∈ TW := tw_in 931 (by decide +kernel) rfl
set_option maxRecDepth 20000 in
theorem k_932 : (Cond.methodLink "BeamSetter" (258 : Nat) ({ cls := "java/lang/Math", name := "max", desc := "(II)I" } : MethodName)) ∈ TW := tw_in 932 (by decide +kernel) rfl
set_option maxRecDepth 20000 in
theorem k_936 : (Cond.code ({ cls := "BeamSetter", name := "touch", desc := "(III)I" } : MethodName) prog_1_method_18_code (7 : Nat) (some FieldType.int)) ∈ TW := tw_in 936 (by decide +kernel) rfl
set_option maxRecDepth 20000 in
theorem k_937 : (Cond.methodLink "BeamSetter" (261 : Nat) ({ cls := "BeamSetter$Group", name := "beamsAtEnd", desc := "(I)I" } : MethodName)) ∈ TW := tw_in 937 (by decide +kernel) rfl
set_option maxRecDepth 20000 in
theorem k_938 : (Cond.instanceMethod ({ cls := "BeamSetter$Group", name := "beamsAtEnd", desc := "(I)I" } : MethodName)) ∈ TW := tw_in 938 (by decide +kernel) rfl
set_option maxRecDepth 20000 in
theorem k_939 : (Cond.selects "BeamSetter$Group" ({ cls := "BeamSetter$Group", name := "beamsAtEnd", desc := "(I)I" } : MethodName) ({ cls := "BeamSetter$Group", name := "beamsAtEnd", desc := "(I)I" } : MethodName)) ∈ TW := tw_in 939 (by decide +kernel) rfl
set_option maxRecDepth 20000 in
theorem k_940 : (Cond.code ({ cls := "BeamSetter$Group", name := "beamsAtEnd", desc := "(I)I" } : MethodName) prog_2_method_19_code (2 : Nat) (some FieldType.int)) ∈ TW := tw_in 940 (by decide +kernel) rfl
set_option maxRecDepth 20000 in
theorem k_941 : (Cond.methodLink "BeamSetter" (264 : Nat) ({ cls := "BeamSetter$Group", name := "leftOf", desc := "(J)I" } : MethodName)) ∈ TW := tw_in 941 (by decide +kernel) rfl
set_option maxRecDepth 20000 in
theorem k_942 : (Cond.methodLink "BeamSetter" (267 : Nat) ({ cls := "BeamSetter$Group", name := "rightOf", desc := "(J)I" } : MethodName)) ∈ TW := tw_in 942 (by decide +kernel) rfl
set_option maxRecDepth 20000 in
theorem k_943 : (Cond.methodLink "BeamSetter" (270 : Nat) ({ cls := "BeamSetter$Group", name := "beamHeight", desc := "(III)I" } : MethodName)) ∈ TW := tw_in 943 (by decide +kernel) rfl
set_option maxRecDepth 20000 in
theorem k_944 : (Cond.instanceMethod ({ cls := "BeamSetter$Group", name := "beamHeight", desc := "(III)I" } : MethodName)) ∈ TW := tw_in 944 (by decide +kernel) rfl
set_option maxRecDepth 20000 in
theorem k_945 : (Cond.selects "BeamSetter$Group" ({ cls := "BeamSetter$Group", name := "beamHeight", desc := "(III)I" } : MethodName) ({ cls := "BeamSetter$Group", name := "beamHeight", desc := "(III)I" } : MethodName)) ∈ TW := tw_in 945 (by decide +kernel) rfl
set_option maxRecDepth 20000 in
theorem k_946 : (Cond.code ({ cls := "BeamSetter$Group", name := "beamHeight", desc := "(III)I" } : MethodName) prog_2_method_20_code (4 : Nat) (some FieldType.int)) ∈ TW := tw_in 946 (by decide +kernel) rfl
set_option maxRecDepth 20000 in
theorem k_947 : (Cond.methodLink "BeamSetter" (273 : Nat) ({ cls := "BeamSetter$Group", name := "isOnStaff", desc := "(I)Z" } : MethodName)) ∈ TW := tw_in 947 (by decide +kernel) rfl
set_option maxRecDepth 20000 in
theorem k_948 : (Cond.static ({ cls := "BeamSetter$Group", name := "isOnStaff", desc := "(I)Z" } : MethodName)) ∈ TW := tw_in 948 (by decide +kernel) rfl
set_option maxRecDepth 20000 in
theorem k_949 : (Cond.code ({ cls := "BeamSetter$Group", name := "isOnStaff", desc := "(I)Z" } : MethodName) prog_2_method_18_code (1 : Nat) (some FieldType.boolean)) ∈ TW := tw_in 949 (by decide +kernel) rfl
set_option maxRecDepth 20000 in
theorem k_950 : (Cond.methodLink "BeamSetter" (276 : Nat) ({ cls := "java/lang/Math", name := "floorMod", desc := "(II)I" } : MethodName)) ∈ TW := tw_in 950 (by decide +kernel) rfl
set_option maxRecDepth 20000 in
theorem k_951 : (Cond.static ({ cls := "java/lang/Math", name := "floorMod", desc := "(II)I" } : MethodName)) ∈ TW := tw_in 951 (by decide +kernel) rfl
set_option maxRecDepth 20000 in
theorem k_952 : (Cond.code ({ cls := "java/lang/Math", name := "floorMod", desc := "(II)I" } : MethodName) prog_16_method_50_code (3 : Nat) (some FieldType.int)) ∈ TW := tw_in 952 (by decide +kernel) rfl
set_option maxRecDepth 20000 in
theorem k_956 : (Cond.code ({ cls := "BeamSetter", name := "beams", desc := "(II)I" } : MethodName) prog_1_method_19_code (3 : Nat) (some FieldType.int)) ∈ TW := tw_in 956 (by decide +kernel) rfl
set_option maxRecDepth 20000 in
theorem k_957 : (Cond.methodLink "BeamSetter" (279 : Nat) ({ cls := "BeamSetter$Piece", name := "beamsLeft", desc := "(I)I" } : MethodName)) ∈ TW := tw_in 957 (by decide +kernel) rfl
set_option maxRecDepth 20000 in
theorem k_958 : (Cond.instanceMethod ({ cls := "BeamSetter$Piece", name := "beamsLeft", desc := "(I)I" } : MethodName)) ∈ TW := tw_in 958 (by decide +kernel) rfl
set_option maxRecDepth 20000 in
theorem k_959 : (Cond.selects "BeamSetter$Piece" ({ cls := "BeamSetter$Piece", name := "beamsLeft", desc := "(I)I" } : MethodName) ({ cls := "BeamSetter$Piece", name := "beamsLeft", desc := "(I)I" } : MethodName)) ∈ TW := tw_in 959 (by decide +kernel) rfl
set_option maxRecDepth 20000 in
theorem k_960 : (Cond.code ({ cls := "BeamSetter$Piece", name := "beamsLeft", desc := "(I)I" } : MethodName) prog_4_method_22_code (2 : Nat) (some FieldType.int)) ∈ TW := tw_in 960 (by decide +kernel) rfl
set_option maxRecDepth 20000 in
theorem k_961 : (Cond.methodLink "BeamSetter$Piece" (116 : Nat) ({ cls := "BeamSetter$Piece", name := "areTogether", desc := "(II)Z" } : MethodName)) ∈ TW := tw_in 961 (by decide +kernel) rfl
set_option maxRecDepth 20000 in
theorem k_963 : (Cond.instanceMethod ({ cls := "BeamSetter$Piece", name := "areTogether", desc := "(II)Z" } : MethodName)) ∈ TW := tw_in 963 (by decide +kernel) rfl
set_option maxRecDepth 20000 in
theorem k_964 : (Cond.code ({ cls := "BeamSetter$Piece", name := "areTogether", desc := "(II)Z" } : MethodName) prog_4_method_21_code (3 : Nat) (some FieldType.boolean)) ∈ TW := tw_in 964 (by decide +kernel) rfl
set_option maxRecDepth 20000 in
theorem k_965 : (Cond.methodLink "BeamSetter" (282 : Nat) ({ cls := "BeamSetter$Piece", name := "beamsRight", desc := "(I)I" } : MethodName)) ∈ TW := tw_in 965 (by decide +kernel) rfl
set_option maxRecDepth 20000 in
theorem k_966 : (Cond.instanceMethod ({ cls := "BeamSetter$Piece", name := "beamsRight", desc := "(I)I" } : MethodName)) ∈ TW := tw_in 966 (by decide +kernel) rfl
set_option maxRecDepth 20000 in
theorem k_967 : (Cond.selects "BeamSetter$Piece" ({ cls := "BeamSetter$Piece", name := "beamsRight", desc := "(I)I" } : MethodName) ({ cls := "BeamSetter$Piece", name := "beamsRight", desc := "(I)I" } : MethodName)) ∈ TW := tw_in 967 (by decide +kernel) rfl
set_option maxRecDepth 20000 in
theorem k_968 : (Cond.code ({ cls := "BeamSetter$Piece", name := "beamsRight", desc := "(I)I" } : MethodName) prog_4_method_23_code (2 : Nat) (some FieldType.int)) ∈ TW := tw_in 968 (by decide +kernel) rfl
set_option maxRecDepth 20000 in
theorem k_969 : (Cond.methodLink "BeamSetter" (285 : Nat) ({ cls := "BeamSetter$Piece", name := "stubsGoLeft", desc := "(I)Z" } : MethodName)) ∈ TW := tw_in 969 (by decide +kernel) rfl
set_option maxRecDepth 20000 in
theorem k_970 : (Cond.instanceMethod ({ cls := "BeamSetter$Piece", name := "stubsGoLeft", desc := "(I)Z" } : MethodName)) ∈ TW := tw_in 970 (by decide +kernel) rfl
set_option maxRecDepth 20000 in
theorem k_971 : (Cond.selects "BeamSetter$Piece" ({ cls := "BeamSetter$Piece", name := "stubsGoLeft", desc := "(I)Z" } : MethodName) ({ cls := "BeamSetter$Piece", name := "stubsGoLeft", desc := "(I)Z" } : MethodName)) ∈ TW := tw_in 971 (by decide +kernel) rfl
set_option maxRecDepth 20000 in
theorem k_972 : (Cond.code ({ cls := "BeamSetter$Piece", name := "stubsGoLeft", desc := "(I)Z" } : MethodName) prog_4_method_25_code (3 : Nat) (some FieldType.boolean)) ∈ TW := tw_in 972 (by decide +kernel) rfl
set_option maxRecDepth 20000 in
theorem k_973 : (Cond.methodLink "BeamSetter" (288 : Nat) ({ cls := "BeamSetter$Piece", name := "stubsOf", desc := "(I)I" } : MethodName)) ∈ TW := tw_in 973 (by decide +kernel) rfl
set_option maxRecDepth 20000 in
theorem k_974 : (Cond.instanceMethod ({ cls := "BeamSetter$Piece", name := "stubsOf", desc := "(I)I" } : MethodName)) ∈ TW := tw_in 974 (by decide +kernel) rfl
set_option maxRecDepth 20000 in
theorem k_975 : (Cond.selects "BeamSetter$Piece" ({ cls := "BeamSetter$Piece", name := "stubsOf", desc := "(I)I" } : MethodName) ({ cls := "BeamSetter$Piece", name := "stubsOf", desc := "(I)I" } : MethodName)) ∈ TW := tw_in 975 (by decide +kernel) rfl
set_option maxRecDepth 20000 in
theorem k_976 : (Cond.code ({ cls := "BeamSetter$Piece", name := "stubsOf", desc := "(I)I" } : MethodName) prog_4_method_24_code (2 : Nat) (some FieldType.int)) ∈ TW := tw_in 976 (by decide +kernel) rfl
set_option maxRecDepth 20000 in
theorem k_977 : (Cond.methodLink "BeamSetter$Piece" (120 : Nat) ({ cls := "BeamSetter$Piece", name := "beamsLeft", desc := "(I)I" } : MethodName)) ∈ TW := tw_in 977 (by decide +kernel) rfl
set_option maxRecDepth 20000 in
theorem k_978 : (Cond.methodLink "BeamSetter$Piece" (123 : Nat) ({ cls := "BeamSetter$Piece", name := "beamsRight", desc := "(I)I" } : MethodName)) ∈ TW := tw_in 978 (by decide +kernel) rfl
set_option maxRecDepth 20000 in
theorem k_982 : (Cond.code ({ cls := "BeamSetter", name := "total", desc := "(I)I" } : MethodName) prog_1_method_20_code (2 : Nat) (some FieldType.int)) ∈ TW := tw_in 982 (by decide +kernel) rfl
set_option maxRecDepth 20000 in
theorem k_983 : (Cond.methodLink "BeamSetter" (291 : Nat) ({ cls := "BeamSetter$Totals", name := "isWhat", desc := "(I)Z" } : MethodName)) ∈ TW := tw_in 983 (by decide +kernel) rfl
set_option maxRecDepth 20000 in
theorem k_984 : (Cond.static ({ cls := "BeamSetter$Totals", name := "isWhat", desc := "(I)Z" } : MethodName)) ∈ TW := tw_in 984 (by decide +kernel) rfl
set_option maxRecDepth 20000 in
theorem k_985 : (Cond.code ({ cls := "BeamSetter$Totals", name := "isWhat", desc := "(I)Z" } : MethodName) prog_8_method_2_code (1 : Nat) (some FieldType.boolean)) ∈ TW := tw_in 985 (by decide +kernel) rfl
set_option maxRecDepth 20000 in
theorem k_986 : (Cond.methodLink "BeamSetter" (297 : Nat) ({ cls := "BeamSetter$Totals", name := "take", desc := "(LBeamSetter$Piece;[IILBeamSetter$Group;)V" } : MethodName)) ∈ TW := tw_in 986 (by decide +kernel) rfl
set_option maxRecDepth 20000 in
theorem k_987 : (Cond.instanceMethod ({ cls := "BeamSetter$Totals", name := "take", desc := "(LBeamSetter$Piece;[IILBeamSetter$Group;)V" } : MethodName)) ∈ TW := tw_in 987 (by decide +kernel) rfl
set_option maxRecDepth 20000 in
theorem k_988 : (Cond.selects "BeamSetter$Totals" ({ cls := "BeamSetter$Totals", name := "take", desc := "(LBeamSetter$Piece;[IILBeamSetter$Group;)V" } : MethodName) ({ cls := "BeamSetter$Totals", name := "take", desc := "(LBeamSetter$Piece;[IILBeamSetter$Group;)V" } : MethodName)) ∈ TW := tw_in 988 (by decide +kernel) rfl
set_option maxRecDepth 20000 in
theorem k_989 : (Cond.code ({ cls := "BeamSetter$Totals", name := "take", desc := "(LBeamSetter$Piece;[IILBeamSetter$Group;)V" } : MethodName) prog_8_method_3_code (10 : Nat) (none : Option FieldType)) ∈ TW := tw_in 989 (by decide +kernel) rfl
set_option maxRecDepth 20000 in
theorem k_990 : (Cond.methodLink "BeamSetter$Totals" (36 : Nat) ({ cls := "BeamSetter$Group", name := "load", desc := "(LBeamSetter$Piece;[IIII)V" } : MethodName)) ∈ TW := tw_in 990 (by decide +kernel) rfl
set_option maxRecDepth 20000 in
theorem k_991 : (Cond.methodLink "BeamSetter$Totals" (45 : Nat) ({ cls := "BeamSetter$Group", name := "findBest", desc := "()J" } : MethodName)) ∈ TW := tw_in 991 (by decide +kernel) rfl
set_option maxRecDepth 20000 in
theorem k_992 : (Cond.constantLong "BeamSetter$Totals" (49 : Nat) (9223372036854775807 : Int64)) ∈ TW := tw_in 992 (by decide +kernel) rfl
set_option maxRecDepth 20000 in
theorem k_993 : (Cond.methodLink "BeamSetter$Totals" (51 : Nat) ({ cls := "BeamSetter$Group", name := "uglinessOf", desc := "(J)I" } : MethodName)) ∈ TW := tw_in 993 (by decide +kernel) rfl
set_option maxRecDepth 20000 in
theorem k_994 : (Cond.methodLink "BeamSetter$Totals" (55 : Nat) ({ cls := "java/lang/Math", name := "max", desc := "(II)I" } : MethodName)) ∈ TW := tw_in 994 (by decide +kernel) rfl
set_option maxRecDepth 20000 in
theorem k_995 : (Cond.methodLink "BeamSetter" (301 : Nat) ({ cls := "BeamSetter$Totals", name := "tell", desc := "(I)I" } : MethodName)) ∈ TW := tw_in 995 (by decide +kernel) rfl
set_option maxRecDepth 20000 in
theorem k_996 : (Cond.instanceMethod ({ cls := "BeamSetter$Totals", name := "tell", desc := "(I)I" } : MethodName)) ∈ TW := tw_in 996 (by decide +kernel) rfl
set_option maxRecDepth 20000 in
theorem k_997 : (Cond.selects "BeamSetter$Totals" ({ cls := "BeamSetter$Totals", name := "tell", desc := "(I)I" } : MethodName) ({ cls := "BeamSetter$Totals", name := "tell", desc := "(I)I" } : MethodName)) ∈ TW := tw_in 997 (by decide +kernel) rfl
set_option maxRecDepth 20000 in
theorem k_998 : (Cond.code ({ cls := "BeamSetter$Totals", name := "tell", desc := "(I)I" } : MethodName) prog_8_method_4_code (2 : Nat) (some FieldType.int)) ∈ TW := tw_in 998 (by decide +kernel) rfl
set_option maxRecDepth 20000 in
theorem k_1002 : (Cond.code ({ cls := "BeamSetter", name := "ifPut", desc := "(III)I" } : MethodName) prog_1_method_21_code (4 : Nat) (some FieldType.int)) ∈ TW := tw_in 1002 (by decide +kernel) rfl
set_option maxRecDepth 20000 in
theorem k_1003 : (Cond.methodLink "BeamSetter" (303 : Nat) ({ cls := "BeamSetter", name := "tryShifted", desc := "(I)Z" } : MethodName)) ∈ TW := tw_in 1003 (by decide +kernel) rfl
set_option maxRecDepth 20000 in
theorem k_1005 : (Cond.instanceMethod ({ cls := "BeamSetter", name := "tryShifted", desc := "(I)Z" } : MethodName)) ∈ TW := tw_in 1005 (by decide +kernel) rfl
set_option maxRecDepth 20000 in
theorem k_1006 : (Cond.code ({ cls := "BeamSetter", name := "tryShifted", desc := "(I)Z" } : MethodName) prog_1_method_48_code (3 : Nat) (some FieldType.boolean)) ∈ TW := tw_in 1006 (by decide +kernel) rfl
set_option maxRecDepth 20000 in
theorem k_1007 : (Cond.methodLink "BeamSetter" (306 : Nat) ({ cls := "BeamSetter", name := "loadTried", desc := "(I)V" } : MethodName)) ∈ TW := tw_in 1007 (by decide +kernel) rfl
set_option maxRecDepth 20000 in
theorem k_1009 : (Cond.instanceMethod ({ cls := "BeamSetter", name := "loadTried", desc := "(I)V" } : MethodName)) ∈ TW := tw_in 1009 (by decide +kernel) rfl
set_option maxRecDepth 20000 in
theorem k_1010 : (Cond.code ({ cls := "BeamSetter", name := "loadTried", desc := "(I)V" } : MethodName) prog_1_method_46_code (2 : Nat) (none : Option FieldType)) ∈ TW := tw_in 1010 (by decide +kernel) rfl
set_option maxRecDepth 20000 in
theorem k_1014 : (Cond.code ({ cls := "BeamSetter", name := "wish", desc := "(I)I" } : MethodName) prog_1_method_22_code (9 : Nat) (some FieldType.int)) ∈ TW := tw_in 1014 (by decide +kernel) rfl
set_option maxRecDepth 20000 in
theorem k_1015 : (Cond.constant "BeamSetter" (309 : Nat) (2147483647 : Int32)) ∈ TW := tw_in 1015 (by decide +kernel) rfl
set_option maxRecDepth 20000 in
theorem k_1016 : (Cond.methodLink "BeamSetter" (310 : Nat) ({ cls := "BeamSetter", name := "outward", desc := "(I)I" } : MethodName)) ∈ TW := tw_in 1016 (by decide +kernel) rfl
set_option maxRecDepth 20000 in
theorem k_1017 : (Cond.static ({ cls := "BeamSetter", name := "outward", desc := "(I)I" } : MethodName)) ∈ TW := tw_in 1017 (by decide +kernel) rfl
set_option maxRecDepth 20000 in
theorem k_1018 : (Cond.code ({ cls := "BeamSetter", name := "outward", desc := "(I)I" } : MethodName) prog_1_method_44_code (1 : Nat) (some FieldType.int)) ∈ TW := tw_in 1018 (by decide +kernel) rfl
set_option maxRecDepth 20000 in
theorem k_1019 : (Cond.methodLink "BeamSetter" (313 : Nat) ({ cls := "BeamSetter$Group", name := "uglinessOf", desc := "(J)I" } : MethodName)) ∈ TW := tw_in 1019 (by decide +kernel) rfl
set_option maxRecDepth 20000 in
theorem k_1023 : (Cond.code ({ cls := "BeamSetter", name := "ifShifted", desc := "(II)I" } : MethodName) prog_1_method_23_code (3 : Nat) (some FieldType.int)) ∈ TW := tw_in 1023 (by decide +kernel) rfl
set_option maxRecDepth 20000 in
theorem k_1027 : (Cond.code ({ cls := "BeamSetter", name := "shift", desc := "()I" } : MethodName) prog_1_method_24_code (7 : Nat) (some FieldType.int)) ∈ TW := tw_in 1027 (by decide +kernel) rfl
set_option maxRecDepth 20000 in
theorem k_1028 : (Cond.methodLink "BeamSetter" (319 : Nat) ({ cls := "BeamSetter$Totals", name := "asideThenUgliness", desc := "()J" } : MethodName)) ∈ TW := tw_in 1028 (by decide +kernel) rfl
set_option maxRecDepth 20000 in
theorem k_1029 : (Cond.instanceMethod ({ cls := "BeamSetter$Totals", name := "asideThenUgliness", desc := "()J" } : MethodName)) ∈ TW := tw_in 1029 (by decide +kernel) rfl
set_option maxRecDepth 20000 in
theorem k_1030 : (Cond.selects "BeamSetter$Totals" ({ cls := "BeamSetter$Totals", name := "asideThenUgliness", desc := "()J" } : MethodName) ({ cls := "BeamSetter$Totals", name := "asideThenUgliness", desc := "()J" } : MethodName)) ∈ TW := tw_in 1030 (by decide +kernel) rfl
set_option maxRecDepth 20000 in
theorem k_1031 : (Cond.code ({ cls := "BeamSetter$Totals", name := "asideThenUgliness", desc := "()J" } : MethodName) prog_8_method_5_code (1 : Nat) (some FieldType.long)) ∈ TW := tw_in 1031 (by decide +kernel) rfl
set_option maxRecDepth 20000 in
theorem k_1035 : (Cond.code ({ cls := "BeamSetter", name := "mirrored", desc := "(I)I" } : MethodName) prog_1_method_25_code (7 : Nat) (some FieldType.int)) ∈ TW := tw_in 1035 (by decide +kernel) rfl
set_option maxRecDepth 20000 in
theorem k_1039 : (Cond.code ({ cls := "BeamSetter", name := "ifKnee", desc := "(II)I" } : MethodName) prog_1_method_26_code (3 : Nat) (some FieldType.int)) ∈ TW := tw_in 1039 (by decide +kernel) rfl
set_option maxRecDepth 20000 in
theorem k_1043 : (Cond.code ({ cls := "BeamSetter", name := "ifParts", desc := "(I)I" } : MethodName) prog_1_method_27_code (2 : Nat) (some FieldType.int)) ∈ TW := tw_in 1043 (by decide +kernel) rfl
set_option maxRecDepth 20000 in
theorem k_1044 : (Cond.methodLink "BeamSetter" (323 : Nat) ({ cls := "BeamSetter$Piece", name := "countGroups", desc := "(I)I" } : MethodName)) ∈ TW := tw_in 1044 (by decide +kernel) rfl
set_option maxRecDepth 20000 in
theorem k_1045 : (Cond.instanceMethod ({ cls := "BeamSetter$Piece", name := "countGroups", desc := "(I)I" } : MethodName)) ∈ TW := tw_in 1045 (by decide +kernel) rfl
set_option maxRecDepth 20000 in
theorem k_1046 : (Cond.selects "BeamSetter$Piece" ({ cls := "BeamSetter$Piece", name := "countGroups", desc := "(I)I" } : MethodName) ({ cls := "BeamSetter$Piece", name := "countGroups", desc := "(I)I" } : MethodName)) ∈ TW := tw_in 1046 (by decide +kernel) rfl
set_option maxRecDepth 20000 in
theorem k_1047 : (Cond.code ({ cls := "BeamSetter$Piece", name := "countGroups", desc := "(I)I" } : MethodName) prog_4_method_18_code (5 : Nat) (some FieldType.int)) ∈ TW := tw_in 1047 (by decide +kernel) rfl
set_option maxRecDepth 20000 in
theorem k_1051 : (Cond.code ({ cls := "BeamSetter", name := "alone", desc := "(I)I" } : MethodName) prog_1_method_28_code (5 : Nat) (some FieldType.int)) ∈ TW := tw_in 1051 (by decide +kernel) rfl
set_option maxRecDepth 20000 in
theorem k_1052 : (Cond.methodLink "BeamSetter" (133 : Nat) ({ cls := "BeamSetter$Piece", name := "beamsOf", desc := "(I)I" } : MethodName)) ∈ TW := tw_in 1052 (by decide +kernel) rfl
set_option maxRecDepth 20000 in
theorem k_1056 : (Cond.code ({ cls := "BeamSetter", name := "stretches", desc := "(II)I" } : MethodName) prog_1_method_29_code (5 : Nat) (some FieldType.int)) ∈ TW := tw_in 1056 (by decide +kernel) rfl
set_option maxRecDepth 20000 in
theorem k_1057 : (Cond.methodLink "BeamSetter" (326 : Nat) ({ cls := "BeamSetter$Piece", name := "lastOf", desc := "(I)I" } : MethodName)) ∈ TW := tw_in 1057 (by decide +kernel) rfl
set_option maxRecDepth 20000 in
theorem k_1058 : (Cond.instanceMethod ({ cls := "BeamSetter$Piece", name := "lastOf", desc := "(I)I" } : MethodName)) ∈ TW := tw_in 1058 (by decide +kernel) rfl
set_option maxRecDepth 20000 in
theorem k_1059 : (Cond.selects "BeamSetter$Piece" ({ cls := "BeamSetter$Piece", name := "lastOf", desc := "(I)I" } : MethodName) ({ cls := "BeamSetter$Piece", name := "lastOf", desc := "(I)I" } : MethodName)) ∈ TW := tw_in 1059 (by decide +kernel) rfl
set_option maxRecDepth 20000 in
theorem k_1060 : (Cond.code ({ cls := "BeamSetter$Piece", name := "lastOf", desc := "(I)I" } : MethodName) prog_4_method_20_code (2 : Nat) (some FieldType.int)) ∈ TW := tw_in 1060 (by decide +kernel) rfl
set_option maxRecDepth 20000 in
theorem k_1061 : (Cond.methodLink "BeamSetter" (329 : Nat) ({ cls := "BeamSetter$Piece", name := "startsStretch", desc := "(II)Z" } : MethodName)) ∈ TW := tw_in 1061 (by decide +kernel) rfl
set_option maxRecDepth 20000 in
theorem k_1062 : (Cond.instanceMethod ({ cls := "BeamSetter$Piece", name := "startsStretch", desc := "(II)Z" } : MethodName)) ∈ TW := tw_in 1062 (by decide +kernel) rfl
set_option maxRecDepth 20000 in
theorem k_1063 : (Cond.selects "BeamSetter$Piece" ({ cls := "BeamSetter$Piece", name := "startsStretch", desc := "(II)Z" } : MethodName) ({ cls := "BeamSetter$Piece", name := "startsStretch", desc := "(II)Z" } : MethodName)) ∈ TW := tw_in 1063 (by decide +kernel) rfl
set_option maxRecDepth 20000 in
theorem k_1064 : (Cond.code ({ cls := "BeamSetter$Piece", name := "startsStretch", desc := "(II)Z" } : MethodName) prog_4_method_26_code (3 : Nat) (some FieldType.boolean)) ∈ TW := tw_in 1064 (by decide +kernel) rfl
set_option maxRecDepth 20000 in
theorem k_1068 : (Cond.code ({ cls := "BeamSetter", name := "stretch", desc := "(IIII)I" } : MethodName) prog_1_method_30_code (7 : Nat) (some FieldType.int)) ∈ TW := tw_in 1068 (by decide +kernel) rfl
set_option maxRecDepth 20000 in
theorem k_1069 : (Cond.methodLink "BeamSetter" (332 : Nat) ({ cls := "BeamSetter$Piece", name := "stretchEnd", desc := "(II)I" } : MethodName)) ∈ TW := tw_in 1069 (by decide +kernel) rfl
set_option maxRecDepth 20000 in
theorem k_1070 : (Cond.instanceMethod ({ cls := "BeamSetter$Piece", name := "stretchEnd", desc := "(II)I" } : MethodName)) ∈ TW := tw_in 1070 (by decide +kernel) rfl
set_option maxRecDepth 20000 in
theorem k_1071 : (Cond.selects "BeamSetter$Piece" ({ cls := "BeamSetter$Piece", name := "stretchEnd", desc := "(II)I" } : MethodName) ({ cls := "BeamSetter$Piece", name := "stretchEnd", desc := "(II)I" } : MethodName)) ∈ TW := tw_in 1071 (by decide +kernel) rfl
set_option maxRecDepth 20000 in
theorem k_1072 : (Cond.code ({ cls := "BeamSetter$Piece", name := "stretchEnd", desc := "(II)I" } : MethodName) prog_4_method_27_code (4 : Nat) (some FieldType.int)) ∈ TW := tw_in 1072 (by decide +kernel) rfl
set_option maxRecDepth 20000 in
theorem k_1073 : (Cond.methodLink "BeamSetter" (335 : Nat) ({ cls := "BeamSetter", name := "tellStretch", desc := "(III)I" } : MethodName)) ∈ TW := tw_in 1073 (by decide +kernel) rfl
set_option maxRecDepth 20000 in
theorem k_1075 : (Cond.instanceMethod ({ cls := "BeamSetter", name := "tellStretch", desc := "(III)I" } : MethodName)) ∈ TW := tw_in 1075 (by decide +kernel) rfl
set_option maxRecDepth 20000 in
theorem k_1076 : (Cond.code ({ cls := "BeamSetter", name := "tellStretch", desc := "(III)I" } : MethodName) prog_1_method_50_code (4 : Nat) (some FieldType.int)) ∈ TW := tw_in 1076 (by decide +kernel) rfl
set_option maxRecDepth 20000 in
theorem k_1080 : (Cond.code ({ cls := "BeamSetter", name := "level", desc := "(II)I" } : MethodName) prog_1_method_31_code (5 : Nat) (some FieldType.int)) ∈ TW := tw_in 1080 (by decide +kernel) rfl
set_option maxRecDepth 20000 in
theorem k_1081 : (Cond.methodLink "BeamSetter" (338 : Nat) ({ cls := "BeamSetter$Group", name := "findLevel", desc := "()J" } : MethodName)) ∈ TW := tw_in 1081 (by decide +kernel) rfl
set_option maxRecDepth 20000 in
theorem k_1082 : (Cond.instanceMethod ({ cls := "BeamSetter$Group", name := "findLevel", desc := "()J" } : MethodName)) ∈ TW := tw_in 1082 (by decide +kernel) rfl
set_option maxRecDepth 20000 in
theorem k_1083 : (Cond.selects "BeamSetter$Group" ({ cls := "BeamSetter$Group", name := "findLevel", desc := "()J" } : MethodName) ({ cls := "BeamSetter$Group", name := "findLevel", desc := "()J" } : MethodName)) ∈ TW := tw_in 1083 (by decide +kernel) rfl
set_option maxRecDepth 20000 in
theorem k_1084 : (Cond.code ({ cls := "BeamSetter$Group", name := "findLevel", desc := "()J" } : MethodName) prog_2_method_34_code (1 : Nat) (some FieldType.long)) ∈ TW := tw_in 1084 (by decide +kernel) rfl
set_option maxRecDepth 20000 in
theorem k_1088 : (Cond.code ({ cls := "BeamSetter", name := "ifCut", desc := "(II)I" } : MethodName) prog_1_method_32_code (3 : Nat) (some FieldType.int)) ∈ TW := tw_in 1088 (by decide +kernel) rfl
set_option maxRecDepth 20000 in
theorem k_1089 : (Cond.methodLink "BeamSetter" (344 : Nat) ({ cls := "BeamSetter", name := "uglinessOfCut", desc := "(II)I" } : MethodName)) ∈ TW := tw_in 1089 (by decide +kernel) rfl
set_option maxRecDepth 20000 in
theorem k_1091 : (Cond.instanceMethod ({ cls := "BeamSetter", name := "uglinessOfCut", desc := "(II)I" } : MethodName)) ∈ TW := tw_in 1091 (by decide +kernel) rfl
set_option maxRecDepth 20000 in
theorem k_1092 : (Cond.code ({ cls := "BeamSetter", name := "uglinessOfCut", desc := "(II)I" } : MethodName) prog_1_method_51_code (5 : Nat) (some FieldType.int)) ∈ TW := tw_in 1092 (by decide +kernel) rfl
set_option maxRecDepth 20000 in
theorem k_1093 : (Cond.methodLink "BeamSetter" (385 : Nat) ({ cls := "BeamSetter", name := "uglinessOfNotes", desc := "(II)I" } : MethodName)) ∈ TW := tw_in 1093 (by decide +kernel) rfl
set_option maxRecDepth 20000 in
theorem k_1095 : (Cond.instanceMethod ({ cls := "BeamSetter", name := "uglinessOfNotes", desc := "(II)I" } : MethodName)) ∈ TW := tw_in 1095 (by decide +kernel) rfl
set_option maxRecDepth 20000 in
theorem k_1096 : (Cond.code ({ cls := "BeamSetter", name := "uglinessOfNotes", desc := "(II)I" } : MethodName) prog_1_method_52_code (5 : Nat) (some FieldType.int)) ∈ TW := tw_in 1096 (by decide +kernel) rfl
set_option maxRecDepth 20000 in
theorem k_1100 : (Cond.code ({ cls := "BeamSetter", name := "cut", desc := "(I)I" } : MethodName) prog_1_method_33_code (6 : Nat) (some FieldType.int)) ∈ TW := tw_in 1100 (by decide +kernel) rfl
set_option maxRecDepth 20000 in
theorem k_1104 : (Cond.code ({ cls := "BeamSetter", name := "smooth", desc := "(II)I" } : MethodName) prog_1_method_34_code (3 : Nat) (some FieldType.int)) ∈ TW := tw_in 1104 (by decide +kernel) rfl
set_option maxRecDepth 20000 in
theorem k_1105 : (Cond.methodLink "BeamSetter" (347 : Nat) ({ cls := "BeamSetter$Smoother", name := "weigh", desc := "(LBeamSetter$Piece;LBeamSetter$Group;I)Z" } : MethodName)) ∈ TW := tw_in 1105 (by decide +kernel) rfl
set_option maxRecDepth 20000 in
theorem k_1106 : (Cond.instanceMethod ({ cls := "BeamSetter$Smoother", name := "weigh", desc := "(LBeamSetter$Piece;LBeamSetter$Group;I)Z" } : MethodName)) ∈ TW := tw_in 1106 (by decide +kernel) rfl
set_option maxRecDepth 20000 in
theorem k_1107 : (Cond.selects "BeamSetter$Smoother" ({ cls := "BeamSetter$Smoother", name := "weigh", desc := "(LBeamSetter$Piece;LBeamSetter$Group;I)Z" } : MethodName) ({ cls := "BeamSetter$Smoother", name := "weigh", desc := "(LBeamSetter$Piece;LBeamSetter$Group;I)Z" } : MethodName)) ∈ TW := tw_in 1107 (by decide +kernel) rfl
set_option maxRecDepth 20000 in
theorem k_1108 : (Cond.code ({ cls := "BeamSetter$Smoother", name := "weigh", desc := "(LBeamSetter$Piece;LBeamSetter$Group;I)Z" } : MethodName) prog_6_method_2_code (7 : Nat) (some FieldType.boolean)) ∈ TW := tw_in 1108 (by decide +kernel) rfl
set_option maxRecDepth 20000 in
theorem k_1109 : (Cond.methodLink "BeamSetter$Smoother" (24 : Nat) ({ cls := "java/lang/Math", name := "min", desc := "(II)I" } : MethodName)) ∈ TW := tw_in 1109 (by decide +kernel) rfl
set_option maxRecDepth 20000 in
theorem k_1110 : (Cond.methodLink "BeamSetter$Smoother" (33 : Nat) ({ cls := "BeamSetter$Smoother", name := "loadGathered", desc := "(LBeamSetter$Piece;LBeamSetter$Group;I)V" } : MethodName)) ∈ TW := tw_in 1110 (by decide +kernel) rfl
set_option maxRecDepth 20000 in
theorem k_1111 : (Cond.static ({ cls := "BeamSetter$Smoother", name := "loadGathered", desc := "(LBeamSetter$Piece;LBeamSetter$Group;I)V" } : MethodName)) ∈ TW := tw_in 1111 (by decide +kernel) rfl
set_option maxRecDepth 20000 in
theorem k_1112 : (Cond.code ({ cls := "BeamSetter$Smoother", name := "loadGathered", desc := "(LBeamSetter$Piece;LBeamSetter$Group;I)V" } : MethodName) prog_6_method_3_code (3 : Nat) (none : Option FieldType)) ∈ TW := tw_in 1112 (by decide +kernel) rfl
set_option maxRecDepth 20000 in
theorem k_1113 : (Cond.methodLink "BeamSetter$Smoother" (57 : Nat) ({ cls := "BeamSetter$Group", name := "load", desc := "(LBeamSetter$Piece;[IIII)V" } : MethodName)) ∈ TW := tw_in 1113 (by decide +kernel) rfl
set_option maxRecDepth 20000 in
theorem k_1114 : (Cond.methodLink "BeamSetter$Smoother" (61 : Nat) ({ cls := "BeamSetter$Group", name := "gather", desc := "()I" } : MethodName)) ∈ TW := tw_in 1114 (by decide +kernel) rfl
set_option maxRecDepth 20000 in
theorem k_1115 : (Cond.methodLink "BeamSetter$Smoother" (37 : Nat) ({ cls := "BeamSetter$Smoother", name := "weighByLeft", desc := "(LBeamSetter$Group;I)I" } : MethodName)) ∈ TW := tw_in 1115 (by decide +kernel) rfl
set_option maxRecDepth 20000 in
theorem k_1117 : (Cond.instanceMethod ({ cls := "BeamSetter$Smoother", name := "weighByLeft", desc := "(LBeamSetter$Group;I)I" } : MethodName)) ∈ TW := tw_in 1117 (by decide +kernel) rfl
set_option maxRecDepth 20000 in
theorem k_1118 : (Cond.code ({ cls := "BeamSetter$Smoother", name := "weighByLeft", desc := "(LBeamSetter$Group;I)I" } : MethodName) prog_6_method_4_code (9 : Nat) (some FieldType.int)) ∈ TW := tw_in 1118 (by decide +kernel) rfl
set_option maxRecDepth 20000 in
theorem k_1119 : (Cond.constant "BeamSetter$Smoother" (41 : Nat) (1000000000 : Int32)) ∈ TW := tw_in 1119 (by decide +kernel) rfl
set_option maxRecDepth 20000 in
theorem k_1120 : (Cond.methodLink "BeamSetter$Smoother" (72 : Nat) ({ cls := "BeamSetter$Smoother", name := "costFrom", desc := "(LBeamSetter$Group;IJ)I" } : MethodName)) ∈ TW := tw_in 1120 (by decide +kernel) rfl
set_option maxRecDepth 20000 in
theorem k_1122 : (Cond.instanceMethod ({ cls := "BeamSetter$Smoother", name := "costFrom", desc := "(LBeamSetter$Group;IJ)I" } : MethodName)) ∈ TW := tw_in 1122 (by decide +kernel) rfl
set_option maxRecDepth 20000 in
theorem k_1123 : (Cond.code ({ cls := "BeamSetter$Smoother", name := "costFrom", desc := "(LBeamSetter$Group;IJ)I" } : MethodName) prog_6_method_5_code (6 : Nat) (some FieldType.int)) ∈ TW := tw_in 1123 (by decide +kernel) rfl
set_option maxRecDepth 20000 in
theorem k_1124 : (Cond.methodLink "BeamSetter$Smoother" (80 : Nat) ({ cls := "BeamSetter$Group", name := "rightOf", desc := "(J)I" } : MethodName)) ∈ TW := tw_in 1124 (by decide +kernel) rfl
set_option maxRecDepth 20000 in
theorem k_1125 : (Cond.methodLink "BeamSetter$Smoother" (83 : Nat) ({ cls := "BeamSetter$Group", name := "uglinessOf", desc := "(J)I" } : MethodName)) ∈ TW := tw_in 1125 (by decide +kernel) rfl
set_option maxRecDepth 20000 in
theorem k_1126 : (Cond.methodLink "BeamSetter$Smoother" (76 : Nat) ({ cls := "BeamSetter$Group", name := "leftOf", desc := "(J)I" } : MethodName)) ∈ TW := tw_in 1126 (by decide +kernel) rfl
set_option maxRecDepth 20000 in
theorem k_1127 : (Cond.methodLink "BeamSetter$Smoother" (42 : Nat) ({ cls := "BeamSetter$Smoother", name := "leastNear", desc := "(II)I" } : MethodName)) ∈ TW := tw_in 1127 (by decide +kernel) rfl
set_option maxRecDepth 20000 in
theorem k_1129 : (Cond.instanceMethod ({ cls := "BeamSetter$Smoother", name := "leastNear", desc := "(II)I" } : MethodName)) ∈ TW := tw_in 1129 (by decide +kernel) rfl
set_option maxRecDepth 20000 in
theorem k_1130 : (Cond.code ({ cls := "BeamSetter$Smoother", name := "leastNear", desc := "(II)I" } : MethodName) prog_6_method_6_code (6 : Nat) (some FieldType.int)) ∈ TW := tw_in 1130 (by decide +kernel) rfl
set_option maxRecDepth 20000 in
theorem k_1131 : (Cond.methodLink "BeamSetter$Smoother" (86 : Nat) ({ cls := "java/lang/Math", name := "max", desc := "(II)I" } : MethodName)) ∈ TW := tw_in 1131 (by decide +kernel) rfl
set_option maxRecDepth 20000 in
theorem k_1135 : (Cond.code ({ cls := "BeamSetter", name := "smoothed", desc := "(III)I" } : MethodName) prog_1_method_35_code (6 : Nat) (some FieldType.int)) ∈ TW := tw_in 1135 (by decide +kernel) rfl
set_option maxRecDepth 20000 in
theorem k_1136 : (Cond.methodLink "BeamSetter" (357 : Nat) ({ cls := "BeamSetter$Smoother", name := "choose", desc := "(LBeamSetter$Piece;LBeamSetter$Group;II)J" } : MethodName)) ∈ TW := tw_in 1136 (by decide +kernel) rfl
set_option maxRecDepth 20000 in
theorem k_1137 : (Cond.instanceMethod ({ cls := "BeamSetter$Smoother", name := "choose", desc := "(LBeamSetter$Piece;LBeamSetter$Group;II)J" } : MethodName)) ∈ TW := tw_in 1137 (by decide +kernel) rfl
set_option maxRecDepth 20000 in
theorem k_1138 : (Cond.selects "BeamSetter$Smoother" ({ cls := "BeamSetter$Smoother", name := "choose", desc := "(LBeamSetter$Piece;LBeamSetter$Group;II)J" } : MethodName) ({ cls := "BeamSetter$Smoother", name := "choose", desc := "(LBeamSetter$Piece;LBeamSetter$Group;II)J" } : MethodName)) ∈ TW := tw_in 1138 (by decide +kernel) rfl
set_option maxRecDepth 20000 in
theorem k_1139 : (Cond.code ({ cls := "BeamSetter$Smoother", name := "choose", desc := "(LBeamSetter$Piece;LBeamSetter$Group;II)J" } : MethodName) prog_6_method_7_code (9 : Nat) (some FieldType.long)) ∈ TW := tw_in 1139 (by decide +kernel) rfl
set_option maxRecDepth 20000 in
theorem k_1140 : (Cond.constantLong "BeamSetter$Smoother" (89 : Nat) (9223372036854775807 : Int64)) ∈ TW := tw_in 1140 (by decide +kernel) rfl
set_option maxRecDepth 20000 in
theorem k_1141 : (Cond.methodLink "BeamSetter$Smoother" (91 : Nat) ({ cls := "BeamSetter$Smoother", name := "cheapest", desc := "(LBeamSetter$Group;III)J" } : MethodName)) ∈ TW := tw_in 1141 (by decide +kernel) rfl
set_option maxRecDepth 20000 in
theorem k_1143 : (Cond.instanceMethod ({ cls := "BeamSetter$Smoother", name := "cheapest", desc := "(LBeamSetter$Group;III)J" } : MethodName)) ∈ TW := tw_in 1143 (by decide +kernel) rfl
set_option maxRecDepth 20000 in
theorem k_1144 : (Cond.code ({ cls := "BeamSetter$Smoother", name := "cheapest", desc := "(LBeamSetter$Group;III)J" } : MethodName) prog_6_method_8_code (12 : Nat) (some FieldType.long)) ∈ TW := tw_in 1144 (by decide +kernel) rfl
set_option maxRecDepth 20000 in
theorem k_1145 : (Cond.methodLink "BeamSetter$Smoother" (95 : Nat) ({ cls := "java/lang/Math", name := "abs", desc := "(I)I" } : MethodName)) ∈ TW := tw_in 1145 (by decide +kernel) rfl
set_option maxRecDepth 20000 in
theorem k_1149 : (Cond.code ({ cls := "BeamSetter", name := "single", desc := "(II)I" } : MethodName) prog_1_method_36_code (6 : Nat) (some FieldType.int)) ∈ TW := tw_in 1149 (by decide +kernel) rfl
set_option maxRecDepth 20000 in
theorem k_1150 : (Cond.methodLink "BeamSetter" (361 : Nat) ({ cls := "BeamSetter$Group", name := "idealLength", desc := "(III)I" } : MethodName)) ∈ TW := tw_in 1150 (by decide +kernel) rfl
set_option maxRecDepth 20000 in
theorem k_1154 : (Cond.code ({ cls := "BeamSetter", name := "extreme", desc := "(II)I" } : MethodName) prog_1_method_37_code (8 : Nat) (some FieldType.int)) ∈ TW := tw_in 1154 (by decide +kernel) rfl
set_option maxRecDepth 20000 in
theorem k_1158 : (Cond.code ({ cls := "BeamSetter", name := "count", desc := "(I)I" } : MethodName) prog_1_method_38_code (2 : Nat) (some FieldType.int)) ∈ TW := tw_in 1158 (by decide +kernel) rfl
set_option maxRecDepth 20000 in
theorem k_1159 : (Cond.methodLink "BeamSetter" (364 : Nat) ({ cls := "BeamSetter$Piece", name := "countNotes", desc := "()I" } : MethodName)) ∈ TW := tw_in 1159 (by decide +kernel) rfl
set_option maxRecDepth 20000 in
theorem k_1160 : (Cond.instanceMethod ({ cls := "BeamSetter$Piece", name := "countNotes", desc := "()I" } : MethodName)) ∈ TW := tw_in 1160 (by decide +kernel) rfl
set_option maxRecDepth 20000 in
theorem k_1161 : (Cond.selects "BeamSetter$Piece" ({ cls := "BeamSetter$Piece", name := "countNotes", desc := "()I" } : MethodName) ({ cls := "BeamSetter$Piece", name := "countNotes", desc := "()I" } : MethodName)) ∈ TW := tw_in 1161 (by decide +kernel) rfl
set_option maxRecDepth 20000 in
theorem k_1162 : (Cond.code ({ cls := "BeamSetter$Piece", name := "countNotes", desc := "()I" } : MethodName) prog_4_method_28_code (3 : Nat) (some FieldType.int)) ∈ TW := tw_in 1162 (by decide +kernel) rfl
set_option maxRecDepth 20000 in
theorem k_1163 : (Cond.methodLink "BeamSetter" (367 : Nat) ({ cls := "BeamSetter$Piece", name := "countMeasures", desc := "()I" } : MethodName)) ∈ TW := tw_in 1163 (by decide +kernel) rfl
set_option maxRecDepth 20000 in
theorem k_1164 : (Cond.instanceMethod ({ cls := "BeamSetter$Piece", name := "countMeasures", desc := "()I" } : MethodName)) ∈ TW := tw_in 1164 (by decide +kernel) rfl
set_option maxRecDepth 20000 in
theorem k_1165 : (Cond.selects "BeamSetter$Piece" ({ cls := "BeamSetter$Piece", name := "countMeasures", desc := "()I" } : MethodName) ({ cls := "BeamSetter$Piece", name := "countMeasures", desc := "()I" } : MethodName)) ∈ TW := tw_in 1165 (by decide +kernel) rfl
set_option maxRecDepth 20000 in
theorem k_1166 : (Cond.code ({ cls := "BeamSetter$Piece", name := "countMeasures", desc := "()I" } : MethodName) prog_4_method_29_code (1 : Nat) (some FieldType.int)) ∈ TW := tw_in 1166 (by decide +kernel) rfl
set_option maxRecDepth 20000 in
theorem k_1175 : (Cond.code ({ cls := "BeamSetter", name := "element", desc := "(II)I" } : MethodName) prog_1_method_5_code (3 : Nat) (some FieldType.int)) ∈ TW := tw_in 1175 (by decide +kernel) rfl
set_option maxRecDepth 20000 in
theorem k_1242 : (Cond.methodLink "BeamSetter" (113 : Nat) ({ cls := "BeamSetter$Piece", name := "timeWithin", desc := "(I)I" } : MethodName)) ∈ TW := tw_in 1242 (by decide +kernel) rfl
set_option maxRecDepth 20000 in
theorem k_1243 : (Cond.methodLink "BeamSetter" (117 : Nat) ({ cls := "BeamSetter$Piece", name := "measureOf", desc := "(I)I" } : MethodName)) ∈ TW := tw_in 1243 (by decide +kernel) rfl
set_option maxRecDepth 20000 in
theorem k_1244 : (Cond.methodLink "BeamSetter" (120 : Nat) ({ cls := "BeamSetter$Piece", name := "partOf", desc := "(II)I" } : MethodName)) ∈ TW := tw_in 1244 (by decide +kernel) rfl
set_option maxRecDepth 20000 in
theorem k_1267 : (Cond.code ({ cls := "BeamSetter", name := "group", desc := "(II)I" } : MethodName) prog_1_method_10_code (3 : Nat) (some FieldType.int)) ∈ TW := tw_in 1267 (by decide +kernel) rfl
set_option maxRecDepth 20000 in
theorem k_1269 : (Cond.methodLink "BeamSetter" (190 : Nat) ({ cls := "BeamSetter$Group", name := "mostBeams", desc := "()I" } : MethodName)) ∈ TW := tw_in 1269 (by decide +kernel) rfl
set_option maxRecDepth 20000 in
theorem k_1270 : (Cond.instanceMethod ({ cls := "BeamSetter$Group", name := "mostBeams", desc := "()I" } : MethodName)) ∈ TW := tw_in 1270 (by decide +kernel) rfl
set_option maxRecDepth 20000 in
theorem k_1271 : (Cond.selects "BeamSetter$Group" ({ cls := "BeamSetter$Group", name := "mostBeams", desc := "()I" } : MethodName) ({ cls := "BeamSetter$Group", name := "mostBeams", desc := "()I" } : MethodName)) ∈ TW := tw_in 1271 (by decide +kernel) rfl
set_option maxRecDepth 20000 in
theorem k_1272 : (Cond.code ({ cls := "BeamSetter$Group", name := "mostBeams", desc := "()I" } : MethodName) prog_2_method_21_code (3 : Nat) (some FieldType.int)) ∈ TW := tw_in 1272 (by decide +kernel) rfl
set_option maxRecDepth 20000 in
theorem k_1273 : (Cond.methodLink "BeamSetter" (196 : Nat) ({ cls := "BeamSetter$Group", name := "howManyUp", desc := "()I" } : MethodName)) ∈ TW := tw_in 1273 (by decide +kernel) rfl
set_option maxRecDepth 20000 in
theorem k_1274 : (Cond.instanceMethod ({ cls := "BeamSetter$Group", name := "howManyUp", desc := "()I" } : MethodName)) ∈ TW := tw_in 1274 (by decide +kernel) rfl
set_option maxRecDepth 20000 in
theorem k_1275 : (Cond.selects "BeamSetter$Group" ({ cls := "BeamSetter$Group", name := "howManyUp", desc := "()I" } : MethodName) ({ cls := "BeamSetter$Group", name := "howManyUp", desc := "()I" } : MethodName)) ∈ TW := tw_in 1275 (by decide +kernel) rfl
set_option maxRecDepth 20000 in
theorem k_1276 : (Cond.code ({ cls := "BeamSetter$Group", name := "howManyUp", desc := "()I" } : MethodName) prog_2_method_22_code (3 : Nat) (some FieldType.int)) ∈ TW := tw_in 1276 (by decide +kernel) rfl
set_option maxRecDepth 20000 in
theorem k_1283 : (Cond.fieldLink "BeamSetterModel" (112 : Nat) "BeamSetterModel" "thrown" "I") ∈ TW := tw_in 1283 (by decide +kernel) rfl
set_option maxRecDepth 20000 in
theorem k_1284 : (Cond.fieldLink "BeamSetterModel" (7 : Nat) "BeamSetterModel" "beats" "I") ∈ TW := tw_in 1284 (by decide +kernel) rfl
set_option maxRecDepth 20000 in
theorem k_1285 : (Cond.fieldLink "BeamSetterModel" (13 : Nat) "BeamSetterModel" "unit" "I") ∈ TW := tw_in 1285 (by decide +kernel) rfl
set_option maxRecDepth 20000 in
theorem k_1286 : (Cond.fieldLink "BeamSetterModel" (16 : Nat) "BeamSetterModel" "part" "[I") ∈ TW := tw_in 1286 (by decide +kernel) rfl
set_option maxRecDepth 20000 in
theorem k_1287 : (Cond.fieldLink "BeamSetterModel" (119 : Nat) "BeamSetterModel" "partMany" "I") ∈ TW := tw_in 1287 (by decide +kernel) rfl
set_option maxRecDepth 20000 in
theorem k_1288 : (Cond.fieldLink "BeamSetterModel" (20 : Nat) "BeamSetterModel" "knee" "I") ∈ TW := tw_in 1288 (by decide +kernel) rfl
set_option maxRecDepth 20000 in
theorem k_1289 : (Cond.fieldLink "BeamSetterModel" (23 : Nat) "BeamSetterModel" "wide" "[I") ∈ TW := tw_in 1289 (by decide +kernel) rfl
set_option maxRecDepth 20000 in
theorem k_1290 : (Cond.fieldLink "BeamSetterModel" (133 : Nat) "BeamSetterModel" "elements" "I") ∈ TW := tw_in 1290 (by decide +kernel) rfl
set_option maxRecDepth 20000 in
theorem k_1291 : (Cond.fieldLink "BeamSetterModel" (26 : Nat) "BeamSetterModel" "kind" "[I") ∈ TW := tw_in 1291 (by decide +kernel) rfl
set_option maxRecDepth 20000 in
theorem k_1292 : (Cond.fieldLink "BeamSetterModel" (29 : Nat) "BeamSetterModel" "isNote" "[Z") ∈ TW := tw_in 1292 (by decide +kernel) rfl
set_option maxRecDepth 20000 in
theorem k_1293 : (Cond.fieldLink "BeamSetterModel" (33 : Nat) "BeamSetterModel" "position" "[I") ∈ TW := tw_in 1293 (by decide +kernel) rfl
set_option maxRecDepth 20000 in
theorem k_1294 : (Cond.fieldLink "BeamSetterModel" (371 : Nat) "BeamSetterModel" "lines" "I") ∈ TW := tw_in 1294 (by decide +kernel) rfl
set_option maxRecDepth 20000 in
theorem k_1295 : (Cond.fieldLink "BeamSetterModel" (36 : Nat) "BeamSetterModel" "time" "[I") ∈ TW := tw_in 1295 (by decide +kernel) rfl
set_option maxRecDepth 20000 in
theorem k_1296 : (Cond.fieldLink "BeamSetterModel" (39 : Nat) "BeamSetterModel" "x" "[I") ∈ TW := tw_in 1296 (by decide +kernel) rfl
set_option maxRecDepth 20000 in
theorem k_1297 : (Cond.fieldLink "BeamSetterModel" (42 : Nat) "BeamSetterModel" "groupOf" "[I") ∈ TW := tw_in 1297 (by decide +kernel) rfl
set_option maxRecDepth 20000 in
theorem k_1298 : (Cond.fieldLink "BeamSetterModel" (45 : Nat) "BeamSetterModel" "groupFirst" "[I") ∈ TW := tw_in 1298 (by decide +kernel) rfl
set_option maxRecDepth 20000 in
theorem k_1299 : (Cond.fieldLink "BeamSetterModel" (48 : Nat) "BeamSetterModel" "groupMany" "[I") ∈ TW := tw_in 1299 (by decide +kernel) rfl
set_option maxRecDepth 20000 in
theorem k_1300 : (Cond.fieldLink "BeamSetterModel" (149 : Nat) "BeamSetterModel" "groups" "I") ∈ TW := tw_in 1300 (by decide +kernel) rfl
set_option maxRecDepth 20000 in
theorem k_1301 : (Cond.fieldLink "BeamSetterModel" (51 : Nat) "BeamSetterModel" "at" "[I") ∈ TW := tw_in 1301 (by decide +kernel) rfl
set_option maxRecDepth 20000 in
theorem k_1302 : (Cond.fieldLink "BeamSetterModel" (54 : Nat) "BeamSetterModel" "kneeNow" "I") ∈ TW := tw_in 1302 (by decide +kernel) rfl
set_option maxRecDepth 20000 in
theorem k_1303 : (Cond.fieldLink "BeamSetterModel" (57 : Nat) "BeamSetterModel" "way" "[I") ∈ TW := tw_in 1303 (by decide +kernel) rfl
set_option maxRecDepth 20000 in
theorem k_1304 : (Cond.fieldLink "BeamSetterModel" (162 : Nat) "BeamSetterModel" "isKneed" "Z") ∈ TW := tw_in 1304 (by decide +kernel) rfl
set_option maxRecDepth 20000 in
theorem k_1305 : (Cond.fieldLink "BeamSetterModel" (173 : Nat) "BeamSetterModel" "first" "I") ∈ TW := tw_in 1305 (by decide +kernel) rfl
set_option maxRecDepth 20000 in
theorem k_1306 : (Cond.fieldLink "BeamSetterModel" (176 : Nat) "BeamSetterModel" "last" "I") ∈ TW := tw_in 1306 (by decide +kernel) rfl
set_option maxRecDepth 20000 in
theorem k_1307 : (Cond.fieldLink "BeamSetterModel" (179 : Nat) "BeamSetterModel" "span" "I") ∈ TW := tw_in 1307 (by decide +kernel) rfl
set_option maxRecDepth 20000 in
theorem k_1308 : (Cond.fieldLink "BeamSetterModel" (60 : Nat) "BeamSetterModel" "setL" "[I") ∈ TW := tw_in 1308 (by decide +kernel) rfl
set_option maxRecDepth 20000 in
theorem k_1309 : (Cond.fieldLink "BeamSetterModel" (63 : Nat) "BeamSetterModel" "setR" "[I") ∈ TW := tw_in 1309 (by decide +kernel) rfl
set_option maxRecDepth 20000 in
theorem k_1310 : (Cond.fieldLink "BeamSetterModel" (66 : Nat) "BeamSetterModel" "setUgly" "[I") ∈ TW := tw_in 1310 (by decide +kernel) rfl
set_option maxRecDepth 20000 in
theorem k_1311 : (Cond.fieldLink "BeamSetterModel" (69 : Nat) "BeamSetterModel" "setLong" "[I") ∈ TW := tw_in 1311 (by decide +kernel) rfl
set_option maxRecDepth 20000 in
theorem k_1312 : (Cond.fieldLink "BeamSetterModel" (227 : Nat) "BeamSetterModel" "sets" "I") ∈ TW := tw_in 1312 (by decide +kernel) rfl
set_option maxRecDepth 20000 in
theorem k_1313 : (Cond.fieldLink "BeamSetterModel" (255 : Nat) "BeamSetterModel" "allUgly" "I") ∈ TW := tw_in 1313 (by decide +kernel) rfl
set_option maxRecDepth 20000 in
theorem k_1314 : (Cond.fieldLink "BeamSetterModel" (258 : Nat) "BeamSetterModel" "aside" "I") ∈ TW := tw_in 1314 (by decide +kernel) rfl
set_option maxRecDepth 20000 in
theorem k_1315 : (Cond.fieldLink "BeamSetterModel" (261 : Nat) "BeamSetterModel" "ugliest" "I") ∈ TW := tw_in 1315 (by decide +kernel) rfl
set_option maxRecDepth 20000 in
theorem k_1316 : (Cond.fieldLink "BeamSetterModel" (264 : Nat) "BeamSetterModel" "kneed" "I") ∈ TW := tw_in 1316 (by decide +kernel) rfl
set_option maxRecDepth 20000 in
theorem k_1317 : (Cond.fieldLink "BeamSetterModel" (72 : Nat) "BeamSetterModel" "tape" "[B") ∈ TW := tw_in 1317 (by decide +kernel) rfl
set_option maxRecDepth 20000 in
theorem k_1318 : (Cond.fieldLink "BeamSetterModel" (273 : Nat) "BeamSetterModel" "taped" "I") ∈ TW := tw_in 1318 (by decide +kernel) rfl
set_option maxRecDepth 20000 in
theorem k_1319 : (Cond.fieldLink "BeamSetterModel" (282 : Nat) "BeamSetterModel" "size" "I") ∈ TW := tw_in 1319 (by decide +kernel) rfl
set_option maxRecDepth 20000 in
theorem k_1320 : (Cond.fieldLink "BeamSetterModel" (279 : Nat) "BeamSetterModel" "next" "I") ∈ TW := tw_in 1320 (by decide +kernel) rfl
set_option maxRecDepth 20000 in
theorem k_1321 : (Cond.fieldLink "BeamSetterModel" (288 : Nat) "BeamSetterModel" "from" "I") ∈ TW := tw_in 1321 (by decide +kernel) rfl
set_option maxRecDepth 20000 in
theorem k_1322 : (Cond.fieldLink "BeamSetterModel" (294 : Nat) "BeamSetterModel" "token" "I") ∈ TW := tw_in 1322 (by decide +kernel) rfl
set_option maxRecDepth 20000 in
theorem k_1323 : (Cond.fieldLink "BeamSetterModel" (291 : Nat) "BeamSetterModel" "value" "I") ∈ TW := tw_in 1323 (by decide +kernel) rfl
set_option maxRecDepth 20000 in
theorem k_1324 : (Cond.fieldLink "BeamSetterModel" (300 : Nat) "BeamSetterModel" "fault" "I") ∈ TW := tw_in 1324 (by decide +kernel) rfl
set_option maxRecDepth 20000 in
theorem k_1325 : (Cond.fieldLink "BeamSetterModel" (76 : Nat) "BeamSetterModel" "faultPlace" "I") ∈ TW := tw_in 1325 (by decide +kernel) rfl
set_option maxRecDepth 20000 in
theorem k_1326 : (Cond.fieldLink "BeamSetterModel" (297 : Nat) "BeamSetterModel" "bad" "Z") ∈ TW := tw_in 1326 (by decide +kernel) rfl
set_option maxRecDepth 20000 in
theorem k_1327 : (Cond.fieldLink "BeamSetterModel" (322 : Nat) "BeamSetterModel" "newBeats" "I") ∈ TW := tw_in 1327 (by decide +kernel) rfl
set_option maxRecDepth 20000 in
theorem k_1328 : (Cond.fieldLink "BeamSetterModel" (325 : Nat) "BeamSetterModel" "newUnit" "I") ∈ TW := tw_in 1328 (by decide +kernel) rfl
set_option maxRecDepth 20000 in
theorem k_1329 : (Cond.fieldLink "BeamSetterModel" (79 : Nat) "BeamSetterModel" "newPart" "[I") ∈ TW := tw_in 1329 (by decide +kernel) rfl
set_option maxRecDepth 20000 in
theorem k_1330 : (Cond.fieldLink "BeamSetterModel" (313 : Nat) "BeamSetterModel" "newPartMany" "I") ∈ TW := tw_in 1330 (by decide +kernel) rfl
set_option maxRecDepth 20000 in
theorem k_1331 : (Cond.fieldLink "BeamSetterModel" (334 : Nat) "BeamSetterModel" "newKnee" "I") ∈ TW := tw_in 1331 (by decide +kernel) rfl
set_option maxRecDepth 20000 in
theorem k_1332 : (Cond.fieldLink "BeamSetterModel" (82 : Nat) "BeamSetterModel" "newWide" "[I") ∈ TW := tw_in 1332 (by decide +kernel) rfl
set_option maxRecDepth 20000 in
theorem k_1333 : (Cond.fieldLink "BeamSetterModel" (310 : Nat) "BeamSetterModel" "newElements" "I") ∈ TW := tw_in 1333 (by decide +kernel) rfl
set_option maxRecDepth 20000 in
theorem k_1334 : (Cond.fieldLink "BeamSetterModel" (85 : Nat) "BeamSetterModel" "newKind" "[I") ∈ TW := tw_in 1334 (by decide +kernel) rfl
set_option maxRecDepth 20000 in
theorem k_1335 : (Cond.fieldLink "BeamSetterModel" (88 : Nat) "BeamSetterModel" "newIsNote" "[Z") ∈ TW := tw_in 1335 (by decide +kernel) rfl
set_option maxRecDepth 20000 in
theorem k_1336 : (Cond.fieldLink "BeamSetterModel" (91 : Nat) "BeamSetterModel" "newPosition" "[I") ∈ TW := tw_in 1336 (by decide +kernel) rfl
set_option maxRecDepth 20000 in
theorem k_1337 : (Cond.fieldLink "BeamSetterModel" (316 : Nat) "BeamSetterModel" "hasMetre" "Z") ∈ TW := tw_in 1337 (by decide +kernel) rfl
set_option maxRecDepth 20000 in
theorem k_1338 : (Cond.fieldLink "BeamSetterModel" (331 : Nat) "BeamSetterModel" "hasKnee" "Z") ∈ TW := tw_in 1338 (by decide +kernel) rfl
set_option maxRecDepth 20000 in
theorem k_1339 : (Cond.fieldLink "BeamSetterModel" (94 : Nat) "BeamSetterModel" "hasWide" "[Z") ∈ TW := tw_in 1339 (by decide +kernel) rfl
set_option maxRecDepth 20000 in
theorem k_1340 : (Cond.fieldLink "BeamSetterModel" (340 : Nat) "BeamSetterModel" "newTime" "I") ∈ TW := tw_in 1340 (by decide +kernel) rfl
set_option maxRecDepth 20000 in
theorem k_1341 : (Cond.fieldLink "BeamSetterModel" (97 : Nat) "BeamSetterModel" "undoNote" "[I") ∈ TW := tw_in 1341 (by decide +kernel) rfl
set_option maxRecDepth 20000 in
theorem k_1342 : (Cond.fieldLink "BeamSetterModel" (100 : Nat) "BeamSetterModel" "undoWas" "[I") ∈ TW := tw_in 1342 (by decide +kernel) rfl
set_option maxRecDepth 20000 in
theorem k_1343 : (Cond.fieldLink "BeamSetterModel" (374 : Nat) "BeamSetterModel" "undos" "I") ∈ TW := tw_in 1343 (by decide +kernel) rfl
set_option maxRecDepth 20000 in
theorem k_1344 : (Cond.fieldLink "BeamSetterModel" (103 : Nat) "BeamSetterModel" "onward" "[I") ∈ TW := tw_in 1344 (by decide +kernel) rfl
set_option maxRecDepth 20000 in
theorem k_1345 : (Cond.fieldLink "BeamSetterModel" (106 : Nat) "BeamSetterModel" "smoothL" "[I") ∈ TW := tw_in 1345 (by decide +kernel) rfl
set_option maxRecDepth 20000 in
theorem k_1346 : (Cond.fieldLink "BeamSetterModel" (109 : Nat) "BeamSetterModel" "smoothR" "[I") ∈ TW := tw_in 1346 (by decide +kernel) rfl
set_option maxRecDepth 20000 in
theorem k_1347 : (Cond.fieldLink "BeamSetterModel" (463 : Nat) "BeamSetterModel" "smoothUgly" "I") ∈ TW := tw_in 1347 (by decide +kernel) rfl
set_option maxRecDepth 20000 in
theorem k_1482 : (Cond.code ({ cls := "BeamSetterModel", name := "thrown", desc := "()I" } : MethodName) prog_10_method_2_code (1 : Nat) (some FieldType.int)) ∈ TW := tw_in 1482 (by decide +kernel) rfl
set_option maxRecDepth 20000 in
theorem k_1486 : (Cond.code ({ cls := "BeamSetterModel", name := "feed", desc := "(IIIII)I" } : MethodName) prog_10_method_47_code (6 : Nat) (some FieldType.int)) ∈ TW := tw_in 1486 (by decide +kernel) rfl
set_option maxRecDepth 20000 in
theorem k_1487 : (Cond.methodLink "BeamSetterModel" (276 : Nat) ({ cls := "BeamSetterModel", name := "four", desc := "(I)V" } : MethodName)) ∈ TW := tw_in 1487 (by decide +kernel) rfl
set_option maxRecDepth 20000 in
theorem k_1489 : (Cond.instanceMethod ({ cls := "BeamSetterModel", name := "four", desc := "(I)V" } : MethodName)) ∈ TW := tw_in 1489 (by decide +kernel) rfl
set_option maxRecDepth 20000 in
theorem k_1490 : (Cond.code ({ cls := "BeamSetterModel", name := "four", desc := "(I)V" } : MethodName) prog_10_method_46_code (3 : Nat) (none : Option FieldType)) ∈ TW := tw_in 1490 (by decide +kernel) rfl
set_option maxRecDepth 20000 in
theorem k_1494 : (Cond.code ({ cls := "BeamSetterModel", name := "text", desc := "(I)I" } : MethodName) prog_10_method_61_code (4 : Nat) (some FieldType.int)) ∈ TW := tw_in 1494 (by decide +kernel) rfl
set_option maxRecDepth 20000 in
theorem k_1495 : (Cond.methodLink "BeamSetterModel" (189 : Nat) ({ cls := "BeamSetterModel", name := "isIn", desc := "(III)Z" } : MethodName)) ∈ TW := tw_in 1495 (by decide +kernel) rfl
set_option maxRecDepth 20000 in
theorem k_1496 : (Cond.static ({ cls := "BeamSetterModel", name := "isIn", desc := "(III)Z" } : MethodName)) ∈ TW := tw_in 1496 (by decide +kernel) rfl
set_option maxRecDepth 20000 in
theorem k_1497 : (Cond.code ({ cls := "BeamSetterModel", name := "isIn", desc := "(III)Z" } : MethodName) prog_10_method_3_code (3 : Nat) (some FieldType.boolean)) ∈ TW := tw_in 1497 (by decide +kernel) rfl
set_option maxRecDepth 20000 in
theorem k_1498 : (Cond.methodLink "BeamSetterModel" (307 : Nat) ({ cls := "BeamSetterModel", name := "advance", desc := "()V" } : MethodName)) ∈ TW := tw_in 1498 (by decide +kernel) rfl
set_option maxRecDepth 20000 in
theorem k_1500 : (Cond.instanceMethod ({ cls := "BeamSetterModel", name := "advance", desc := "()V" } : MethodName)) ∈ TW := tw_in 1500 (by decide +kernel) rfl
set_option maxRecDepth 20000 in
theorem k_1501 : (Cond.code ({ cls := "BeamSetterModel", name := "advance", desc := "()V" } : MethodName) prog_10_method_49_code (2 : Nat) (none : Option FieldType)) ∈ TW := tw_in 1501 (by decide +kernel) rfl
set_option maxRecDepth 20000 in
theorem k_1502 : (Cond.methodLink "BeamSetterModel" (285 : Nat) ({ cls := "BeamSetterModel", name := "see", desc := "()I" } : MethodName)) ∈ TW := tw_in 1502 (by decide +kernel) rfl
set_option maxRecDepth 20000 in
theorem k_1504 : (Cond.instanceMethod ({ cls := "BeamSetterModel", name := "see", desc := "()I" } : MethodName)) ∈ TW := tw_in 1504 (by decide +kernel) rfl
set_option maxRecDepth 20000 in
theorem k_1505 : (Cond.code ({ cls := "BeamSetterModel", name := "see", desc := "()I" } : MethodName) prog_10_method_48_code (1 : Nat) (some FieldType.int)) ∈ TW := tw_in 1505 (by decide +kernel) rfl
set_option maxRecDepth 20000 in
theorem k_1506 : (Cond.methodLink "BeamSetterModel" (368 : Nat) ({ cls := "BeamSetterModel", name := "lineHere", desc := "()V" } : MethodName)) ∈ TW := tw_in 1506 (by decide +kernel) rfl
set_option maxRecDepth 20000 in
theorem k_1508 : (Cond.instanceMethod ({ cls := "BeamSetterModel", name := "lineHere", desc := "()V" } : MethodName)) ∈ TW := tw_in 1508 (by decide +kernel) rfl
set_option maxRecDepth 20000 in
theorem k_1509 : (Cond.code ({ cls := "BeamSetterModel", name := "lineHere", desc := "()V" } : MethodName) prog_10_method_60_code (2 : Nat) (none : Option FieldType)) ∈ TW := tw_in 1509 (by decide +kernel) rfl
set_option maxRecDepth 20000 in
theorem k_1510 : (Cond.methodLink "BeamSetterModel" (303 : Nat) ({ cls := "BeamSetterModel", name := "must", desc := "(ZI)V" } : MethodName)) ∈ TW := tw_in 1510 (by decide +kernel) rfl
set_option maxRecDepth 20000 in
theorem k_1512 : (Cond.instanceMethod ({ cls := "BeamSetterModel", name := "must", desc := "(ZI)V" } : MethodName)) ∈ TW := tw_in 1512 (by decide +kernel) rfl
set_option maxRecDepth 20000 in
theorem k_1513 : (Cond.code ({ cls := "BeamSetterModel", name := "must", desc := "(ZI)V" } : MethodName) prog_10_method_50_code (3 : Nat) (none : Option FieldType)) ∈ TW := tw_in 1513 (by decide +kernel) rfl
set_option maxRecDepth 20000 in
theorem k_1514 : (Cond.constant "BeamSetterModel" (346 : Nat) (13816389 : Int32)) ∈ TW := tw_in 1514 (by decide +kernel) rfl
set_option maxRecDepth 20000 in
theorem k_1515 : (Cond.methodLink "BeamSetterModel" (347 : Nat) ({ cls := "BeamSetterModel", name := "metreHere", desc := "()V" } : MethodName)) ∈ TW := tw_in 1515 (by decide +kernel) rfl
set_option maxRecDepth 20000 in
theorem k_1517 : (Cond.instanceMethod ({ cls := "BeamSetterModel", name := "metreHere", desc := "()V" } : MethodName)) ∈ TW := tw_in 1517 (by decide +kernel) rfl
set_option maxRecDepth 20000 in
theorem k_1518 : (Cond.code ({ cls := "BeamSetterModel", name := "metreHere", desc := "()V" } : MethodName) prog_10_method_54_code (1 : Nat) (none : Option FieldType)) ∈ TW := tw_in 1518 (by decide +kernel) rfl
set_option maxRecDepth 20000 in
theorem k_1519 : (Cond.methodLink "BeamSetterModel" (319 : Nat) ({ cls := "BeamSetterModel", name := "numberHere", desc := "(II)I" } : MethodName)) ∈ TW := tw_in 1519 (by decide +kernel) rfl
set_option maxRecDepth 20000 in
theorem k_1521 : (Cond.instanceMethod ({ cls := "BeamSetterModel", name := "numberHere", desc := "(II)I" } : MethodName)) ∈ TW := tw_in 1521 (by decide +kernel) rfl
set_option maxRecDepth 20000 in
theorem k_1522 : (Cond.code ({ cls := "BeamSetterModel", name := "numberHere", desc := "(II)I" } : MethodName) prog_10_method_52_code (4 : Nat) (some FieldType.int)) ∈ TW := tw_in 1522 (by decide +kernel) rfl
set_option maxRecDepth 20000 in
theorem k_1523 : (Cond.constant "BeamSetterModel" (350 : Nat) (20459828 : Int32)) ∈ TW := tw_in 1523 (by decide +kernel) rfl
set_option maxRecDepth 20000 in
theorem k_1524 : (Cond.methodLink "BeamSetterModel" (351 : Nat) ({ cls := "BeamSetterModel", name := "splitHere", desc := "()V" } : MethodName)) ∈ TW := tw_in 1524 (by decide +kernel) rfl
set_option maxRecDepth 20000 in
theorem k_1526 : (Cond.instanceMethod ({ cls := "BeamSetterModel", name := "splitHere", desc := "()V" } : MethodName)) ∈ TW := tw_in 1526 (by decide +kernel) rfl
set_option maxRecDepth 20000 in
theorem k_1527 : (Cond.code ({ cls := "BeamSetterModel", name := "splitHere", desc := "()V" } : MethodName) prog_10_method_55_code (3 : Nat) (none : Option FieldType)) ∈ TW := tw_in 1527 (by decide +kernel) rfl
set_option maxRecDepth 20000 in
theorem k_1528 : (Cond.methodLink "BeamSetterModel" (328 : Nat) ({ cls := "BeamSetterModel", name := "isMark", desc := "(I)Z" } : MethodName)) ∈ TW := tw_in 1528 (by decide +kernel) rfl
set_option maxRecDepth 20000 in
theorem k_1530 : (Cond.instanceMethod ({ cls := "BeamSetterModel", name := "isMark", desc := "(I)Z" } : MethodName)) ∈ TW := tw_in 1530 (by decide +kernel) rfl
set_option maxRecDepth 20000 in
theorem k_1531 : (Cond.code ({ cls := "BeamSetterModel", name := "isMark", desc := "(I)Z" } : MethodName) prog_10_method_51_code (2 : Nat) (some FieldType.boolean)) ∈ TW := tw_in 1531 (by decide +kernel) rfl
set_option maxRecDepth 20000 in
theorem k_1532 : (Cond.constant "BeamSetterModel" (354 : Nat) (374949 : Int32)) ∈ TW := tw_in 1532 (by decide +kernel) rfl
set_option maxRecDepth 20000 in
theorem k_1533 : (Cond.methodLink "BeamSetterModel" (355 : Nat) ({ cls := "BeamSetterModel", name := "kneeHere", desc := "()V" } : MethodName)) ∈ TW := tw_in 1533 (by decide +kernel) rfl
set_option maxRecDepth 20000 in
theorem k_1535 : (Cond.instanceMethod ({ cls := "BeamSetterModel", name := "kneeHere", desc := "()V" } : MethodName)) ∈ TW := tw_in 1535 (by decide +kernel) rfl
set_option maxRecDepth 20000 in
theorem k_1536 : (Cond.code ({ cls := "BeamSetterModel", name := "kneeHere", desc := "()V" } : MethodName) prog_10_method_56_code (1 : Nat) (none : Option FieldType)) ∈ TW := tw_in 1536 (by decide +kernel) rfl
set_option maxRecDepth 20000 in
theorem k_1537 : (Cond.constant "BeamSetterModel" (358 : Nat) (763013 : Int32)) ∈ TW := tw_in 1537 (by decide +kernel) rfl
set_option maxRecDepth 20000 in
theorem k_1538 : (Cond.methodLink "BeamSetterModel" (359 : Nat) ({ cls := "BeamSetterModel", name := "wideHere", desc := "()V" } : MethodName)) ∈ TW := tw_in 1538 (by decide +kernel) rfl
set_option maxRecDepth 20000 in
theorem k_1540 : (Cond.instanceMethod ({ cls := "BeamSetterModel", name := "wideHere", desc := "()V" } : MethodName)) ∈ TW := tw_in 1540 (by decide +kernel) rfl
set_option maxRecDepth 20000 in
theorem k_1541 : (Cond.code ({ cls := "BeamSetterModel", name := "wideHere", desc := "()V" } : MethodName) prog_10_method_57_code (2 : Nat) (none : Option FieldType)) ∈ TW := tw_in 1541 (by decide +kernel) rfl
set_option maxRecDepth 20000 in
theorem k_1542 : (Cond.methodLink "BeamSetterModel" (337 : Nat) ({ cls := "BeamSetterModel", name := "kindOf", desc := "(I)I" } : MethodName)) ∈ TW := tw_in 1542 (by decide +kernel) rfl
set_option maxRecDepth 20000 in
theorem k_1543 : (Cond.static ({ cls := "BeamSetterModel", name := "kindOf", desc := "(I)I" } : MethodName)) ∈ TW := tw_in 1543 (by decide +kernel) rfl
set_option maxRecDepth 20000 in
theorem k_1544 : (Cond.code ({ cls := "BeamSetterModel", name := "kindOf", desc := "(I)I" } : MethodName) prog_10_method_53_code (1 : Nat) (some FieldType.int)) ∈ TW := tw_in 1544 (by decide +kernel) rfl
set_option maxRecDepth 20000 in
theorem k_1545 : (Cond.constant "BeamSetterModel" (362 : Nat) (474757 : Int32)) ∈ TW := tw_in 1545 (by decide +kernel) rfl
set_option maxRecDepth 20000 in
theorem k_1546 : (Cond.constant "BeamSetterModel" (363 : Nat) (595572 : Int32)) ∈ TW := tw_in 1546 (by decide +kernel) rfl
set_option maxRecDepth 20000 in
theorem k_1547 : (Cond.methodLink "BeamSetterModel" (364 : Nat) ({ cls := "BeamSetterModel", name := "elementHere", desc := "(Z)V" } : MethodName)) ∈ TW := tw_in 1547 (by decide +kernel) rfl
set_option maxRecDepth 20000 in
theorem k_1549 : (Cond.instanceMethod ({ cls := "BeamSetterModel", name := "elementHere", desc := "(Z)V" } : MethodName)) ∈ TW := tw_in 1549 (by decide +kernel) rfl
set_option maxRecDepth 20000 in
theorem k_1550 : (Cond.code ({ cls := "BeamSetterModel", name := "elementHere", desc := "(Z)V" } : MethodName) prog_10_method_59_code (4 : Nat) (none : Option FieldType)) ∈ TW := tw_in 1550 (by decide +kernel) rfl
set_option maxRecDepth 20000 in
theorem k_1551 : (Cond.methodLink "BeamSetterModel" (115 : Nat) ({ cls := "BeamSetterModel", name := "measureOf", desc := "(II)I" } : MethodName)) ∈ TW := tw_in 1551 (by decide +kernel) rfl
set_option maxRecDepth 20000 in
theorem k_1552 : (Cond.static ({ cls := "BeamSetterModel", name := "measureOf", desc := "(II)I" } : MethodName)) ∈ TW := tw_in 1552 (by decide +kernel) rfl
set_option maxRecDepth 20000 in
theorem k_1553 : (Cond.code ({ cls := "BeamSetterModel", name := "measureOf", desc := "(II)I" } : MethodName) prog_10_method_8_code (2 : Nat) (some FieldType.int)) ∈ TW := tw_in 1553 (by decide +kernel) rfl
set_option maxRecDepth 20000 in
theorem k_1554 : (Cond.methodLink "BeamSetterModel" (146 : Nat) ({ cls := "BeamSetterModel", name := "longOf", desc := "(I)I" } : MethodName)) ∈ TW := tw_in 1554 (by decide +kernel) rfl
set_option maxRecDepth 20000 in
theorem k_1555 : (Cond.static ({ cls := "BeamSetterModel", name := "longOf", desc := "(I)I" } : MethodName)) ∈ TW := tw_in 1555 (by decide +kernel) rfl
set_option maxRecDepth 20000 in
theorem k_1556 : (Cond.code ({ cls := "BeamSetterModel", name := "longOf", desc := "(I)I" } : MethodName) prog_10_method_6_code (1 : Nat) (some FieldType.int)) ∈ TW := tw_in 1556 (by decide +kernel) rfl
set_option maxRecDepth 20000 in
theorem k_1557 : (Cond.methodLink "BeamSetterModel" (343 : Nat) ({ cls := "BeamSetterModel", name := "positionHere", desc := "()I" } : MethodName)) ∈ TW := tw_in 1557 (by decide +kernel) rfl
set_option maxRecDepth 20000 in
theorem k_1559 : (Cond.instanceMethod ({ cls := "BeamSetterModel", name := "positionHere", desc := "()I" } : MethodName)) ∈ TW := tw_in 1559 (by decide +kernel) rfl
set_option maxRecDepth 20000 in
theorem k_1560 : (Cond.code ({ cls := "BeamSetterModel", name := "positionHere", desc := "()I" } : MethodName) prog_10_method_58_code (4 : Nat) (some FieldType.int)) ∈ TW := tw_in 1560 (by decide +kernel) rfl
set_option maxRecDepth 20000 in
theorem k_1561 : (Cond.methodLink "BeamSetterModel" (377 : Nat) ({ cls := "BeamSetterModel", name := "laysAll", desc := "()V" } : MethodName)) ∈ TW := tw_in 1561 (by decide +kernel) rfl
set_option maxRecDepth 20000 in
theorem k_1563 : (Cond.instanceMethod ({ cls := "BeamSetterModel", name := "laysAll", desc := "()V" } : MethodName)) ∈ TW := tw_in 1563 (by decide +kernel) rfl
set_option maxRecDepth 20000 in
theorem k_1564 : (Cond.code ({ cls := "BeamSetterModel", name := "laysAll", desc := "()V" } : MethodName) prog_10_method_16_code (6 : Nat) (none : Option FieldType)) ∈ TW := tw_in 1564 (by decide +kernel) rfl
set_option maxRecDepth 20000 in
theorem k_1565 : (Cond.methodLink "BeamSetterModel" (136 : Nat) ({ cls := "BeamSetterModel", name := "isBeamed", desc := "(I)Z" } : MethodName)) ∈ TW := tw_in 1565 (by decide +kernel) rfl
set_option maxRecDepth 20000 in
theorem k_1567 : (Cond.instanceMethod ({ cls := "BeamSetterModel", name := "isBeamed", desc := "(I)Z" } : MethodName)) ∈ TW := tw_in 1567 (by decide +kernel) rfl
set_option maxRecDepth 20000 in
theorem k_1568 : (Cond.code ({ cls := "BeamSetterModel", name := "isBeamed", desc := "(I)Z" } : MethodName) prog_10_method_13_code (2 : Nat) (some FieldType.boolean)) ∈ TW := tw_in 1568 (by decide +kernel) rfl
set_option maxRecDepth 20000 in
theorem k_1569 : (Cond.methodLink "BeamSetterModel" (143 : Nat) ({ cls := "BeamSetterModel", name := "endOf", desc := "(II)I" } : MethodName)) ∈ TW := tw_in 1569 (by decide +kernel) rfl
set_option maxRecDepth 20000 in
theorem k_1571 : (Cond.instanceMethod ({ cls := "BeamSetterModel", name := "endOf", desc := "(II)I" } : MethodName)) ∈ TW := tw_in 1571 (by decide +kernel) rfl
set_option maxRecDepth 20000 in
theorem k_1572 : (Cond.code ({ cls := "BeamSetterModel", name := "endOf", desc := "(II)I" } : MethodName) prog_10_method_14_code (4 : Nat) (some FieldType.int)) ∈ TW := tw_in 1572 (by decide +kernel) rfl
set_option maxRecDepth 20000 in
theorem k_1573 : (Cond.methodLink "BeamSetterModel" (140 : Nat) ({ cls := "BeamSetterModel", name := "whichPart", desc := "(II)I" } : MethodName)) ∈ TW := tw_in 1573 (by decide +kernel) rfl
set_option maxRecDepth 20000 in
theorem k_1575 : (Cond.instanceMethod ({ cls := "BeamSetterModel", name := "whichPart", desc := "(II)I" } : MethodName)) ∈ TW := tw_in 1575 (by decide +kernel) rfl
set_option maxRecDepth 20000 in
theorem k_1576 : (Cond.code ({ cls := "BeamSetterModel", name := "whichPart", desc := "(II)I" } : MethodName) prog_10_method_12_code (5 : Nat) (some FieldType.int)) ∈ TW := tw_in 1576 (by decide +kernel) rfl
set_option maxRecDepth 20000 in
theorem k_1577 : (Cond.methodLink "BeamSetterModel" (126 : Nat) ({ cls := "BeamSetterModel", name := "measure", desc := "()I" } : MethodName)) ∈ TW := tw_in 1577 (by decide +kernel) rfl
set_option maxRecDepth 20000 in
theorem k_1579 : (Cond.instanceMethod ({ cls := "BeamSetterModel", name := "measure", desc := "()I" } : MethodName)) ∈ TW := tw_in 1579 (by decide +kernel) rfl
set_option maxRecDepth 20000 in
theorem k_1580 : (Cond.code ({ cls := "BeamSetterModel", name := "measure", desc := "()I" } : MethodName) prog_10_method_9_code (1 : Nat) (some FieldType.int)) ∈ TW := tw_in 1580 (by decide +kernel) rfl
set_option maxRecDepth 20000 in
theorem k_1581 : (Cond.methodLink "BeamSetterModel" (129 : Nat) ({ cls := "BeamSetterModel", name := "partAt", desc := "(I)I" } : MethodName)) ∈ TW := tw_in 1581 (by decide +kernel) rfl
set_option maxRecDepth 20000 in
theorem k_1583 : (Cond.instanceMethod ({ cls := "BeamSetterModel", name := "partAt", desc := "(I)I" } : MethodName)) ∈ TW := tw_in 1583 (by decide +kernel) rfl
set_option maxRecDepth 20000 in
theorem k_1584 : (Cond.code ({ cls := "BeamSetterModel", name := "partAt", desc := "(I)I" } : MethodName) prog_10_method_11_code (4 : Nat) (some FieldType.int)) ∈ TW := tw_in 1584 (by decide +kernel) rfl
set_option maxRecDepth 20000 in
theorem k_1585 : (Cond.methodLink "BeamSetterModel" (122 : Nat) ({ cls := "BeamSetterModel", name := "beat", desc := "()I" } : MethodName)) ∈ TW := tw_in 1585 (by decide +kernel) rfl
set_option maxRecDepth 20000 in
theorem k_1587 : (Cond.instanceMethod ({ cls := "BeamSetterModel", name := "beat", desc := "()I" } : MethodName)) ∈ TW := tw_in 1587 (by decide +kernel) rfl
set_option maxRecDepth 20000 in
theorem k_1588 : (Cond.code ({ cls := "BeamSetterModel", name := "beat", desc := "()I" } : MethodName) prog_10_method_10_code (1 : Nat) (some FieldType.int)) ∈ TW := tw_in 1588 (by decide +kernel) rfl
set_option maxRecDepth 20000 in
theorem k_1589 : (Cond.methodLink "BeamSetterModel" (380 : Nat) ({ cls := "BeamSetterModel", name := "thinksPlainly", desc := "()V" } : MethodName)) ∈ TW := tw_in 1589 (by decide +kernel) rfl
set_option maxRecDepth 20000 in
theorem k_1591 : (Cond.instanceMethod ({ cls := "BeamSetterModel", name := "thinksPlainly", desc := "()V" } : MethodName)) ∈ TW := tw_in 1591 (by decide +kernel) rfl
set_option maxRecDepth 20000 in
theorem k_1592 : (Cond.code ({ cls := "BeamSetterModel", name := "thinksPlainly", desc := "()V" } : MethodName) prog_10_method_17_code (2 : Nat) (none : Option FieldType)) ∈ TW := tw_in 1592 (by decide +kernel) rfl
set_option maxRecDepth 20000 in
theorem k_1596 : (Cond.code ({ cls := "BeamSetterModel", name := "fault", desc := "(I)I" } : MethodName) prog_10_method_62_code (2 : Nat) (some FieldType.int)) ∈ TW := tw_in 1596 (by decide +kernel) rfl
set_option maxRecDepth 20000 in
theorem k_1600 : (Cond.code ({ cls := "BeamSetterModel", name := "element", desc := "(II)I" } : MethodName) prog_10_method_66_code (3 : Nat) (some FieldType.int)) ∈ TW := tw_in 1600 (by decide +kernel) rfl
set_option maxRecDepth 20000 in
theorem k_1601 : (Cond.methodLink "BeamSetterModel" (383 : Nat) ({ cls := "BeamSetterModel", name := "isElement", desc := "(I)Z" } : MethodName)) ∈ TW := tw_in 1601 (by decide +kernel) rfl
set_option maxRecDepth 20000 in
theorem k_1603 : (Cond.instanceMethod ({ cls := "BeamSetterModel", name := "isElement", desc := "(I)Z" } : MethodName)) ∈ TW := tw_in 1603 (by decide +kernel) rfl
set_option maxRecDepth 20000 in
theorem k_1604 : (Cond.code ({ cls := "BeamSetterModel", name := "isElement", desc := "(I)Z" } : MethodName) prog_10_method_63_code (2 : Nat) (some FieldType.boolean)) ∈ TW := tw_in 1604 (by decide +kernel) rfl
set_option maxRecDepth 20000 in
theorem k_1605 : (Cond.methodLink "BeamSetterModel" (386 : Nat) ({ cls := "BeamSetterModel", name := "failsWith", desc := "(I)I" } : MethodName)) ∈ TW := tw_in 1605 (by decide +kernel) rfl
set_option maxRecDepth 20000 in
theorem k_1607 : (Cond.instanceMethod ({ cls := "BeamSetterModel", name := "failsWith", desc := "(I)I" } : MethodName)) ∈ TW := tw_in 1607 (by decide +kernel) rfl
set_option maxRecDepth 20000 in
theorem k_1608 : (Cond.code ({ cls := "BeamSetterModel", name := "failsWith", desc := "(I)I" } : MethodName) prog_10_method_4_code (2 : Nat) (some FieldType.int)) ∈ TW := tw_in 1608 (by decide +kernel) rfl
set_option maxRecDepth 20000 in
theorem k_1609 : (Cond.methodLink "BeamSetterModel" (203 : Nat) ({ cls := "BeamSetterModel", name := "beamsOf", desc := "(I)I" } : MethodName)) ∈ TW := tw_in 1609 (by decide +kernel) rfl
set_option maxRecDepth 20000 in
theorem k_1610 : (Cond.static ({ cls := "BeamSetterModel", name := "beamsOf", desc := "(I)I" } : MethodName)) ∈ TW := tw_in 1610 (by decide +kernel) rfl
set_option maxRecDepth 20000 in
theorem k_1611 : (Cond.code ({ cls := "BeamSetterModel", name := "beamsOf", desc := "(I)I" } : MethodName) prog_10_method_7_code (1 : Nat) (some FieldType.int)) ∈ TW := tw_in 1611 (by decide +kernel) rfl
set_option maxRecDepth 20000 in
theorem k_1615 : (Cond.code ({ cls := "BeamSetterModel", name := "position", desc := "(I)I" } : MethodName) prog_10_method_68_code (2 : Nat) (some FieldType.int)) ∈ TW := tw_in 1615 (by decide +kernel) rfl
set_option maxRecDepth 20000 in
theorem k_1616 : (Cond.methodLink "BeamSetterModel" (389 : Nat) ({ cls := "BeamSetterModel", name := "isNoteAt", desc := "(I)Z" } : MethodName)) ∈ TW := tw_in 1616 (by decide +kernel) rfl
set_option maxRecDepth 20000 in
theorem k_1618 : (Cond.instanceMethod ({ cls := "BeamSetterModel", name := "isNoteAt", desc := "(I)Z" } : MethodName)) ∈ TW := tw_in 1618 (by decide +kernel) rfl
set_option maxRecDepth 20000 in
theorem k_1619 : (Cond.code ({ cls := "BeamSetterModel", name := "isNoteAt", desc := "(I)Z" } : MethodName) prog_10_method_67_code (2 : Nat) (some FieldType.boolean)) ∈ TW := tw_in 1619 (by decide +kernel) rfl
set_option maxRecDepth 20000 in
theorem k_1620 : (Cond.constant "BeamSetterModel" (251 : Nat) (-1000000 : Int32)) ∈ TW := tw_in 1620 (by decide +kernel) rfl
set_option maxRecDepth 20000 in
theorem k_1624 : (Cond.code ({ cls := "BeamSetterModel", name := "direction", desc := "(I)I" } : MethodName) prog_10_method_69_code (2 : Nat) (some FieldType.int)) ∈ TW := tw_in 1624 (by decide +kernel) rfl
set_option maxRecDepth 20000 in
theorem k_1625 : (Cond.methodLink "BeamSetterModel" (169 : Nat) ({ cls := "BeamSetterModel", name := "laysWays", desc := "(I)V" } : MethodName)) ∈ TW := tw_in 1625 (by decide +kernel) rfl
set_option maxRecDepth 20000 in
theorem k_1627 : (Cond.instanceMethod ({ cls := "BeamSetterModel", name := "laysWays", desc := "(I)V" } : MethodName)) ∈ TW := tw_in 1627 (by decide +kernel) rfl
set_option maxRecDepth 20000 in
theorem k_1628 : (Cond.code ({ cls := "BeamSetterModel", name := "laysWays", desc := "(I)V" } : MethodName) prog_10_method_21_code (6 : Nat) (none : Option FieldType)) ∈ TW := tw_in 1628 (by decide +kernel) rfl
set_option maxRecDepth 20000 in
theorem k_1629 : (Cond.methodLink "BeamSetterModel" (159 : Nat) ({ cls := "BeamSetterModel", name := "gapBelow", desc := "(I)I" } : MethodName)) ∈ TW := tw_in 1629 (by decide +kernel) rfl
set_option maxRecDepth 20000 in
theorem k_1631 : (Cond.instanceMethod ({ cls := "BeamSetterModel", name := "gapBelow", desc := "(I)I" } : MethodName)) ∈ TW := tw_in 1631 (by decide +kernel) rfl
set_option maxRecDepth 20000 in
theorem k_1632 : (Cond.code ({ cls := "BeamSetterModel", name := "gapBelow", desc := "(I)I" } : MethodName) prog_10_method_19_code (9 : Nat) (some FieldType.int)) ∈ TW := tw_in 1632 (by decide +kernel) rfl
set_option maxRecDepth 20000 in
theorem k_1633 : (Cond.methodLink "BeamSetterModel" (152 : Nat) ({ cls := "BeamSetterModel", name := "hasAt", desc := "(II)Z" } : MethodName)) ∈ TW := tw_in 1633 (by decide +kernel) rfl
set_option maxRecDepth 20000 in
theorem k_1635 : (Cond.instanceMethod ({ cls := "BeamSetterModel", name := "hasAt", desc := "(II)Z" } : MethodName)) ∈ TW := tw_in 1635 (by decide +kernel) rfl
set_option maxRecDepth 20000 in
theorem k_1636 : (Cond.code ({ cls := "BeamSetterModel", name := "hasAt", desc := "(II)Z" } : MethodName) prog_10_method_18_code (5 : Nat) (some FieldType.boolean)) ∈ TW := tw_in 1636 (by decide +kernel) rfl
set_option maxRecDepth 20000 in
theorem k_1637 : (Cond.methodLink "BeamSetterModel" (156 : Nat) ({ cls := "BeamSetterModel", name := "far", desc := "(I)I" } : MethodName)) ∈ TW := tw_in 1637 (by decide +kernel) rfl
set_option maxRecDepth 20000 in
theorem k_1638 : (Cond.static ({ cls := "BeamSetterModel", name := "far", desc := "(I)I" } : MethodName)) ∈ TW := tw_in 1638 (by decide +kernel) rfl
set_option maxRecDepth 20000 in
theorem k_1639 : (Cond.code ({ cls := "BeamSetterModel", name := "far", desc := "(I)I" } : MethodName) prog_10_method_5_code (1 : Nat) (some FieldType.int)) ∈ TW := tw_in 1639 (by decide +kernel) rfl
set_option maxRecDepth 20000 in
theorem k_1640 : (Cond.methodLink "BeamSetterModel" (166 : Nat) ({ cls := "BeamSetterModel", name := "plainWay", desc := "(I)I" } : MethodName)) ∈ TW := tw_in 1640 (by decide +kernel) rfl
set_option maxRecDepth 20000 in
theorem k_1642 : (Cond.instanceMethod ({ cls := "BeamSetterModel", name := "plainWay", desc := "(I)I" } : MethodName)) ∈ TW := tw_in 1642 (by decide +kernel) rfl
set_option maxRecDepth 20000 in
theorem k_1643 : (Cond.code ({ cls := "BeamSetterModel", name := "plainWay", desc := "(I)I" } : MethodName) prog_10_method_20_code (7 : Nat) (some FieldType.int)) ∈ TW := tw_in 1643 (by decide +kernel) rfl
set_option maxRecDepth 20000 in
theorem k_1647 : (Cond.code ({ cls := "BeamSetterModel", name := "put", desc := "(II)I" } : MethodName) prog_10_method_70_code (4 : Nat) (some FieldType.int)) ∈ TW := tw_in 1647 (by decide +kernel) rfl
set_option maxRecDepth 20000 in
theorem k_1651 : (Cond.code ({ cls := "BeamSetterModel", name := "undo", desc := "()I" } : MethodName) prog_10_method_71_code (1 : Nat) (some FieldType.int)) ∈ TW := tw_in 1651 (by decide +kernel) rfl
set_option maxRecDepth 20000 in
theorem k_1655 : (Cond.code ({ cls := "BeamSetterModel", name := "group", desc := "(II)I" } : MethodName) prog_10_method_76_code (3 : Nat) (some FieldType.int)) ∈ TW := tw_in 1655 (by decide +kernel) rfl
set_option maxRecDepth 20000 in
theorem k_1656 : (Cond.methodLink "BeamSetterModel" (392 : Nat) ({ cls := "BeamSetterModel", name := "isGroup", desc := "(I)Z" } : MethodName)) ∈ TW := tw_in 1656 (by decide +kernel) rfl
set_option maxRecDepth 20000 in
theorem k_1658 : (Cond.instanceMethod ({ cls := "BeamSetterModel", name := "isGroup", desc := "(I)Z" } : MethodName)) ∈ TW := tw_in 1658 (by decide +kernel) rfl
set_option maxRecDepth 20000 in
theorem k_1659 : (Cond.code ({ cls := "BeamSetterModel", name := "isGroup", desc := "(I)Z" } : MethodName) prog_10_method_65_code (2 : Nat) (some FieldType.boolean)) ∈ TW := tw_in 1659 (by decide +kernel) rfl
set_option maxRecDepth 20000 in
theorem k_1660 : (Cond.methodLink "BeamSetterModel" (395 : Nat) ({ cls := "BeamSetterModel", name := "isKneedNow", desc := "(I)Z" } : MethodName)) ∈ TW := tw_in 1660 (by decide +kernel) rfl
set_option maxRecDepth 20000 in
theorem k_1662 : (Cond.instanceMethod ({ cls := "BeamSetterModel", name := "isKneedNow", desc := "(I)Z" } : MethodName)) ∈ TW := tw_in 1662 (by decide +kernel) rfl
set_option maxRecDepth 20000 in
theorem k_1663 : (Cond.code ({ cls := "BeamSetterModel", name := "isKneedNow", desc := "(I)Z" } : MethodName) prog_10_method_75_code (2 : Nat) (some FieldType.boolean)) ∈ TW := tw_in 1663 (by decide +kernel) rfl
set_option maxRecDepth 20000 in
theorem k_1664 : (Cond.methodLink "BeamSetterModel" (398 : Nat) ({ cls := "BeamSetterModel", name := "mostBeams", desc := "(I)I" } : MethodName)) ∈ TW := tw_in 1664 (by decide +kernel) rfl
set_option maxRecDepth 20000 in
theorem k_1666 : (Cond.instanceMethod ({ cls := "BeamSetterModel", name := "mostBeams", desc := "(I)I" } : MethodName)) ∈ TW := tw_in 1666 (by decide +kernel) rfl
set_option maxRecDepth 20000 in
theorem k_1667 : (Cond.code ({ cls := "BeamSetterModel", name := "mostBeams", desc := "(I)I" } : MethodName) prog_10_method_72_code (4 : Nat) (some FieldType.int)) ∈ TW := tw_in 1667 (by decide +kernel) rfl
set_option maxRecDepth 20000 in
theorem k_1668 : (Cond.methodLink "BeamSetterModel" (401 : Nat) ({ cls := "BeamSetterModel", name := "allowedMany", desc := "(I)I" } : MethodName)) ∈ TW := tw_in 1668 (by decide +kernel) rfl
set_option maxRecDepth 20000 in
theorem k_1670 : (Cond.instanceMethod ({ cls := "BeamSetterModel", name := "allowedMany", desc := "(I)I" } : MethodName)) ∈ TW := tw_in 1670 (by decide +kernel) rfl
set_option maxRecDepth 20000 in
theorem k_1671 : (Cond.code ({ cls := "BeamSetterModel", name := "allowedMany", desc := "(I)I" } : MethodName) prog_10_method_74_code (2 : Nat) (some FieldType.int)) ∈ TW := tw_in 1671 (by decide +kernel) rfl
set_option maxRecDepth 20000 in
theorem k_1672 : (Cond.methodLink "BeamSetterModel" (245 : Nat) ({ cls := "BeamSetterModel", name := "laysSets", desc := "(I)V" } : MethodName)) ∈ TW := tw_in 1672 (by decide +kernel) rfl
set_option maxRecDepth 20000 in
theorem k_1674 : (Cond.instanceMethod ({ cls := "BeamSetterModel", name := "laysSets", desc := "(I)V" } : MethodName)) ∈ TW := tw_in 1674 (by decide +kernel) rfl
set_option maxRecDepth 20000 in
theorem k_1675 : (Cond.code ({ cls := "BeamSetterModel", name := "laysSets", desc := "(I)V" } : MethodName) prog_10_method_37_code (4 : Nat) (none : Option FieldType)) ∈ TW := tw_in 1675 (by decide +kernel) rfl
set_option maxRecDepth 20000 in
theorem k_1676 : (Cond.methodLink "BeamSetterModel" (224 : Nat) ({ cls := "BeamSetterModel", name := "opens", desc := "(I)V" } : MethodName)) ∈ TW := tw_in 1676 (by decide +kernel) rfl
set_option maxRecDepth 20000 in
theorem k_1678 : (Cond.instanceMethod ({ cls := "BeamSetterModel", name := "opens", desc := "(I)V" } : MethodName)) ∈ TW := tw_in 1678 (by decide +kernel) rfl
set_option maxRecDepth 20000 in
theorem k_1679 : (Cond.code ({ cls := "BeamSetterModel", name := "opens", desc := "(I)V" } : MethodName) prog_10_method_22_code (2 : Nat) (none : Option FieldType)) ∈ TW := tw_in 1679 (by decide +kernel) rfl
set_option maxRecDepth 20000 in
theorem k_1680 : (Cond.methodLink "BeamSetterModel" (230 : Nat) ({ cls := "BeamSetterModel", name := "isAllowed", desc := "(II)Z" } : MethodName)) ∈ TW := tw_in 1680 (by decide +kernel) rfl
set_option maxRecDepth 20000 in
theorem k_1682 : (Cond.instanceMethod ({ cls := "BeamSetterModel", name := "isAllowed", desc := "(II)Z" } : MethodName)) ∈ TW := tw_in 1682 (by decide +kernel) rfl
set_option maxRecDepth 20000 in
theorem k_1683 : (Cond.code ({ cls := "BeamSetterModel", name := "isAllowed", desc := "(II)Z" } : MethodName) prog_10_method_26_code (5 : Nat) (some FieldType.boolean)) ∈ TW := tw_in 1683 (by decide +kernel) rfl
set_option maxRecDepth 20000 in
theorem k_1684 : (Cond.methodLink "BeamSetterModel" (186 : Nat) ({ cls := "BeamSetterModel", name := "lengthAt", desc := "(III)I" } : MethodName)) ∈ TW := tw_in 1684 (by decide +kernel) rfl
set_option maxRecDepth 20000 in
theorem k_1686 : (Cond.instanceMethod ({ cls := "BeamSetterModel", name := "lengthAt", desc := "(III)I" } : MethodName)) ∈ TW := tw_in 1686 (by decide +kernel) rfl
set_option maxRecDepth 20000 in
theorem k_1687 : (Cond.code ({ cls := "BeamSetterModel", name := "lengthAt", desc := "(III)I" } : MethodName) prog_10_method_24_code (5 : Nat) (some FieldType.int)) ∈ TW := tw_in 1687 (by decide +kernel) rfl
set_option maxRecDepth 20000 in
theorem k_1688 : (Cond.methodLink "BeamSetterModel" (182 : Nat) ({ cls := "BeamSetterModel", name := "heightAt", desc := "(III)I" } : MethodName)) ∈ TW := tw_in 1688 (by decide +kernel) rfl
set_option maxRecDepth 20000 in
theorem k_1690 : (Cond.instanceMethod ({ cls := "BeamSetterModel", name := "heightAt", desc := "(III)I" } : MethodName)) ∈ TW := tw_in 1690 (by decide +kernel) rfl
set_option maxRecDepth 20000 in
theorem k_1691 : (Cond.code ({ cls := "BeamSetterModel", name := "heightAt", desc := "(III)I" } : MethodName) prog_10_method_23_code (5 : Nat) (some FieldType.int)) ∈ TW := tw_in 1691 (by decide +kernel) rfl
set_option maxRecDepth 20000 in
theorem k_1692 : (Cond.methodLink "BeamSetterModel" (233 : Nat) ({ cls := "BeamSetterModel", name := "uglinessOf", desc := "(II)I" } : MethodName)) ∈ TW := tw_in 1692 (by decide +kernel) rfl
set_option maxRecDepth 20000 in
theorem k_1694 : (Cond.instanceMethod ({ cls := "BeamSetterModel", name := "uglinessOf", desc := "(II)I" } : MethodName)) ∈ TW := tw_in 1694 (by decide +kernel) rfl
set_option maxRecDepth 20000 in
theorem k_1695 : (Cond.code ({ cls := "BeamSetterModel", name := "uglinessOf", desc := "(II)I" } : MethodName) prog_10_method_35_code (3 : Nat) (some FieldType.int)) ∈ TW := tw_in 1695 (by decide +kernel) rfl
set_option maxRecDepth 20000 in
theorem k_1696 : (Cond.methodLink "BeamSetterModel" (215 : Nat) ({ cls := "BeamSetterModel", name := "stemsOf", desc := "(II)I" } : MethodName)) ∈ TW := tw_in 1696 (by decide +kernel) rfl
set_option maxRecDepth 20000 in
theorem k_1698 : (Cond.instanceMethod ({ cls := "BeamSetterModel", name := "stemsOf", desc := "(II)I" } : MethodName)) ∈ TW := tw_in 1698 (by decide +kernel) rfl
set_option maxRecDepth 20000 in
theorem k_1699 : (Cond.code ({ cls := "BeamSetterModel", name := "stemsOf", desc := "(II)I" } : MethodName) prog_10_method_27_code (6 : Nat) (some FieldType.int)) ∈ TW := tw_in 1699 (by decide +kernel) rfl
set_option maxRecDepth 20000 in
theorem k_1700 : (Cond.methodLink "BeamSetterModel" (193 : Nat) ({ cls := "BeamSetterModel", name := "idealOf", desc := "(I)I" } : MethodName)) ∈ TW := tw_in 1700 (by decide +kernel) rfl
set_option maxRecDepth 20000 in
theorem k_1702 : (Cond.instanceMethod ({ cls := "BeamSetterModel", name := "idealOf", desc := "(I)I" } : MethodName)) ∈ TW := tw_in 1702 (by decide +kernel) rfl
set_option maxRecDepth 20000 in
theorem k_1703 : (Cond.code ({ cls := "BeamSetterModel", name := "idealOf", desc := "(I)I" } : MethodName) prog_10_method_25_code (4 : Nat) (some FieldType.int)) ∈ TW := tw_in 1703 (by decide +kernel) rfl
set_option maxRecDepth 20000 in
theorem k_1704 : (Cond.methodLink "BeamSetterModel" (218 : Nat) ({ cls := "BeamSetterModel", name := "slopeOf", desc := "(II)I" } : MethodName)) ∈ TW := tw_in 1704 (by decide +kernel) rfl
set_option maxRecDepth 20000 in
theorem k_1706 : (Cond.instanceMethod ({ cls := "BeamSetterModel", name := "slopeOf", desc := "(II)I" } : MethodName)) ∈ TW := tw_in 1706 (by decide +kernel) rfl
set_option maxRecDepth 20000 in
theorem k_1707 : (Cond.code ({ cls := "BeamSetterModel", name := "slopeOf", desc := "(II)I" } : MethodName) prog_10_method_30_code (6 : Nat) (some FieldType.int)) ∈ TW := tw_in 1707 (by decide +kernel) rfl
set_option maxRecDepth 20000 in
theorem k_1708 : (Cond.methodLink "BeamSetterModel" (200 : Nat) ({ cls := "BeamSetterModel", name := "wantOf", desc := "()I" } : MethodName)) ∈ TW := tw_in 1708 (by decide +kernel) rfl
set_option maxRecDepth 20000 in
theorem k_1710 : (Cond.instanceMethod ({ cls := "BeamSetterModel", name := "wantOf", desc := "()I" } : MethodName)) ∈ TW := tw_in 1710 (by decide +kernel) rfl
set_option maxRecDepth 20000 in
theorem k_1711 : (Cond.code ({ cls := "BeamSetterModel", name := "wantOf", desc := "()I" } : MethodName) prog_10_method_29_code (2 : Nat) (some FieldType.int)) ∈ TW := tw_in 1711 (by decide +kernel) rfl
set_option maxRecDepth 20000 in
theorem k_1712 : (Cond.methodLink "BeamSetterModel" (196 : Nat) ({ cls := "BeamSetterModel", name := "hasNearer", desc := "()Z" } : MethodName)) ∈ TW := tw_in 1712 (by decide +kernel) rfl
set_option maxRecDepth 20000 in
theorem k_1714 : (Cond.instanceMethod ({ cls := "BeamSetterModel", name := "hasNearer", desc := "()Z" } : MethodName)) ∈ TW := tw_in 1714 (by decide +kernel) rfl
set_option maxRecDepth 20000 in
theorem k_1715 : (Cond.code ({ cls := "BeamSetterModel", name := "hasNearer", desc := "()Z" } : MethodName) prog_10_method_28_code (5 : Nat) (some FieldType.boolean)) ∈ TW := tw_in 1715 (by decide +kernel) rfl
set_option maxRecDepth 20000 in
theorem k_1716 : (Cond.methodLink "BeamSetterModel" (221 : Nat) ({ cls := "BeamSetterModel", name := "staffOf", desc := "(II)I" } : MethodName)) ∈ TW := tw_in 1716 (by decide +kernel) rfl
set_option maxRecDepth 20000 in
theorem k_1718 : (Cond.instanceMethod ({ cls := "BeamSetterModel", name := "staffOf", desc := "(II)I" } : MethodName)) ∈ TW := tw_in 1718 (by decide +kernel) rfl
set_option maxRecDepth 20000 in
theorem k_1719 : (Cond.code ({ cls := "BeamSetterModel", name := "staffOf", desc := "(II)I" } : MethodName) prog_10_method_34_code (3 : Nat) (some FieldType.int)) ∈ TW := tw_in 1719 (by decide +kernel) rfl
set_option maxRecDepth 20000 in
theorem k_1720 : (Cond.methodLink "BeamSetterModel" (212 : Nat) ({ cls := "BeamSetterModel", name := "endCost", desc := "(III)I" } : MethodName)) ∈ TW := tw_in 1720 (by decide +kernel) rfl
set_option maxRecDepth 20000 in
theorem k_1722 : (Cond.instanceMethod ({ cls := "BeamSetterModel", name := "endCost", desc := "(III)I" } : MethodName)) ∈ TW := tw_in 1722 (by decide +kernel) rfl
set_option maxRecDepth 20000 in
theorem k_1723 : (Cond.code ({ cls := "BeamSetterModel", name := "endCost", desc := "(III)I" } : MethodName) prog_10_method_33_code (7 : Nat) (some FieldType.int)) ∈ TW := tw_in 1723 (by decide +kernel) rfl
set_option maxRecDepth 20000 in
theorem k_1724 : (Cond.methodLink "BeamSetterModel" (206 : Nat) ({ cls := "BeamSetterModel", name := "beamAt", desc := "(III)I" } : MethodName)) ∈ TW := tw_in 1724 (by decide +kernel) rfl
set_option maxRecDepth 20000 in
theorem k_1726 : (Cond.instanceMethod ({ cls := "BeamSetterModel", name := "beamAt", desc := "(III)I" } : MethodName)) ∈ TW := tw_in 1726 (by decide +kernel) rfl
set_option maxRecDepth 20000 in
theorem k_1727 : (Cond.code ({ cls := "BeamSetterModel", name := "beamAt", desc := "(III)I" } : MethodName) prog_10_method_32_code (4 : Nat) (some FieldType.int)) ∈ TW := tw_in 1727 (by decide +kernel) rfl
set_option maxRecDepth 20000 in
theorem k_1728 : (Cond.methodLink "BeamSetterModel" (209 : Nat) ({ cls := "BeamSetterModel", name := "touchAt", desc := "(I)I" } : MethodName)) ∈ TW := tw_in 1728 (by decide +kernel) rfl
set_option maxRecDepth 20000 in
theorem k_1729 : (Cond.static ({ cls := "BeamSetterModel", name := "touchAt", desc := "(I)I" } : MethodName)) ∈ TW := tw_in 1729 (by decide +kernel) rfl
set_option maxRecDepth 20000 in
theorem k_1730 : (Cond.code ({ cls := "BeamSetterModel", name := "touchAt", desc := "(I)I" } : MethodName) prog_10_method_31_code (1 : Nat) (some FieldType.int)) ∈ TW := tw_in 1730 (by decide +kernel) rfl
set_option maxRecDepth 20000 in
theorem k_1731 : (Cond.methodLink "BeamSetterModel" (236 : Nat) ({ cls := "BeamSetterModel", name := "lengthsOf", desc := "(II)I" } : MethodName)) ∈ TW := tw_in 1731 (by decide +kernel) rfl
set_option maxRecDepth 20000 in
theorem k_1733 : (Cond.instanceMethod ({ cls := "BeamSetterModel", name := "lengthsOf", desc := "(II)I" } : MethodName)) ∈ TW := tw_in 1733 (by decide +kernel) rfl
set_option maxRecDepth 20000 in
theorem k_1734 : (Cond.code ({ cls := "BeamSetterModel", name := "lengthsOf", desc := "(II)I" } : MethodName) prog_10_method_36_code (5 : Nat) (some FieldType.int)) ∈ TW := tw_in 1734 (by decide +kernel) rfl
set_option maxRecDepth 20000 in
theorem k_1735 : (Cond.methodLink "BeamSetterModel" (404 : Nat) ({ cls := "BeamSetterModel", name := "upMany", desc := "(I)I" } : MethodName)) ∈ TW := tw_in 1735 (by decide +kernel) rfl
set_option maxRecDepth 20000 in
theorem k_1737 : (Cond.instanceMethod ({ cls := "BeamSetterModel", name := "upMany", desc := "(I)I" } : MethodName)) ∈ TW := tw_in 1737 (by decide +kernel) rfl
set_option maxRecDepth 20000 in
theorem k_1738 : (Cond.code ({ cls := "BeamSetterModel", name := "upMany", desc := "(I)I" } : MethodName) prog_10_method_73_code (4 : Nat) (some FieldType.int)) ∈ TW := tw_in 1738 (by decide +kernel) rfl
set_option maxRecDepth 20000 in
theorem k_1742 : (Cond.code ({ cls := "BeamSetterModel", name := "want", desc := "(I)I" } : MethodName) prog_10_method_77_code (2 : Nat) (some FieldType.int)) ∈ TW := tw_in 1742 (by decide +kernel) rfl
set_option maxRecDepth 20000 in
theorem k_1746 : (Cond.code ({ cls := "BeamSetterModel", name := "ideal", desc := "(I)I" } : MethodName) prog_10_method_78_code (2 : Nat) (some FieldType.int)) ∈ TW := tw_in 1746 (by decide +kernel) rfl
set_option maxRecDepth 20000 in
theorem k_1750 : (Cond.code ({ cls := "BeamSetterModel", name := "ugliness", desc := "(IIII)I" } : MethodName) prog_10_method_80_code (5 : Nat) (some FieldType.int)) ∈ TW := tw_in 1750 (by decide +kernel) rfl
set_option maxRecDepth 20000 in
theorem k_1751 : (Cond.methodLink "BeamSetterModel" (407 : Nat) ({ cls := "BeamSetterModel", name := "isSetting", desc := "(II)Z" } : MethodName)) ∈ TW := tw_in 1751 (by decide +kernel) rfl
set_option maxRecDepth 20000 in
theorem k_1752 : (Cond.static ({ cls := "BeamSetterModel", name := "isSetting", desc := "(II)Z" } : MethodName)) ∈ TW := tw_in 1752 (by decide +kernel) rfl
set_option maxRecDepth 20000 in
theorem k_1753 : (Cond.code ({ cls := "BeamSetterModel", name := "isSetting", desc := "(II)Z" } : MethodName) prog_10_method_79_code (2 : Nat) (some FieldType.boolean)) ∈ TW := tw_in 1753 (by decide +kernel) rfl
set_option maxRecDepth 20000 in
theorem k_1757 : (Cond.code ({ cls := "BeamSetterModel", name := "best", desc := "(II)I" } : MethodName) prog_10_method_81_code (3 : Nat) (some FieldType.int)) ∈ TW := tw_in 1757 (by decide +kernel) rfl
set_option maxRecDepth 20000 in
theorem k_1758 : (Cond.methodLink "BeamSetterModel" (267 : Nat) ({ cls := "BeamSetterModel", name := "bestOf", desc := "(II)I" } : MethodName)) ∈ TW := tw_in 1758 (by decide +kernel) rfl
set_option maxRecDepth 20000 in
theorem k_1760 : (Cond.instanceMethod ({ cls := "BeamSetterModel", name := "bestOf", desc := "(II)I" } : MethodName)) ∈ TW := tw_in 1760 (by decide +kernel) rfl
set_option maxRecDepth 20000 in
theorem k_1761 : (Cond.code ({ cls := "BeamSetterModel", name := "bestOf", desc := "(II)I" } : MethodName) prog_10_method_43_code (4 : Nat) (some FieldType.int)) ∈ TW := tw_in 1761 (by decide +kernel) rfl
set_option maxRecDepth 20000 in
theorem k_1762 : (Cond.methodLink "BeamSetterModel" (248 : Nat) ({ cls := "BeamSetterModel", name := "bestSet", desc := "()I" } : MethodName)) ∈ TW := tw_in 1762 (by decide +kernel) rfl
set_option maxRecDepth 20000 in
theorem k_1764 : (Cond.instanceMethod ({ cls := "BeamSetterModel", name := "bestSet", desc := "()I" } : MethodName)) ∈ TW := tw_in 1764 (by decide +kernel) rfl
set_option maxRecDepth 20000 in
theorem k_1765 : (Cond.code ({ cls := "BeamSetterModel", name := "bestSet", desc := "()I" } : MethodName) prog_10_method_40_code (3 : Nat) (some FieldType.int)) ∈ TW := tw_in 1765 (by decide +kernel) rfl
set_option maxRecDepth 20000 in
theorem k_1766 : (Cond.methodLink "BeamSetterModel" (242 : Nat) ({ cls := "BeamSetterModel", name := "isBefore", desc := "(II)Z" } : MethodName)) ∈ TW := tw_in 1766 (by decide +kernel) rfl
set_option maxRecDepth 20000 in
theorem k_1768 : (Cond.instanceMethod ({ cls := "BeamSetterModel", name := "isBefore", desc := "(II)Z" } : MethodName)) ∈ TW := tw_in 1768 (by decide +kernel) rfl
set_option maxRecDepth 20000 in
theorem k_1769 : (Cond.code ({ cls := "BeamSetterModel", name := "isBefore", desc := "(II)Z" } : MethodName) prog_10_method_39_code (4 : Nat) (some FieldType.boolean)) ∈ TW := tw_in 1769 (by decide +kernel) rfl
set_option maxRecDepth 20000 in
theorem k_1770 : (Cond.methodLink "BeamSetterModel" (239 : Nat) ({ cls := "BeamSetterModel", name := "steep", desc := "(I)I" } : MethodName)) ∈ TW := tw_in 1770 (by decide +kernel) rfl
set_option maxRecDepth 20000 in
theorem k_1772 : (Cond.instanceMethod ({ cls := "BeamSetterModel", name := "steep", desc := "(I)I" } : MethodName)) ∈ TW := tw_in 1772 (by decide +kernel) rfl
set_option maxRecDepth 20000 in
theorem k_1773 : (Cond.code ({ cls := "BeamSetterModel", name := "steep", desc := "(I)I" } : MethodName) prog_10_method_38_code (2 : Nat) (some FieldType.int)) ∈ TW := tw_in 1773 (by decide +kernel) rfl
set_option maxRecDepth 20000 in
theorem k_1774 : (Cond.methodLink "BeamSetterModel" (252 : Nat) ({ cls := "BeamSetterModel", name := "told", desc := "(II)I" } : MethodName)) ∈ TW := tw_in 1774 (by decide +kernel) rfl
set_option maxRecDepth 20000 in
theorem k_1776 : (Cond.instanceMethod ({ cls := "BeamSetterModel", name := "told", desc := "(II)I" } : MethodName)) ∈ TW := tw_in 1776 (by decide +kernel) rfl
set_option maxRecDepth 20000 in
theorem k_1777 : (Cond.code ({ cls := "BeamSetterModel", name := "told", desc := "(II)I" } : MethodName) prog_10_method_42_code (5 : Nat) (some FieldType.int)) ∈ TW := tw_in 1777 (by decide +kernel) rfl
set_option maxRecDepth 20000 in
theorem k_1781 : (Cond.code ({ cls := "BeamSetterModel", name := "ranked", desc := "(III)I" } : MethodName) prog_10_method_82_code (5 : Nat) (some FieldType.int)) ∈ TW := tw_in 1781 (by decide +kernel) rfl
set_option maxRecDepth 20000 in
theorem k_1782 : (Cond.methodLink "BeamSetterModel" (410 : Nat) ({ cls := "BeamSetterModel", name := "rankOf", desc := "(I)I" } : MethodName)) ∈ TW := tw_in 1782 (by decide +kernel) rfl
set_option maxRecDepth 20000 in
theorem k_1784 : (Cond.instanceMethod ({ cls := "BeamSetterModel", name := "rankOf", desc := "(I)I" } : MethodName)) ∈ TW := tw_in 1784 (by decide +kernel) rfl
set_option maxRecDepth 20000 in
theorem k_1785 : (Cond.code ({ cls := "BeamSetterModel", name := "rankOf", desc := "(I)I" } : MethodName) prog_10_method_41_code (4 : Nat) (some FieldType.int)) ∈ TW := tw_in 1785 (by decide +kernel) rfl
set_option maxRecDepth 20000 in
theorem k_1789 : (Cond.code ({ cls := "BeamSetterModel", name := "rank", desc := "(III)I" } : MethodName) prog_10_method_83_code (5 : Nat) (some FieldType.int)) ∈ TW := tw_in 1789 (by decide +kernel) rfl
set_option maxRecDepth 20000 in
theorem k_1793 : (Cond.code ({ cls := "BeamSetterModel", name := "stem", desc := "(II)I" } : MethodName) prog_10_method_85_code (6 : Nat) (some FieldType.int)) ∈ TW := tw_in 1793 (by decide +kernel) rfl
set_option maxRecDepth 20000 in
theorem k_1794 : (Cond.methodLink "BeamSetterModel" (413 : Nat) ({ cls := "BeamSetterModel", name := "isOfGroup", desc := "(I)Z" } : MethodName)) ∈ TW := tw_in 1794 (by decide +kernel) rfl
set_option maxRecDepth 20000 in
theorem k_1796 : (Cond.instanceMethod ({ cls := "BeamSetterModel", name := "isOfGroup", desc := "(I)Z" } : MethodName)) ∈ TW := tw_in 1796 (by decide +kernel) rfl
set_option maxRecDepth 20000 in
theorem k_1797 : (Cond.code ({ cls := "BeamSetterModel", name := "isOfGroup", desc := "(I)Z" } : MethodName) prog_10_method_64_code (2 : Nat) (some FieldType.boolean)) ∈ TW := tw_in 1797 (by decide +kernel) rfl
set_option maxRecDepth 20000 in
theorem k_1798 : (Cond.methodLink "BeamSetterModel" (416 : Nat) ({ cls := "BeamSetterModel", name := "dividing", desc := "(II)I" } : MethodName)) ∈ TW := tw_in 1798 (by decide +kernel) rfl
set_option maxRecDepth 20000 in
theorem k_1799 : (Cond.static ({ cls := "BeamSetterModel", name := "dividing", desc := "(II)I" } : MethodName)) ∈ TW := tw_in 1799 (by decide +kernel) rfl
set_option maxRecDepth 20000 in
theorem k_1800 : (Cond.code ({ cls := "BeamSetterModel", name := "dividing", desc := "(II)I" } : MethodName) prog_10_method_84_code (5 : Nat) (some FieldType.int)) ∈ TW := tw_in 1800 (by decide +kernel) rfl
set_option maxRecDepth 20000 in
theorem k_1804 : (Cond.code ({ cls := "BeamSetterModel", name := "touch", desc := "(III)I" } : MethodName) prog_10_method_86_code (7 : Nat) (some FieldType.int)) ∈ TW := tw_in 1804 (by decide +kernel) rfl
set_option maxRecDepth 20000 in
theorem k_1808 : (Cond.code ({ cls := "BeamSetterModel", name := "beams", desc := "(II)I" } : MethodName) prog_10_method_90_code (8 : Nat) (some FieldType.int)) ∈ TW := tw_in 1808 (by decide +kernel) rfl
set_option maxRecDepth 20000 in
theorem k_1809 : (Cond.methodLink "BeamSetterModel" (419 : Nat) ({ cls := "BeamSetterModel", name := "beamsAt", desc := "(II)I" } : MethodName)) ∈ TW := tw_in 1809 (by decide +kernel) rfl
set_option maxRecDepth 20000 in
theorem k_1811 : (Cond.instanceMethod ({ cls := "BeamSetterModel", name := "beamsAt", desc := "(II)I" } : MethodName)) ∈ TW := tw_in 1811 (by decide +kernel) rfl
set_option maxRecDepth 20000 in
theorem k_1812 : (Cond.code ({ cls := "BeamSetterModel", name := "beamsAt", desc := "(II)I" } : MethodName) prog_10_method_87_code (3 : Nat) (some FieldType.int)) ∈ TW := tw_in 1812 (by decide +kernel) rfl
set_option maxRecDepth 20000 in
theorem k_1813 : (Cond.methodLink "BeamSetterModel" (422 : Nat) ({ cls := "BeamSetterModel", name := "lesser", desc := "(II)I" } : MethodName)) ∈ TW := tw_in 1813 (by decide +kernel) rfl
set_option maxRecDepth 20000 in
theorem k_1814 : (Cond.static ({ cls := "BeamSetterModel", name := "lesser", desc := "(II)I" } : MethodName)) ∈ TW := tw_in 1814 (by decide +kernel) rfl
set_option maxRecDepth 20000 in
theorem k_1815 : (Cond.code ({ cls := "BeamSetterModel", name := "lesser", desc := "(II)I" } : MethodName) prog_10_method_88_code (2 : Nat) (some FieldType.int)) ∈ TW := tw_in 1815 (by decide +kernel) rfl
set_option maxRecDepth 20000 in
theorem k_1816 : (Cond.methodLink "BeamSetterModel" (425 : Nat) ({ cls := "BeamSetterModel", name := "isLeft", desc := "(III)Z" } : MethodName)) ∈ TW := tw_in 1816 (by decide +kernel) rfl
set_option maxRecDepth 20000 in
theorem k_1818 : (Cond.instanceMethod ({ cls := "BeamSetterModel", name := "isLeft", desc := "(III)Z" } : MethodName)) ∈ TW := tw_in 1818 (by decide +kernel) rfl
set_option maxRecDepth 20000 in
theorem k_1819 : (Cond.code ({ cls := "BeamSetterModel", name := "isLeft", desc := "(III)Z" } : MethodName) prog_10_method_89_code (5 : Nat) (some FieldType.boolean)) ∈ TW := tw_in 1819 (by decide +kernel) rfl
set_option maxRecDepth 20000 in
theorem k_1823 : (Cond.code ({ cls := "BeamSetterModel", name := "total", desc := "(I)I" } : MethodName) prog_10_method_91_code (2 : Nat) (some FieldType.int)) ∈ TW := tw_in 1823 (by decide +kernel) rfl
set_option maxRecDepth 20000 in
theorem k_1824 : (Cond.methodLink "BeamSetterModel" (428 : Nat) ({ cls := "BeamSetterModel", name := "totalOf", desc := "(I)I" } : MethodName)) ∈ TW := tw_in 1824 (by decide +kernel) rfl
set_option maxRecDepth 20000 in
theorem k_1826 : (Cond.instanceMethod ({ cls := "BeamSetterModel", name := "totalOf", desc := "(I)I" } : MethodName)) ∈ TW := tw_in 1826 (by decide +kernel) rfl
set_option maxRecDepth 20000 in
theorem k_1827 : (Cond.code ({ cls := "BeamSetterModel", name := "totalOf", desc := "(I)I" } : MethodName) prog_10_method_45_code (2 : Nat) (some FieldType.int)) ∈ TW := tw_in 1827 (by decide +kernel) rfl
set_option maxRecDepth 20000 in
theorem k_1828 : (Cond.methodLink "BeamSetterModel" (270 : Nat) ({ cls := "BeamSetterModel", name := "laysTotal", desc := "()V" } : MethodName)) ∈ TW := tw_in 1828 (by decide +kernel) rfl
set_option maxRecDepth 20000 in
theorem k_1830 : (Cond.instanceMethod ({ cls := "BeamSetterModel", name := "laysTotal", desc := "()V" } : MethodName)) ∈ TW := tw_in 1830 (by decide +kernel) rfl
set_option maxRecDepth 20000 in
theorem k_1831 : (Cond.code ({ cls := "BeamSetterModel", name := "laysTotal", desc := "()V" } : MethodName) prog_10_method_44_code (4 : Nat) (none : Option FieldType)) ∈ TW := tw_in 1831 (by decide +kernel) rfl
set_option maxRecDepth 20000 in
theorem k_1835 : (Cond.code ({ cls := "BeamSetterModel", name := "ifPut", desc := "(III)I" } : MethodName) prog_10_method_92_code (5 : Nat) (some FieldType.int)) ∈ TW := tw_in 1835 (by decide +kernel) rfl
set_option maxRecDepth 20000 in
theorem k_1839 : (Cond.code ({ cls := "BeamSetterModel", name := "wish", desc := "(I)I" } : MethodName) prog_10_method_93_code (7 : Nat) (some FieldType.int)) ∈ TW := tw_in 1839 (by decide +kernel) rfl
set_option maxRecDepth 20000 in
theorem k_1843 : (Cond.code ({ cls := "BeamSetterModel", name := "ifShifted", desc := "(II)I" } : MethodName) prog_10_method_95_code (4 : Nat) (some FieldType.int)) ∈ TW := tw_in 1843 (by decide +kernel) rfl
set_option maxRecDepth 20000 in
theorem k_1844 : (Cond.methodLink "BeamSetterModel" (431 : Nat) ({ cls := "BeamSetterModel", name := "shifts", desc := "(I)Z" } : MethodName)) ∈ TW := tw_in 1844 (by decide +kernel) rfl
set_option maxRecDepth 20000 in
theorem k_1846 : (Cond.instanceMethod ({ cls := "BeamSetterModel", name := "shifts", desc := "(I)Z" } : MethodName)) ∈ TW := tw_in 1846 (by decide +kernel) rfl
set_option maxRecDepth 20000 in
theorem k_1847 : (Cond.code ({ cls := "BeamSetterModel", name := "shifts", desc := "(I)Z" } : MethodName) prog_10_method_94_code (4 : Nat) (some FieldType.boolean)) ∈ TW := tw_in 1847 (by decide +kernel) rfl
set_option maxRecDepth 20000 in
theorem k_1851 : (Cond.code ({ cls := "BeamSetterModel", name := "shift", desc := "()I" } : MethodName) prog_10_method_96_code (7 : Nat) (some FieldType.int)) ∈ TW := tw_in 1851 (by decide +kernel) rfl
set_option maxRecDepth 20000 in
theorem k_1855 : (Cond.code ({ cls := "BeamSetterModel", name := "mirrored", desc := "(I)I" } : MethodName) prog_10_method_97_code (6 : Nat) (some FieldType.int)) ∈ TW := tw_in 1855 (by decide +kernel) rfl
set_option maxRecDepth 20000 in
theorem k_1859 : (Cond.code ({ cls := "BeamSetterModel", name := "ifKnee", desc := "(II)I" } : MethodName) prog_10_method_98_code (4 : Nat) (some FieldType.int)) ∈ TW := tw_in 1859 (by decide +kernel) rfl
set_option maxRecDepth 20000 in
theorem k_1863 : (Cond.code ({ cls := "BeamSetterModel", name := "ifParts", desc := "(I)I" } : MethodName) prog_10_method_99_code (2 : Nat) (some FieldType.int)) ∈ TW := tw_in 1863 (by decide +kernel) rfl
set_option maxRecDepth 20000 in
theorem k_1864 : (Cond.methodLink "BeamSetterModel" (434 : Nat) ({ cls := "BeamSetterModel", name := "groupsBy", desc := "(I)I" } : MethodName)) ∈ TW := tw_in 1864 (by decide +kernel) rfl
set_option maxRecDepth 20000 in
theorem k_1866 : (Cond.instanceMethod ({ cls := "BeamSetterModel", name := "groupsBy", desc := "(I)I" } : MethodName)) ∈ TW := tw_in 1866 (by decide +kernel) rfl
set_option maxRecDepth 20000 in
theorem k_1867 : (Cond.code ({ cls := "BeamSetterModel", name := "groupsBy", desc := "(I)I" } : MethodName) prog_10_method_15_code (5 : Nat) (some FieldType.int)) ∈ TW := tw_in 1867 (by decide +kernel) rfl
set_option maxRecDepth 20000 in
theorem k_1871 : (Cond.code ({ cls := "BeamSetterModel", name := "stretches", desc := "(II)I" } : MethodName) prog_10_method_104_code (4 : Nat) (some FieldType.int)) ∈ TW := tw_in 1871 (by decide +kernel) rfl
set_option maxRecDepth 20000 in
theorem k_1872 : (Cond.methodLink "BeamSetterModel" (446 : Nat) ({ cls := "BeamSetterModel", name := "stretchAt", desc := "(III)I" } : MethodName)) ∈ TW := tw_in 1872 (by decide +kernel) rfl
set_option maxRecDepth 20000 in
theorem k_1874 : (Cond.instanceMethod ({ cls := "BeamSetterModel", name := "stretchAt", desc := "(III)I" } : MethodName)) ∈ TW := tw_in 1874 (by decide +kernel) rfl
set_option maxRecDepth 20000 in
theorem k_1875 : (Cond.code ({ cls := "BeamSetterModel", name := "stretchAt", desc := "(III)I" } : MethodName) prog_10_method_103_code (6 : Nat) (some FieldType.int)) ∈ TW := tw_in 1875 (by decide +kernel) rfl
set_option maxRecDepth 20000 in
theorem k_1876 : (Cond.methodLink "BeamSetterModel" (440 : Nat) ({ cls := "BeamSetterModel", name := "stretchFrom", desc := "(III)I" } : MethodName)) ∈ TW := tw_in 1876 (by decide +kernel) rfl
set_option maxRecDepth 20000 in
theorem k_1878 : (Cond.instanceMethod ({ cls := "BeamSetterModel", name := "stretchFrom", desc := "(III)I" } : MethodName)) ∈ TW := tw_in 1878 (by decide +kernel) rfl
set_option maxRecDepth 20000 in
theorem k_1879 : (Cond.code ({ cls := "BeamSetterModel", name := "stretchFrom", desc := "(III)I" } : MethodName) prog_10_method_101_code (6 : Nat) (some FieldType.int)) ∈ TW := tw_in 1879 (by decide +kernel) rfl
set_option maxRecDepth 20000 in
theorem k_1880 : (Cond.methodLink "BeamSetterModel" (437 : Nat) ({ cls := "BeamSetterModel", name := "goesOn", desc := "(III)Z" } : MethodName)) ∈ TW := tw_in 1880 (by decide +kernel) rfl
set_option maxRecDepth 20000 in
theorem k_1882 : (Cond.instanceMethod ({ cls := "BeamSetterModel", name := "goesOn", desc := "(III)Z" } : MethodName)) ∈ TW := tw_in 1882 (by decide +kernel) rfl
set_option maxRecDepth 20000 in
theorem k_1883 : (Cond.code ({ cls := "BeamSetterModel", name := "goesOn", desc := "(III)Z" } : MethodName) prog_10_method_100_code (4 : Nat) (some FieldType.boolean)) ∈ TW := tw_in 1883 (by decide +kernel) rfl
set_option maxRecDepth 20000 in
theorem k_1884 : (Cond.methodLink "BeamSetterModel" (443 : Nat) ({ cls := "BeamSetterModel", name := "stretchEnd", desc := "(III)I" } : MethodName)) ∈ TW := tw_in 1884 (by decide +kernel) rfl
set_option maxRecDepth 20000 in
theorem k_1886 : (Cond.instanceMethod ({ cls := "BeamSetterModel", name := "stretchEnd", desc := "(III)I" } : MethodName)) ∈ TW := tw_in 1886 (by decide +kernel) rfl
set_option maxRecDepth 20000 in
theorem k_1887 : (Cond.code ({ cls := "BeamSetterModel", name := "stretchEnd", desc := "(III)I" } : MethodName) prog_10_method_102_code (5 : Nat) (some FieldType.int)) ∈ TW := tw_in 1887 (by decide +kernel) rfl
set_option maxRecDepth 20000 in
theorem k_1891 : (Cond.code ({ cls := "BeamSetterModel", name := "stretch", desc := "(IIII)I" } : MethodName) prog_10_method_105_code (7 : Nat) (some FieldType.int)) ∈ TW := tw_in 1891 (by decide +kernel) rfl
set_option maxRecDepth 20000 in
theorem k_1895 : (Cond.code ({ cls := "BeamSetterModel", name := "level", desc := "(II)I" } : MethodName) prog_10_method_106_code (5 : Nat) (some FieldType.int)) ∈ TW := tw_in 1895 (by decide +kernel) rfl
set_option maxRecDepth 20000 in
theorem k_1899 : (Cond.code ({ cls := "BeamSetterModel", name := "ifCut", desc := "(II)I" } : MethodName) prog_10_method_109_code (3 : Nat) (some FieldType.int)) ∈ TW := tw_in 1899 (by decide +kernel) rfl
set_option maxRecDepth 20000 in
theorem k_1900 : (Cond.methodLink "BeamSetterModel" (452 : Nat) ({ cls := "BeamSetterModel", name := "cutAt", desc := "(II)I" } : MethodName)) ∈ TW := tw_in 1900 (by decide +kernel) rfl
set_option maxRecDepth 20000 in
theorem k_1902 : (Cond.instanceMethod ({ cls := "BeamSetterModel", name := "cutAt", desc := "(II)I" } : MethodName)) ∈ TW := tw_in 1902 (by decide +kernel) rfl
set_option maxRecDepth 20000 in
theorem k_1903 : (Cond.code ({ cls := "BeamSetterModel", name := "cutAt", desc := "(II)I" } : MethodName) prog_10_method_108_code (5 : Nat) (some FieldType.int)) ∈ TW := tw_in 1903 (by decide +kernel) rfl
set_option maxRecDepth 20000 in
theorem k_1904 : (Cond.methodLink "BeamSetterModel" (449 : Nat) ({ cls := "BeamSetterModel", name := "uglyOf", desc := "(II)I" } : MethodName)) ∈ TW := tw_in 1904 (by decide +kernel) rfl
set_option maxRecDepth 20000 in
theorem k_1906 : (Cond.instanceMethod ({ cls := "BeamSetterModel", name := "uglyOf", desc := "(II)I" } : MethodName)) ∈ TW := tw_in 1906 (by decide +kernel) rfl
set_option maxRecDepth 20000 in
theorem k_1907 : (Cond.code ({ cls := "BeamSetterModel", name := "uglyOf", desc := "(II)I" } : MethodName) prog_10_method_107_code (3 : Nat) (some FieldType.int)) ∈ TW := tw_in 1907 (by decide +kernel) rfl
set_option maxRecDepth 20000 in
theorem k_1911 : (Cond.code ({ cls := "BeamSetterModel", name := "cut", desc := "(I)I" } : MethodName) prog_10_method_110_code (6 : Nat) (some FieldType.int)) ∈ TW := tw_in 1911 (by decide +kernel) rfl
set_option maxRecDepth 20000 in
theorem k_1915 : (Cond.code ({ cls := "BeamSetterModel", name := "smooth", desc := "(II)I" } : MethodName) prog_10_method_114_code (4 : Nat) (some FieldType.int)) ∈ TW := tw_in 1915 (by decide +kernel) rfl
set_option maxRecDepth 20000 in
theorem k_1916 : (Cond.methodLink "BeamSetterModel" (466 : Nat) ({ cls := "BeamSetterModel", name := "laysSmooth", desc := "(I)Z" } : MethodName)) ∈ TW := tw_in 1916 (by decide +kernel) rfl
set_option maxRecDepth 20000 in
theorem k_1918 : (Cond.instanceMethod ({ cls := "BeamSetterModel", name := "laysSmooth", desc := "(I)Z" } : MethodName)) ∈ TW := tw_in 1918 (by decide +kernel) rfl
set_option maxRecDepth 20000 in
theorem k_1919 : (Cond.code ({ cls := "BeamSetterModel", name := "laysSmooth", desc := "(I)Z" } : MethodName) prog_10_method_113_code (7 : Nat) (some FieldType.boolean)) ∈ TW := tw_in 1919 (by decide +kernel) rfl
set_option maxRecDepth 20000 in
theorem k_1920 : (Cond.methodLink "BeamSetterModel" (459 : Nat) ({ cls := "BeamSetterModel", name := "laysOnward", desc := "(II)V" } : MethodName)) ∈ TW := tw_in 1920 (by decide +kernel) rfl
set_option maxRecDepth 20000 in
theorem k_1922 : (Cond.instanceMethod ({ cls := "BeamSetterModel", name := "laysOnward", desc := "(II)V" } : MethodName)) ∈ TW := tw_in 1922 (by decide +kernel) rfl
set_option maxRecDepth 20000 in
theorem k_1923 : (Cond.code ({ cls := "BeamSetterModel", name := "laysOnward", desc := "(II)V" } : MethodName) prog_10_method_112_code (6 : Nat) (none : Option FieldType)) ∈ TW := tw_in 1923 (by decide +kernel) rfl
set_option maxRecDepth 20000 in
theorem k_1924 : (Cond.constant "BeamSetterModel" (455 : Nat) (536870912 : Int32)) ∈ TW := tw_in 1924 (by decide +kernel) rfl
set_option maxRecDepth 20000 in
theorem k_1925 : (Cond.methodLink "BeamSetterModel" (456 : Nat) ({ cls := "BeamSetterModel", name := "leastOn", desc := "(III)I" } : MethodName)) ∈ TW := tw_in 1925 (by decide +kernel) rfl
set_option maxRecDepth 20000 in
theorem k_1927 : (Cond.instanceMethod ({ cls := "BeamSetterModel", name := "leastOn", desc := "(III)I" } : MethodName)) ∈ TW := tw_in 1927 (by decide +kernel) rfl
set_option maxRecDepth 20000 in
theorem k_1928 : (Cond.code ({ cls := "BeamSetterModel", name := "leastOn", desc := "(III)I" } : MethodName) prog_10_method_111_code (6 : Nat) (some FieldType.int)) ∈ TW := tw_in 1928 (by decide +kernel) rfl
set_option maxRecDepth 20000 in
theorem k_1932 : (Cond.code ({ cls := "BeamSetterModel", name := "smoothed", desc := "(III)I" } : MethodName) prog_10_method_115_code (5 : Nat) (some FieldType.int)) ∈ TW := tw_in 1932 (by decide +kernel) rfl
set_option maxRecDepth 20000 in
theorem k_1936 : (Cond.code ({ cls := "BeamSetterModel", name := "single", desc := "(II)I" } : MethodName) prog_10_method_116_code (7 : Nat) (some FieldType.int)) ∈ TW := tw_in 1936 (by decide +kernel) rfl
set_option maxRecDepth 20000 in
theorem k_1940 : (Cond.code ({ cls := "BeamSetterModel", name := "extreme", desc := "(II)I" } : MethodName) prog_10_method_117_code (7 : Nat) (some FieldType.int)) ∈ TW := tw_in 1940 (by decide +kernel) rfl
set_option maxRecDepth 20000 in
theorem k_1944 : (Cond.code ({ cls := "BeamSetterModel", name := "alone", desc := "(I)I" } : MethodName) prog_10_method_118_code (5 : Nat) (some FieldType.int)) ∈ TW := tw_in 1944 (by decide +kernel) rfl
set_option maxRecDepth 20000 in
theorem k_1948 : (Cond.code ({ cls := "BeamSetterModel", name := "count", desc := "(I)I" } : MethodName) prog_10_method_121_code (2 : Nat) (some FieldType.int)) ∈ TW := tw_in 1948 (by decide +kernel) rfl
set_option maxRecDepth 20000 in
theorem k_1949 : (Cond.methodLink "BeamSetterModel" (469 : Nat) ({ cls := "BeamSetterModel", name := "noteMany", desc := "()I" } : MethodName)) ∈ TW := tw_in 1949 (by decide +kernel) rfl
set_option maxRecDepth 20000 in
theorem k_1951 : (Cond.instanceMethod ({ cls := "BeamSetterModel", name := "noteMany", desc := "()I" } : MethodName)) ∈ TW := tw_in 1951 (by decide +kernel) rfl
set_option maxRecDepth 20000 in
theorem k_1952 : (Cond.code ({ cls := "BeamSetterModel", name := "noteMany", desc := "()I" } : MethodName) prog_10_method_119_code (3 : Nat) (some FieldType.int)) ∈ TW := tw_in 1952 (by decide +kernel) rfl
set_option maxRecDepth 20000 in
theorem k_1953 : (Cond.methodLink "BeamSetterModel" (472 : Nat) ({ cls := "BeamSetterModel", name := "partsTold", desc := "()I" } : MethodName)) ∈ TW := tw_in 1953 (by decide +kernel) rfl
set_option maxRecDepth 20000 in
theorem k_1955 : (Cond.instanceMethod ({ cls := "BeamSetterModel", name := "partsTold", desc := "()I" } : MethodName)) ∈ TW := tw_in 1955 (by decide +kernel) rfl
set_option maxRecDepth 20000 in
theorem k_1956 : (Cond.code ({ cls := "BeamSetterModel", name := "partsTold", desc := "()I" } : MethodName) prog_10_method_120_code (1 : Nat) (some FieldType.int)) ∈ TW := tw_in 1956 (by decide +kernel) rfl
