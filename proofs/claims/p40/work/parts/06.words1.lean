set_option maxRecDepth 20000 in
theorem k_261 : (Cond.fieldLink "BeamSetter$Piece" (25 : Nat) "BeamSetter$Piece" "heads" "[I") ∈ TW := tw_in 261 (by decide +kernel) rfl
set_option maxRecDepth 20000 in
theorem k_262 : (Cond.fieldLink "BeamSetter" (144 : Nat) "BeamSetter$Piece" "heads" "[I") ∈ TW := tw_in 262 (by decide +kernel) rfl
set_option maxRecDepth 20000 in
theorem k_263 : (Cond.fieldLink "BeamSetter$Piece" (28 : Nat) "BeamSetter$Piece" "times" "[I") ∈ TW := tw_in 263 (by decide +kernel) rfl
set_option maxRecDepth 20000 in
theorem k_264 : (Cond.fieldLink "BeamSetter$Piece" (31 : Nat) "BeamSetter$Piece" "xs" "[I") ∈ TW := tw_in 264 (by decide +kernel) rfl
set_option maxRecDepth 20000 in
theorem k_265 : (Cond.fieldLink "BeamSetter$Group" (57 : Nat) "BeamSetter$Piece" "xs" "[I") ∈ TW := tw_in 265 (by decide +kernel) rfl
set_option maxRecDepth 20000 in
theorem k_266 : (Cond.fieldLink "BeamSetter$Piece" (34 : Nat) "BeamSetter$Piece" "groupOf" "[I") ∈ TW := tw_in 266 (by decide +kernel) rfl
set_option maxRecDepth 20000 in
theorem k_267 : (Cond.fieldLink "BeamSetter" (130 : Nat) "BeamSetter$Piece" "groupOf" "[I") ∈ TW := tw_in 267 (by decide +kernel) rfl
set_option maxRecDepth 20000 in
theorem k_268 : (Cond.fieldLink "BeamSetter$Piece" (53 : Nat) "BeamSetter$Piece" "groups" "I") ∈ TW := tw_in 268 (by decide +kernel) rfl
set_option maxRecDepth 20000 in
theorem k_269 : (Cond.fieldLink "BeamSetter$Totals" (24 : Nat) "BeamSetter$Piece" "groups" "I") ∈ TW := tw_in 269 (by decide +kernel) rfl
set_option maxRecDepth 20000 in
theorem k_270 : (Cond.fieldLink "BeamSetter" (316 : Nat) "BeamSetter$Piece" "groups" "I") ∈ TW := tw_in 270 (by decide +kernel) rfl
set_option maxRecDepth 20000 in
theorem k_271 : (Cond.fieldLink "BeamSetter$Piece" (37 : Nat) "BeamSetter$Piece" "firsts" "[I") ∈ TW := tw_in 271 (by decide +kernel) rfl
set_option maxRecDepth 20000 in
theorem k_272 : (Cond.fieldLink "BeamSetter$Totals" (29 : Nat) "BeamSetter$Piece" "firsts" "[I") ∈ TW := tw_in 272 (by decide +kernel) rfl
set_option maxRecDepth 20000 in
theorem k_273 : (Cond.fieldLink "BeamSetter" (179 : Nat) "BeamSetter$Piece" "firsts" "[I") ∈ TW := tw_in 273 (by decide +kernel) rfl
set_option maxRecDepth 20000 in
theorem k_274 : (Cond.fieldLink "BeamSetter$Piece" (40 : Nat) "BeamSetter$Piece" "lengths" "[I") ∈ TW := tw_in 274 (by decide +kernel) rfl
set_option maxRecDepth 20000 in
theorem k_275 : (Cond.fieldLink "BeamSetter$Totals" (33 : Nat) "BeamSetter$Piece" "lengths" "[I") ∈ TW := tw_in 275 (by decide +kernel) rfl
set_option maxRecDepth 20000 in
theorem k_276 : (Cond.fieldLink "BeamSetter" (341 : Nat) "BeamSetter$Piece" "lengths" "[I") ∈ TW := tw_in 276 (by decide +kernel) rfl
set_option maxRecDepth 20000 in
theorem k_318 : (Cond.fieldLink "BeamSetter$Reader" (42 : Nat) "BeamSetter$Reader" "fault" "I") ∈ TW := tw_in 318 (by decide +kernel) rfl
set_option maxRecDepth 20000 in
theorem k_319 : (Cond.fieldLink "BeamSetter$Reader" (9 : Nat) "BeamSetter$Reader" "place" "I") ∈ TW := tw_in 319 (by decide +kernel) rfl
set_option maxRecDepth 20000 in
theorem k_320 : (Cond.fieldLink "BeamSetter$Reader" (22 : Nat) "BeamSetter$Reader" "bytes" "[I") ∈ TW := tw_in 320 (by decide +kernel) rfl
set_option maxRecDepth 20000 in
theorem k_321 : (Cond.fieldLink "BeamSetter$Reader" (36 : Nat) "BeamSetter$Reader" "length" "I") ∈ TW := tw_in 321 (by decide +kernel) rfl
set_option maxRecDepth 20000 in
theorem k_322 : (Cond.fieldLink "BeamSetter$Reader" (39 : Nat) "BeamSetter$Reader" "at" "I") ∈ TW := tw_in 322 (by decide +kernel) rfl
set_option maxRecDepth 20000 in
theorem k_323 : (Cond.fieldLink "BeamSetter$Reader" (136 : Nat) "BeamSetter$Reader" "value" "I") ∈ TW := tw_in 323 (by decide +kernel) rfl
set_option maxRecDepth 20000 in
theorem k_324 : (Cond.fieldLink "BeamSetter$Reader" (130 : Nat) "BeamSetter$Reader" "start" "I") ∈ TW := tw_in 324 (by decide +kernel) rfl
set_option maxRecDepth 20000 in
theorem k_325 : (Cond.fieldLink "BeamSetter$Reader" (26 : Nat) "BeamSetter$Reader" "piece" "LBeamSetter$Piece;") ∈ TW := tw_in 325 (by decide +kernel) rfl
set_option maxRecDepth 20000 in
theorem k_326 : (Cond.fieldLink "BeamSetter$Reader" (15 : Nat) "BeamSetter$Reader" "told" "[Z") ∈ TW := tw_in 326 (by decide +kernel) rfl
set_option maxRecDepth 20000 in
theorem k_327 : (Cond.fieldLink "BeamSetter$Reader" (19 : Nat) "BeamSetter$Reader" "toldWide" "[Z") ∈ TW := tw_in 327 (by decide +kernel) rfl
set_option maxRecDepth 20000 in
theorem k_349 : (Cond.fieldLink "BeamSetter" (10 : Nat) "BeamSetter" "tape" "LBeamSetter$Tape;") ∈ TW := tw_in 349 (by decide +kernel) rfl
set_option maxRecDepth 20000 in
theorem k_350 : (Cond.fieldLink "BeamSetter" (66 : Nat) "BeamSetter" "reader" "LBeamSetter$Reader;") ∈ TW := tw_in 350 (by decide +kernel) rfl
set_option maxRecDepth 20000 in
theorem k_351 : (Cond.fieldLink "BeamSetter" (19 : Nat) "BeamSetter" "history" "LBeamSetter$History;") ∈ TW := tw_in 351 (by decide +kernel) rfl
set_option maxRecDepth 20000 in
theorem k_352 : (Cond.fieldLink "BeamSetter" (26 : Nat) "BeamSetter" "group" "LBeamSetter$Group;") ∈ TW := tw_in 352 (by decide +kernel) rfl
set_option maxRecDepth 20000 in
theorem k_353 : (Cond.fieldLink "BeamSetter" (33 : Nat) "BeamSetter" "totals" "LBeamSetter$Totals;") ∈ TW := tw_in 353 (by decide +kernel) rfl
set_option maxRecDepth 20000 in
theorem k_355 : (Cond.fieldLink "BeamSetter" (46 : Nat) "BeamSetter" "tried" "[I") ∈ TW := tw_in 355 (by decide +kernel) rfl
set_option maxRecDepth 20000 in
theorem k_356 : (Cond.fieldLink "BeamSetter" (51 : Nat) "BeamSetter" "piece" "LBeamSetter$Piece;") ∈ TW := tw_in 356 (by decide +kernel) rfl
set_option maxRecDepth 20000 in
theorem k_357 : (Cond.fieldLink "BeamSetter" (55 : Nat) "BeamSetter" "spare" "LBeamSetter$Piece;") ∈ TW := tw_in 357 (by decide +kernel) rfl
set_option maxRecDepth 20000 in
theorem k_377 : (Cond.methodLink "BeamSetterLaw" (166 : Nat) ({ cls := "BeamSetter", name := "text", desc := "(I)I" } : MethodName)) ∈ TW := tw_in 377 (by decide +kernel) rfl
set_option maxRecDepth 20000 in
theorem k_378 : (Cond.instanceMethod ({ cls := "BeamSetter", name := "text", desc := "(I)I" } : MethodName)) ∈ TW := tw_in 378 (by decide +kernel) rfl
set_option maxRecDepth 20000 in
theorem k_379 : (Cond.selects "BeamSetter" ({ cls := "BeamSetter", name := "text", desc := "(I)I" } : MethodName) ({ cls := "BeamSetter", name := "text", desc := "(I)I" } : MethodName)) ∈ TW := tw_in 379 (by decide +kernel) rfl
set_option maxRecDepth 20000 in
theorem k_380 : (Cond.code ({ cls := "BeamSetter", name := "text", desc := "(I)I" } : MethodName) prog_1_method_3_code (3 : Nat) (some FieldType.int)) ∈ TW := tw_in 380 (by decide +kernel) rfl
set_option maxRecDepth 20000 in
theorem k_381 : (Cond.methodLink "BeamSetter" (82 : Nat) ({ cls := "BeamSetter$Reader", name := "read", desc := "(ILBeamSetter$Piece;)Z" } : MethodName)) ∈ TW := tw_in 381 (by decide +kernel) rfl
set_option maxRecDepth 20000 in
theorem k_382 : (Cond.instanceMethod ({ cls := "BeamSetter$Reader", name := "read", desc := "(ILBeamSetter$Piece;)Z" } : MethodName)) ∈ TW := tw_in 382 (by decide +kernel) rfl
set_option maxRecDepth 20000 in
theorem k_383 : (Cond.selects "BeamSetter$Reader" ({ cls := "BeamSetter$Reader", name := "read", desc := "(ILBeamSetter$Piece;)Z" } : MethodName) ({ cls := "BeamSetter$Reader", name := "read", desc := "(ILBeamSetter$Piece;)Z" } : MethodName)) ∈ TW := tw_in 383 (by decide +kernel) rfl
set_option maxRecDepth 20000 in
theorem k_384 : (Cond.code ({ cls := "BeamSetter$Reader", name := "read", desc := "(ILBeamSetter$Piece;)Z" } : MethodName) prog_5_method_2_code (4 : Nat) (some FieldType.boolean)) ∈ TW := tw_in 384 (by decide +kernel) rfl
set_option maxRecDepth 20000 in
theorem k_385 : (Cond.methodLink "BeamSetter$Reader" (30 : Nat) ({ cls := "java/lang/Math", name := "min", desc := "(II)I" } : MethodName)) ∈ TW := tw_in 385 (by decide +kernel) rfl
set_option maxRecDepth 20000 in
theorem k_386 : (Cond.methodLink "BeamSetter$Reader" (45 : Nat) ({ cls := "BeamSetter$Piece", name := "clear", desc := "()V" } : MethodName)) ∈ TW := tw_in 386 (by decide +kernel) rfl
set_option maxRecDepth 20000 in
theorem k_387 : (Cond.methodLink "BeamSetter$Reader" (50 : Nat) ({ cls := "BeamSetter$Reader", name := "forgetTold", desc := "()V" } : MethodName)) ∈ TW := tw_in 387 (by decide +kernel) rfl
set_option maxRecDepth 20000 in
theorem k_389 : (Cond.instanceMethod ({ cls := "BeamSetter$Reader", name := "forgetTold", desc := "()V" } : MethodName)) ∈ TW := tw_in 389 (by decide +kernel) rfl
set_option maxRecDepth 20000 in
theorem k_390 : (Cond.code ({ cls := "BeamSetter$Reader", name := "forgetTold", desc := "()V" } : MethodName) prog_5_method_3_code (2 : Nat) (none : Option FieldType)) ∈ TW := tw_in 390 (by decide +kernel) rfl
set_option maxRecDepth 20000 in
theorem k_391 : (Cond.methodLink "BeamSetter$Reader" (53 : Nat) ({ cls := "BeamSetter$Reader", name := "skipBlanks", desc := "()V" } : MethodName)) ∈ TW := tw_in 391 (by decide +kernel) rfl
set_option maxRecDepth 20000 in
theorem k_393 : (Cond.instanceMethod ({ cls := "BeamSetter$Reader", name := "skipBlanks", desc := "()V" } : MethodName)) ∈ TW := tw_in 393 (by decide +kernel) rfl
set_option maxRecDepth 20000 in
theorem k_394 : (Cond.code ({ cls := "BeamSetter$Reader", name := "skipBlanks", desc := "()V" } : MethodName) prog_5_method_8_code (1 : Nat) (none : Option FieldType)) ∈ TW := tw_in 394 (by decide +kernel) rfl
set_option maxRecDepth 20000 in
theorem k_395 : (Cond.methodLink "BeamSetter$Reader" (56 : Nat) ({ cls := "BeamSetter$Reader", name := "readLine", desc := "()Z" } : MethodName)) ∈ TW := tw_in 395 (by decide +kernel) rfl
set_option maxRecDepth 20000 in
theorem k_397 : (Cond.instanceMethod ({ cls := "BeamSetter$Reader", name := "readLine", desc := "()Z" } : MethodName)) ∈ TW := tw_in 397 (by decide +kernel) rfl
set_option maxRecDepth 20000 in
theorem k_398 : (Cond.code ({ cls := "BeamSetter$Reader", name := "readLine", desc := "()Z" } : MethodName) prog_5_method_9_code (4 : Nat) (some FieldType.boolean)) ∈ TW := tw_in 398 (by decide +kernel) rfl
set_option maxRecDepth 20000 in
theorem k_399 : (Cond.methodLink "BeamSetter$Reader" (66 : Nat) ({ cls := "BeamSetter$Reader", name := "takeWord", desc := "()I" } : MethodName)) ∈ TW := tw_in 399 (by decide +kernel) rfl
set_option maxRecDepth 20000 in
theorem k_401 : (Cond.instanceMethod ({ cls := "BeamSetter$Reader", name := "takeWord", desc := "()I" } : MethodName)) ∈ TW := tw_in 401 (by decide +kernel) rfl
set_option maxRecDepth 20000 in
theorem k_402 : (Cond.code ({ cls := "BeamSetter$Reader", name := "takeWord", desc := "()I" } : MethodName) prog_5_method_11_code (2 : Nat) (some FieldType.int)) ∈ TW := tw_in 402 (by decide +kernel) rfl
set_option maxRecDepth 20000 in
theorem k_403 : (Cond.methodLink "BeamSetter$Reader" (100 : Nat) ({ cls := "BeamSetter$Reader", name := "isLetterHere", desc := "()Z" } : MethodName)) ∈ TW := tw_in 403 (by decide +kernel) rfl
set_option maxRecDepth 20000 in
theorem k_405 : (Cond.instanceMethod ({ cls := "BeamSetter$Reader", name := "isLetterHere", desc := "()Z" } : MethodName)) ∈ TW := tw_in 405 (by decide +kernel) rfl
set_option maxRecDepth 20000 in
theorem k_406 : (Cond.code ({ cls := "BeamSetter$Reader", name := "isLetterHere", desc := "()Z" } : MethodName) prog_5_method_7_code (1 : Nat) (some FieldType.boolean)) ∈ TW := tw_in 406 (by decide +kernel) rfl
set_option maxRecDepth 20000 in
theorem k_408 : (Cond.methodLink "BeamSetter$Reader" (105 : Nat) ({ cls := "BeamSetter$Reader", name := "spells", desc := "(ILjava/lang/String;)Z" } : MethodName)) ∈ TW := tw_in 408 (by decide +kernel) rfl
set_option maxRecDepth 20000 in
theorem k_410 : (Cond.instanceMethod ({ cls := "BeamSetter$Reader", name := "spells", desc := "(ILjava/lang/String;)Z" } : MethodName)) ∈ TW := tw_in 410 (by decide +kernel) rfl
set_option maxRecDepth 20000 in
theorem k_411 : (Cond.code ({ cls := "BeamSetter$Reader", name := "spells", desc := "(ILjava/lang/String;)Z" } : MethodName) prog_5_method_12_code (4 : Nat) (some FieldType.boolean)) ∈ TW := tw_in 411 (by decide +kernel) rfl
set_option maxRecDepth 20000 in
theorem k_465 : (Cond.methodLink "BeamSetter$Reader" (70 : Nat) ({ cls := "BeamSetter$Reader", name := "isTooLate", desc := "(I)Z" } : MethodName)) ∈ TW := tw_in 465 (by decide +kernel) rfl
set_option maxRecDepth 20000 in
theorem k_467 : (Cond.instanceMethod ({ cls := "BeamSetter$Reader", name := "isTooLate", desc := "(I)Z" } : MethodName)) ∈ TW := tw_in 467 (by decide +kernel) rfl
set_option maxRecDepth 20000 in
theorem k_468 : (Cond.code ({ cls := "BeamSetter$Reader", name := "isTooLate", desc := "(I)Z" } : MethodName) prog_5_method_10_code (2 : Nat) (some FieldType.boolean)) ∈ TW := tw_in 468 (by decide +kernel) rfl
set_option maxRecDepth 20000 in
theorem k_469 : (Cond.methodLink "BeamSetter$Reader" (74 : Nat) ({ cls := "BeamSetter$Reader", name := "fail", desc := "(II)Z" } : MethodName)) ∈ TW := tw_in 469 (by decide +kernel) rfl
set_option maxRecDepth 20000 in
theorem k_471 : (Cond.instanceMethod ({ cls := "BeamSetter$Reader", name := "fail", desc := "(II)Z" } : MethodName)) ∈ TW := tw_in 471 (by decide +kernel) rfl
set_option maxRecDepth 20000 in
theorem k_472 : (Cond.code ({ cls := "BeamSetter$Reader", name := "fail", desc := "(II)Z" } : MethodName) prog_5_method_4_code (3 : Nat) (some FieldType.boolean)) ∈ TW := tw_in 472 (by decide +kernel) rfl
set_option maxRecDepth 20000 in
theorem k_473 : (Cond.methodLink "BeamSetter$Reader" (81 : Nat) ({ cls := "BeamSetter$Reader", name := "readMetre", desc := "()Z" } : MethodName)) ∈ TW := tw_in 473 (by decide +kernel) rfl
set_option maxRecDepth 20000 in
theorem k_475 : (Cond.instanceMethod ({ cls := "BeamSetter$Reader", name := "readMetre", desc := "()Z" } : MethodName)) ∈ TW := tw_in 475 (by decide +kernel) rfl
set_option maxRecDepth 20000 in
theorem k_476 : (Cond.code ({ cls := "BeamSetter$Reader", name := "readMetre", desc := "()Z" } : MethodName) prog_5_method_18_code (2 : Nat) (some FieldType.boolean)) ∈ TW := tw_in 476 (by decide +kernel) rfl
set_option maxRecDepth 20000 in
theorem k_477 : (Cond.methodLink "BeamSetter$Reader" (146 : Nat) ({ cls := "BeamSetter$Reader", name := "takeNumberWithin", desc := "(II)Z" } : MethodName)) ∈ TW := tw_in 477 (by decide +kernel) rfl
set_option maxRecDepth 20000 in
theorem k_479 : (Cond.instanceMethod ({ cls := "BeamSetter$Reader", name := "takeNumberWithin", desc := "(II)Z" } : MethodName)) ∈ TW := tw_in 479 (by decide +kernel) rfl
set_option maxRecDepth 20000 in
theorem k_480 : (Cond.code ({ cls := "BeamSetter$Reader", name := "takeNumberWithin", desc := "(II)Z" } : MethodName) prog_5_method_15_code (3 : Nat) (some FieldType.boolean)) ∈ TW := tw_in 480 (by decide +kernel) rfl
set_option maxRecDepth 20000 in
theorem k_481 : (Cond.methodLink "BeamSetter$Reader" (140 : Nat) ({ cls := "BeamSetter$Reader", name := "takeNumber", desc := "()Z" } : MethodName)) ∈ TW := tw_in 481 (by decide +kernel) rfl
set_option maxRecDepth 20000 in
theorem k_483 : (Cond.instanceMethod ({ cls := "BeamSetter$Reader", name := "takeNumber", desc := "()Z" } : MethodName)) ∈ TW := tw_in 483 (by decide +kernel) rfl
set_option maxRecDepth 20000 in
theorem k_484 : (Cond.code ({ cls := "BeamSetter$Reader", name := "takeNumber", desc := "()Z" } : MethodName) prog_5_method_14_code (1 : Nat) (some FieldType.boolean)) ∈ TW := tw_in 484 (by decide +kernel) rfl
set_option maxRecDepth 20000 in
theorem k_485 : (Cond.methodLink "BeamSetter$Reader" (133 : Nat) ({ cls := "BeamSetter$Reader", name := "isDigitHere", desc := "()Z" } : MethodName)) ∈ TW := tw_in 485 (by decide +kernel) rfl
set_option maxRecDepth 20000 in
theorem k_487 : (Cond.instanceMethod ({ cls := "BeamSetter$Reader", name := "isDigitHere", desc := "()Z" } : MethodName)) ∈ TW := tw_in 487 (by decide +kernel) rfl
set_option maxRecDepth 20000 in
theorem k_488 : (Cond.code ({ cls := "BeamSetter$Reader", name := "isDigitHere", desc := "()Z" } : MethodName) prog_5_method_6_code (1 : Nat) (some FieldType.boolean)) ∈ TW := tw_in 488 (by decide +kernel) rfl
set_option maxRecDepth 20000 in
theorem k_489 : (Cond.constant "BeamSetter$Reader" (139 : Nat) (100000 : Int32)) ∈ TW := tw_in 489 (by decide +kernel) rfl
set_option maxRecDepth 20000 in
theorem k_490 : (Cond.methodLink "BeamSetter$Reader" (149 : Nat) ({ cls := "BeamSetter$Piece", name := "setMetre", desc := "(II)V" } : MethodName)) ∈ TW := tw_in 490 (by decide +kernel) rfl
set_option maxRecDepth 20000 in
theorem k_491 : (Cond.methodLink "BeamSetter$Reader" (84 : Nat) ({ cls := "BeamSetter$Reader", name := "readSplit", desc := "()Z" } : MethodName)) ∈ TW := tw_in 491 (by decide +kernel) rfl
set_option maxRecDepth 20000 in
theorem k_493 : (Cond.instanceMethod ({ cls := "BeamSetter$Reader", name := "readSplit", desc := "()Z" } : MethodName)) ∈ TW := tw_in 493 (by decide +kernel) rfl
set_option maxRecDepth 20000 in
theorem k_494 : (Cond.code ({ cls := "BeamSetter$Reader", name := "readSplit", desc := "()Z" } : MethodName) prog_5_method_19_code (4 : Nat) (some FieldType.boolean)) ∈ TW := tw_in 494 (by decide +kernel) rfl
set_option maxRecDepth 20000 in
theorem k_495 : (Cond.methodLink "BeamSetter$Reader" (127 : Nat) ({ cls := "BeamSetter$Reader", name := "here", desc := "()I" } : MethodName)) ∈ TW := tw_in 495 (by decide +kernel) rfl
set_option maxRecDepth 20000 in
theorem k_497 : (Cond.instanceMethod ({ cls := "BeamSetter$Reader", name := "here", desc := "()I" } : MethodName)) ∈ TW := tw_in 497 (by decide +kernel) rfl
set_option maxRecDepth 20000 in
theorem k_498 : (Cond.code ({ cls := "BeamSetter$Reader", name := "here", desc := "()I" } : MethodName) prog_5_method_5_code (1 : Nat) (some FieldType.int)) ∈ TW := tw_in 498 (by decide +kernel) rfl
set_option maxRecDepth 20000 in
theorem k_499 : (Cond.methodLink "BeamSetter$Reader" (87 : Nat) ({ cls := "BeamSetter$Reader", name := "readKnee", desc := "()Z" } : MethodName)) ∈ TW := tw_in 499 (by decide +kernel) rfl
set_option maxRecDepth 20000 in
theorem k_501 : (Cond.instanceMethod ({ cls := "BeamSetter$Reader", name := "readKnee", desc := "()Z" } : MethodName)) ∈ TW := tw_in 501 (by decide +kernel) rfl
set_option maxRecDepth 20000 in
theorem k_502 : (Cond.code ({ cls := "BeamSetter$Reader", name := "readKnee", desc := "()Z" } : MethodName) prog_5_method_20_code (1 : Nat) (some FieldType.boolean)) ∈ TW := tw_in 502 (by decide +kernel) rfl
set_option maxRecDepth 20000 in
theorem k_503 : (Cond.methodLink "BeamSetter$Reader" (90 : Nat) ({ cls := "BeamSetter$Reader", name := "readWide", desc := "()Z" } : MethodName)) ∈ TW := tw_in 503 (by decide +kernel) rfl
set_option maxRecDepth 20000 in
theorem k_505 : (Cond.instanceMethod ({ cls := "BeamSetter$Reader", name := "readWide", desc := "()Z" } : MethodName)) ∈ TW := tw_in 505 (by decide +kernel) rfl
set_option maxRecDepth 20000 in
theorem k_506 : (Cond.code ({ cls := "BeamSetter$Reader", name := "readWide", desc := "()Z" } : MethodName) prog_5_method_21_code (2 : Nat) (some FieldType.boolean)) ∈ TW := tw_in 506 (by decide +kernel) rfl
set_option maxRecDepth 20000 in
theorem k_507 : (Cond.methodLink "BeamSetter$Reader" (164 : Nat) ({ cls := "BeamSetter$Reader", name := "takeKind", desc := "()Z" } : MethodName)) ∈ TW := tw_in 507 (by decide +kernel) rfl
set_option maxRecDepth 20000 in
theorem k_509 : (Cond.instanceMethod ({ cls := "BeamSetter$Reader", name := "takeKind", desc := "()Z" } : MethodName)) ∈ TW := tw_in 509 (by decide +kernel) rfl
set_option maxRecDepth 20000 in
theorem k_510 : (Cond.code ({ cls := "BeamSetter$Reader", name := "takeKind", desc := "()Z" } : MethodName) prog_5_method_16_code (1 : Nat) (some FieldType.boolean)) ∈ TW := tw_in 510 (by decide +kernel) rfl
set_option maxRecDepth 20000 in
theorem k_511 : (Cond.methodLink "BeamSetter$Reader" (143 : Nat) ({ cls := "BeamSetter$Piece", name := "isKind", desc := "(I)Z" } : MethodName)) ∈ TW := tw_in 511 (by decide +kernel) rfl
set_option maxRecDepth 20000 in
theorem k_512 : (Cond.static ({ cls := "BeamSetter$Piece", name := "isKind", desc := "(I)Z" } : MethodName)) ∈ TW := tw_in 512 (by decide +kernel) rfl
set_option maxRecDepth 20000 in
theorem k_513 : (Cond.code ({ cls := "BeamSetter$Piece", name := "isKind", desc := "(I)Z" } : MethodName) prog_4_method_4_code (1 : Nat) (some FieldType.boolean)) ∈ TW := tw_in 513 (by decide +kernel) rfl
set_option maxRecDepth 20000 in
theorem k_514 : (Cond.methodLink "BeamSetter$Reader" (167 : Nat) ({ cls := "BeamSetter$Piece", name := "beamsOfKind", desc := "(I)I" } : MethodName)) ∈ TW := tw_in 514 (by decide +kernel) rfl
set_option maxRecDepth 20000 in
theorem k_515 : (Cond.static ({ cls := "BeamSetter$Piece", name := "beamsOfKind", desc := "(I)I" } : MethodName)) ∈ TW := tw_in 515 (by decide +kernel) rfl
set_option maxRecDepth 20000 in
theorem k_516 : (Cond.code ({ cls := "BeamSetter$Piece", name := "beamsOfKind", desc := "(I)I" } : MethodName) prog_4_method_5_code (1 : Nat) (some FieldType.int)) ∈ TW := tw_in 516 (by decide +kernel) rfl
set_option maxRecDepth 20000 in
theorem k_517 : (Cond.methodLink "BeamSetter$Reader" (93 : Nat) ({ cls := "BeamSetter$Reader", name := "readElement", desc := "(Z)Z" } : MethodName)) ∈ TW := tw_in 517 (by decide +kernel) rfl
set_option maxRecDepth 20000 in
theorem k_519 : (Cond.instanceMethod ({ cls := "BeamSetter$Reader", name := "readElement", desc := "(Z)Z" } : MethodName)) ∈ TW := tw_in 519 (by decide +kernel) rfl
set_option maxRecDepth 20000 in
theorem k_520 : (Cond.code ({ cls := "BeamSetter$Reader", name := "readElement", desc := "(Z)Z" } : MethodName) prog_5_method_22_code (3 : Nat) (some FieldType.boolean)) ∈ TW := tw_in 520 (by decide +kernel) rfl
set_option maxRecDepth 20000 in
theorem k_521 : (Cond.methodLink "BeamSetter$Reader" (174 : Nat) ({ cls := "BeamSetter$Piece", name := "fits", desc := "(I)Z" } : MethodName)) ∈ TW := tw_in 521 (by decide +kernel) rfl
set_option maxRecDepth 20000 in
theorem k_522 : (Cond.instanceMethod ({ cls := "BeamSetter$Piece", name := "fits", desc := "(I)Z" } : MethodName)) ∈ TW := tw_in 522 (by decide +kernel) rfl
set_option maxRecDepth 20000 in
theorem k_523 : (Cond.selects "BeamSetter$Piece" ({ cls := "BeamSetter$Piece", name := "fits", desc := "(I)Z" } : MethodName) ({ cls := "BeamSetter$Piece", name := "fits", desc := "(I)Z" } : MethodName)) ∈ TW := tw_in 523 (by decide +kernel) rfl
set_option maxRecDepth 20000 in
theorem k_524 : (Cond.code ({ cls := "BeamSetter$Piece", name := "fits", desc := "(I)Z" } : MethodName) prog_4_method_11_code (2 : Nat) (some FieldType.boolean)) ∈ TW := tw_in 524 (by decide +kernel) rfl
set_option maxRecDepth 20000 in
theorem k_525 : (Cond.methodLink "BeamSetter$Piece" (92 : Nat) ({ cls := "BeamSetter$Piece", name := "timeOfNext", desc := "()I" } : MethodName)) ∈ TW := tw_in 525 (by decide +kernel) rfl
set_option maxRecDepth 20000 in
theorem k_527 : (Cond.instanceMethod ({ cls := "BeamSetter$Piece", name := "timeOfNext", desc := "()I" } : MethodName)) ∈ TW := tw_in 527 (by decide +kernel) rfl
set_option maxRecDepth 20000 in
theorem k_528 : (Cond.code ({ cls := "BeamSetter$Piece", name := "timeOfNext", desc := "()I" } : MethodName) prog_4_method_9_code (1 : Nat) (some FieldType.int)) ∈ TW := tw_in 528 (by decide +kernel) rfl
set_option maxRecDepth 20000 in
theorem k_529 : (Cond.methodLink "BeamSetter$Piece" (89 : Nat) ({ cls := "BeamSetter$Piece", name := "longOfKind", desc := "(I)I" } : MethodName)) ∈ TW := tw_in 529 (by decide +kernel) rfl
set_option maxRecDepth 20000 in
theorem k_530 : (Cond.static ({ cls := "BeamSetter$Piece", name := "longOfKind", desc := "(I)I" } : MethodName)) ∈ TW := tw_in 530 (by decide +kernel) rfl
set_option maxRecDepth 20000 in
theorem k_531 : (Cond.code ({ cls := "BeamSetter$Piece", name := "longOfKind", desc := "(I)I" } : MethodName) prog_4_method_6_code (1 : Nat) (some FieldType.int)) ∈ TW := tw_in 531 (by decide +kernel) rfl
set_option maxRecDepth 20000 in
theorem k_532 : (Cond.methodLink "BeamSetter$Piece" (78 : Nat) ({ cls := "BeamSetter$Piece", name := "beamsOfKind", desc := "(I)I" } : MethodName)) ∈ TW := tw_in 532 (by decide +kernel) rfl
set_option maxRecDepth 20000 in
theorem k_533 : (Cond.methodLink "BeamSetter$Piece" (95 : Nat) ({ cls := "BeamSetter$Piece", name := "measureLong", desc := "()I" } : MethodName)) ∈ TW := tw_in 533 (by decide +kernel) rfl
set_option maxRecDepth 20000 in
theorem k_535 : (Cond.instanceMethod ({ cls := "BeamSetter$Piece", name := "measureLong", desc := "()I" } : MethodName)) ∈ TW := tw_in 535 (by decide +kernel) rfl
set_option maxRecDepth 20000 in
theorem k_536 : (Cond.code ({ cls := "BeamSetter$Piece", name := "measureLong", desc := "()I" } : MethodName) prog_4_method_8_code (1 : Nat) (some FieldType.int)) ∈ TW := tw_in 536 (by decide +kernel) rfl
set_option maxRecDepth 20000 in
theorem k_537 : (Cond.methodLink "BeamSetter$Piece" (82 : Nat) ({ cls := "BeamSetter$Piece", name := "beatLong", desc := "()I" } : MethodName)) ∈ TW := tw_in 537 (by decide +kernel) rfl
set_option maxRecDepth 20000 in
theorem k_539 : (Cond.instanceMethod ({ cls := "BeamSetter$Piece", name := "beatLong", desc := "()I" } : MethodName)) ∈ TW := tw_in 539 (by decide +kernel) rfl
set_option maxRecDepth 20000 in
theorem k_540 : (Cond.code ({ cls := "BeamSetter$Piece", name := "beatLong", desc := "()I" } : MethodName) prog_4_method_7_code (1 : Nat) (some FieldType.int)) ∈ TW := tw_in 540 (by decide +kernel) rfl
set_option maxRecDepth 20000 in
theorem k_541 : (Cond.methodLink "BeamSetter$Piece" (86 : Nat) ({ cls := "java/lang/Math", name := "max", desc := "(II)I" } : MethodName)) ∈ TW := tw_in 541 (by decide +kernel) rfl
set_option maxRecDepth 20000 in
theorem k_542 : (Cond.static ({ cls := "java/lang/Math", name := "max", desc := "(II)I" } : MethodName)) ∈ TW := tw_in 542 (by decide +kernel) rfl
set_option maxRecDepth 20000 in
theorem k_543 : (Cond.code ({ cls := "java/lang/Math", name := "max", desc := "(II)I" } : MethodName) prog_20_method_65_code (2 : Nat) (some FieldType.int)) ∈ TW := tw_in 543 (by decide +kernel) rfl
set_option maxRecDepth 20000 in
theorem k_544 : (Cond.methodLink "BeamSetter$Reader" (177 : Nat) ({ cls := "BeamSetter$Reader", name := "takePosition", desc := "()Z" } : MethodName)) ∈ TW := tw_in 544 (by decide +kernel) rfl
set_option maxRecDepth 20000 in
theorem k_546 : (Cond.instanceMethod ({ cls := "BeamSetter$Reader", name := "takePosition", desc := "()Z" } : MethodName)) ∈ TW := tw_in 546 (by decide +kernel) rfl
set_option maxRecDepth 20000 in
theorem k_547 : (Cond.code ({ cls := "BeamSetter$Reader", name := "takePosition", desc := "()Z" } : MethodName) prog_5_method_17_code (3 : Nat) (some FieldType.boolean)) ∈ TW := tw_in 547 (by decide +kernel) rfl
set_option maxRecDepth 20000 in
theorem k_548 : (Cond.methodLink "BeamSetter$Reader" (180 : Nat) ({ cls := "BeamSetter$Piece", name := "add", desc := "(ZII)V" } : MethodName)) ∈ TW := tw_in 548 (by decide +kernel) rfl
