set_option maxRecDepth 20000 in
theorem k_549 : (Cond.instanceMethod ({ cls := "BeamSetter$Piece", name := "add", desc := "(ZII)V" } : MethodName)) ∈ TW := tw_in 549 (by decide +kernel) rfl
set_option maxRecDepth 20000 in
theorem k_550 : (Cond.selects "BeamSetter$Piece" ({ cls := "BeamSetter$Piece", name := "add", desc := "(ZII)V" } : MethodName) ({ cls := "BeamSetter$Piece", name := "add", desc := "(ZII)V" } : MethodName)) ∈ TW := tw_in 550 (by decide +kernel) rfl
set_option maxRecDepth 20000 in
theorem k_551 : (Cond.code ({ cls := "BeamSetter$Piece", name := "add", desc := "(ZII)V" } : MethodName) prog_4_method_12_code (6 : Nat) (none : Option FieldType)) ∈ TW := tw_in 551 (by decide +kernel) rfl
set_option maxRecDepth 20000 in
theorem k_552 : (Cond.methodLink "BeamSetter$Piece" (98 : Nat) ({ cls := "BeamSetter$Piece", name := "xOfNext", desc := "()I" } : MethodName)) ∈ TW := tw_in 552 (by decide +kernel) rfl
set_option maxRecDepth 20000 in
theorem k_554 : (Cond.instanceMethod ({ cls := "BeamSetter$Piece", name := "xOfNext", desc := "()I" } : MethodName)) ∈ TW := tw_in 554 (by decide +kernel) rfl
set_option maxRecDepth 20000 in
theorem k_555 : (Cond.code ({ cls := "BeamSetter$Piece", name := "xOfNext", desc := "()I" } : MethodName) prog_4_method_10_code (1 : Nat) (some FieldType.int)) ∈ TW := tw_in 555 (by decide +kernel) rfl
set_option maxRecDepth 20000 in
theorem k_556 : (Cond.methodLink "BeamSetter$Reader" (97 : Nat) ({ cls := "BeamSetter$Reader", name := "takeEnd", desc := "()Z" } : MethodName)) ∈ TW := tw_in 556 (by decide +kernel) rfl
set_option maxRecDepth 20000 in
theorem k_558 : (Cond.instanceMethod ({ cls := "BeamSetter$Reader", name := "takeEnd", desc := "()Z" } : MethodName)) ∈ TW := tw_in 558 (by decide +kernel) rfl
set_option maxRecDepth 20000 in
theorem k_559 : (Cond.code ({ cls := "BeamSetter$Reader", name := "takeEnd", desc := "()Z" } : MethodName) prog_5_method_13_code (1 : Nat) (some FieldType.boolean)) ∈ TW := tw_in 559 (by decide +kernel) rfl
set_option maxRecDepth 20000 in
theorem k_560 : (Cond.methodLink "BeamSetter$Reader" (63 : Nat) ({ cls := "BeamSetter$Piece", name := "findGroups", desc := "()V" } : MethodName)) ∈ TW := tw_in 560 (by decide +kernel) rfl
set_option maxRecDepth 20000 in
theorem k_561 : (Cond.instanceMethod ({ cls := "BeamSetter$Piece", name := "findGroups", desc := "()V" } : MethodName)) ∈ TW := tw_in 561 (by decide +kernel) rfl
set_option maxRecDepth 20000 in
theorem k_562 : (Cond.selects "BeamSetter$Piece" ({ cls := "BeamSetter$Piece", name := "findGroups", desc := "()V" } : MethodName) ({ cls := "BeamSetter$Piece", name := "findGroups", desc := "()V" } : MethodName)) ∈ TW := tw_in 562 (by decide +kernel) rfl
set_option maxRecDepth 20000 in
theorem k_563 : (Cond.code ({ cls := "BeamSetter$Piece", name := "findGroups", desc := "()V" } : MethodName) prog_4_method_19_code (4 : Nat) (none : Option FieldType)) ∈ TW := tw_in 563 (by decide +kernel) rfl
set_option maxRecDepth 20000 in
theorem k_564 : (Cond.methodLink "BeamSetter$Piece" (113 : Nat) ({ cls := "BeamSetter$Piece", name := "runFrom", desc := "(II)I" } : MethodName)) ∈ TW := tw_in 564 (by decide +kernel) rfl
set_option maxRecDepth 20000 in
theorem k_566 : (Cond.instanceMethod ({ cls := "BeamSetter$Piece", name := "runFrom", desc := "(II)I" } : MethodName)) ∈ TW := tw_in 566 (by decide +kernel) rfl
set_option maxRecDepth 20000 in
theorem k_567 : (Cond.code ({ cls := "BeamSetter$Piece", name := "runFrom", desc := "(II)I" } : MethodName) prog_4_method_17_code (4 : Nat) (some FieldType.int)) ∈ TW := tw_in 567 (by decide +kernel) rfl
set_option maxRecDepth 20000 in
theorem k_568 : (Cond.methodLink "BeamSetter$Piece" (104 : Nat) ({ cls := "BeamSetter$Piece", name := "beamsOf", desc := "(I)I" } : MethodName)) ∈ TW := tw_in 568 (by decide +kernel) rfl
set_option maxRecDepth 20000 in
theorem k_569 : (Cond.instanceMethod ({ cls := "BeamSetter$Piece", name := "beamsOf", desc := "(I)I" } : MethodName)) ∈ TW := tw_in 569 (by decide +kernel) rfl
set_option maxRecDepth 20000 in
theorem k_570 : (Cond.selects "BeamSetter$Piece" ({ cls := "BeamSetter$Piece", name := "beamsOf", desc := "(I)I" } : MethodName) ({ cls := "BeamSetter$Piece", name := "beamsOf", desc := "(I)I" } : MethodName)) ∈ TW := tw_in 570 (by decide +kernel) rfl
set_option maxRecDepth 20000 in
theorem k_571 : (Cond.code ({ cls := "BeamSetter$Piece", name := "beamsOf", desc := "(I)I" } : MethodName) prog_4_method_16_code (2 : Nat) (some FieldType.int)) ∈ TW := tw_in 571 (by decide +kernel) rfl
set_option maxRecDepth 20000 in
theorem k_572 : (Cond.methodLink "BeamSetter$Piece" (107 : Nat) ({ cls := "BeamSetter$Piece", name := "measureOf", desc := "(I)I" } : MethodName)) ∈ TW := tw_in 572 (by decide +kernel) rfl
set_option maxRecDepth 20000 in
theorem k_573 : (Cond.instanceMethod ({ cls := "BeamSetter$Piece", name := "measureOf", desc := "(I)I" } : MethodName)) ∈ TW := tw_in 573 (by decide +kernel) rfl
set_option maxRecDepth 20000 in
theorem k_574 : (Cond.selects "BeamSetter$Piece" ({ cls := "BeamSetter$Piece", name := "measureOf", desc := "(I)I" } : MethodName) ({ cls := "BeamSetter$Piece", name := "measureOf", desc := "(I)I" } : MethodName)) ∈ TW := tw_in 574 (by decide +kernel) rfl
set_option maxRecDepth 20000 in
theorem k_575 : (Cond.code ({ cls := "BeamSetter$Piece", name := "measureOf", desc := "(I)I" } : MethodName) prog_4_method_14_code (2 : Nat) (some FieldType.int)) ∈ TW := tw_in 575 (by decide +kernel) rfl
set_option maxRecDepth 20000 in
theorem k_576 : (Cond.methodLink "BeamSetter$Piece" (110 : Nat) ({ cls := "BeamSetter$Piece", name := "partOf", desc := "(II)I" } : MethodName)) ∈ TW := tw_in 576 (by decide +kernel) rfl
set_option maxRecDepth 20000 in
theorem k_577 : (Cond.instanceMethod ({ cls := "BeamSetter$Piece", name := "partOf", desc := "(II)I" } : MethodName)) ∈ TW := tw_in 577 (by decide +kernel) rfl
set_option maxRecDepth 20000 in
theorem k_578 : (Cond.selects "BeamSetter$Piece" ({ cls := "BeamSetter$Piece", name := "partOf", desc := "(II)I" } : MethodName) ({ cls := "BeamSetter$Piece", name := "partOf", desc := "(II)I" } : MethodName)) ∈ TW := tw_in 578 (by decide +kernel) rfl
set_option maxRecDepth 20000 in
theorem k_579 : (Cond.code ({ cls := "BeamSetter$Piece", name := "partOf", desc := "(II)I" } : MethodName) prog_4_method_15_code (6 : Nat) (some FieldType.int)) ∈ TW := tw_in 579 (by decide +kernel) rfl
set_option maxRecDepth 20000 in
theorem k_580 : (Cond.methodLink "BeamSetter$Piece" (101 : Nat) ({ cls := "BeamSetter$Piece", name := "timeWithin", desc := "(I)I" } : MethodName)) ∈ TW := tw_in 580 (by decide +kernel) rfl
set_option maxRecDepth 20000 in
theorem k_581 : (Cond.instanceMethod ({ cls := "BeamSetter$Piece", name := "timeWithin", desc := "(I)I" } : MethodName)) ∈ TW := tw_in 581 (by decide +kernel) rfl
set_option maxRecDepth 20000 in
theorem k_582 : (Cond.selects "BeamSetter$Piece" ({ cls := "BeamSetter$Piece", name := "timeWithin", desc := "(I)I" } : MethodName) ({ cls := "BeamSetter$Piece", name := "timeWithin", desc := "(I)I" } : MethodName)) ∈ TW := tw_in 582 (by decide +kernel) rfl
set_option maxRecDepth 20000 in
theorem k_583 : (Cond.code ({ cls := "BeamSetter$Piece", name := "timeWithin", desc := "(I)I" } : MethodName) prog_4_method_13_code (2 : Nat) (some FieldType.int)) ∈ TW := tw_in 583 (by decide +kernel) rfl
set_option maxRecDepth 20000 in
theorem k_585 : (Cond.methodLink "BeamSetterLaw" (132 : Nat) ({ cls := "BeamSetter", name := "position", desc := "(I)I" } : MethodName)) ∈ TW := tw_in 585 (by decide +kernel) rfl
set_option maxRecDepth 20000 in
theorem k_586 : (Cond.instanceMethod ({ cls := "BeamSetter", name := "position", desc := "(I)I" } : MethodName)) ∈ TW := tw_in 586 (by decide +kernel) rfl
set_option maxRecDepth 20000 in
theorem k_587 : (Cond.selects "BeamSetter" ({ cls := "BeamSetter", name := "position", desc := "(I)I" } : MethodName) ({ cls := "BeamSetter", name := "position", desc := "(I)I" } : MethodName)) ∈ TW := tw_in 587 (by decide +kernel) rfl
set_option maxRecDepth 20000 in
theorem k_588 : (Cond.code ({ cls := "BeamSetter", name := "position", desc := "(I)I" } : MethodName) prog_1_method_6_code (2 : Nat) (some FieldType.int)) ∈ TW := tw_in 588 (by decide +kernel) rfl
set_option maxRecDepth 20000 in
theorem k_589 : (Cond.methodLink "BeamSetter" (141 : Nat) ({ cls := "BeamSetter", name := "isNote", desc := "(I)Z" } : MethodName)) ∈ TW := tw_in 589 (by decide +kernel) rfl
set_option maxRecDepth 20000 in
theorem k_591 : (Cond.instanceMethod ({ cls := "BeamSetter", name := "isNote", desc := "(I)Z" } : MethodName)) ∈ TW := tw_in 591 (by decide +kernel) rfl
set_option maxRecDepth 20000 in
theorem k_592 : (Cond.code ({ cls := "BeamSetter", name := "isNote", desc := "(I)Z" } : MethodName) prog_1_method_40_code (2 : Nat) (some FieldType.boolean)) ∈ TW := tw_in 592 (by decide +kernel) rfl
set_option maxRecDepth 20000 in
theorem k_593 : (Cond.methodLink "BeamSetter" (96 : Nat) ({ cls := "BeamSetter", name := "isElement", desc := "(I)Z" } : MethodName)) ∈ TW := tw_in 593 (by decide +kernel) rfl
set_option maxRecDepth 20000 in
theorem k_595 : (Cond.instanceMethod ({ cls := "BeamSetter", name := "isElement", desc := "(I)Z" } : MethodName)) ∈ TW := tw_in 595 (by decide +kernel) rfl
set_option maxRecDepth 20000 in
theorem k_596 : (Cond.code ({ cls := "BeamSetter", name := "isElement", desc := "(I)Z" } : MethodName) prog_1_method_39_code (2 : Nat) (some FieldType.boolean)) ∈ TW := tw_in 596 (by decide +kernel) rfl
set_option maxRecDepth 20000 in
theorem k_597 : (Cond.constant "BeamSetter" (147 : Nat) (-1000000 : Int32)) ∈ TW := tw_in 597 (by decide +kernel) rfl
set_option maxRecDepth 20000 in
theorem k_598 : (Cond.methodLink "BeamSetterLaw" (181 : Nat) ({ cls := "BeamSetter", name := "put", desc := "(II)I" } : MethodName)) ∈ TW := tw_in 598 (by decide +kernel) rfl
set_option maxRecDepth 20000 in
theorem k_599 : (Cond.instanceMethod ({ cls := "BeamSetter", name := "put", desc := "(II)I" } : MethodName)) ∈ TW := tw_in 599 (by decide +kernel) rfl
set_option maxRecDepth 20000 in
theorem k_600 : (Cond.selects "BeamSetter" ({ cls := "BeamSetter", name := "put", desc := "(II)I" } : MethodName) ({ cls := "BeamSetter", name := "put", desc := "(II)I" } : MethodName)) ∈ TW := tw_in 600 (by decide +kernel) rfl
set_option maxRecDepth 20000 in
theorem k_601 : (Cond.code ({ cls := "BeamSetter", name := "put", desc := "(II)I" } : MethodName) prog_1_method_8_code (4 : Nat) (some FieldType.int)) ∈ TW := tw_in 601 (by decide +kernel) rfl
set_option maxRecDepth 20000 in
theorem k_602 : (Cond.methodLink "BeamSetter" (154 : Nat) ({ cls := "BeamSetter", name := "isPosition", desc := "(I)Z" } : MethodName)) ∈ TW := tw_in 602 (by decide +kernel) rfl
set_option maxRecDepth 20000 in
theorem k_603 : (Cond.static ({ cls := "BeamSetter", name := "isPosition", desc := "(I)Z" } : MethodName)) ∈ TW := tw_in 603 (by decide +kernel) rfl
set_option maxRecDepth 20000 in
theorem k_604 : (Cond.code ({ cls := "BeamSetter", name := "isPosition", desc := "(I)Z" } : MethodName) prog_1_method_43_code (1 : Nat) (some FieldType.boolean)) ∈ TW := tw_in 604 (by decide +kernel) rfl
set_option maxRecDepth 20000 in
theorem k_605 : (Cond.methodLink "BeamSetter" (157 : Nat) ({ cls := "BeamSetter$History", name := "remember", desc := "(II)V" } : MethodName)) ∈ TW := tw_in 605 (by decide +kernel) rfl
set_option maxRecDepth 20000 in
theorem k_606 : (Cond.instanceMethod ({ cls := "BeamSetter$History", name := "remember", desc := "(II)V" } : MethodName)) ∈ TW := tw_in 606 (by decide +kernel) rfl
set_option maxRecDepth 20000 in
theorem k_607 : (Cond.selects "BeamSetter$History" ({ cls := "BeamSetter$History", name := "remember", desc := "(II)V" } : MethodName) ({ cls := "BeamSetter$History", name := "remember", desc := "(II)V" } : MethodName)) ∈ TW := tw_in 607 (by decide +kernel) rfl
set_option maxRecDepth 20000 in
theorem k_608 : (Cond.code ({ cls := "BeamSetter$History", name := "remember", desc := "(II)V" } : MethodName) prog_3_method_2_code (3 : Nat) (none : Option FieldType)) ∈ TW := tw_in 608 (by decide +kernel) rfl
set_option maxRecDepth 20000 in
theorem k_612 : (Cond.methodLink "BeamSetterLaw" (183 : Nat) ({ cls := "BeamSetter", name := "undo", desc := "()I" } : MethodName)) ∈ TW := tw_in 612 (by decide +kernel) rfl
set_option maxRecDepth 20000 in
theorem k_613 : (Cond.instanceMethod ({ cls := "BeamSetter", name := "undo", desc := "()I" } : MethodName)) ∈ TW := tw_in 613 (by decide +kernel) rfl
set_option maxRecDepth 20000 in
theorem k_614 : (Cond.selects "BeamSetter" ({ cls := "BeamSetter", name := "undo", desc := "()I" } : MethodName) ({ cls := "BeamSetter", name := "undo", desc := "()I" } : MethodName)) ∈ TW := tw_in 614 (by decide +kernel) rfl
set_option maxRecDepth 20000 in
theorem k_615 : (Cond.code ({ cls := "BeamSetter", name := "undo", desc := "()I" } : MethodName) prog_1_method_9_code (2 : Nat) (some FieldType.int)) ∈ TW := tw_in 615 (by decide +kernel) rfl
set_option maxRecDepth 20000 in
theorem k_616 : (Cond.methodLink "BeamSetter" (161 : Nat) ({ cls := "BeamSetter$History", name := "latestElement", desc := "()I" } : MethodName)) ∈ TW := tw_in 616 (by decide +kernel) rfl
set_option maxRecDepth 20000 in
theorem k_617 : (Cond.instanceMethod ({ cls := "BeamSetter$History", name := "latestElement", desc := "()I" } : MethodName)) ∈ TW := tw_in 617 (by decide +kernel) rfl
set_option maxRecDepth 20000 in
theorem k_618 : (Cond.selects "BeamSetter$History" ({ cls := "BeamSetter$History", name := "latestElement", desc := "()I" } : MethodName) ({ cls := "BeamSetter$History", name := "latestElement", desc := "()I" } : MethodName)) ∈ TW := tw_in 618 (by decide +kernel) rfl
set_option maxRecDepth 20000 in
theorem k_619 : (Cond.code ({ cls := "BeamSetter$History", name := "latestElement", desc := "()I" } : MethodName) prog_3_method_3_code (1 : Nat) (some FieldType.int)) ∈ TW := tw_in 619 (by decide +kernel) rfl
set_option maxRecDepth 20000 in
theorem k_620 : (Cond.methodLink "BeamSetter" (165 : Nat) ({ cls := "BeamSetter$History", name := "latestPosition", desc := "()I" } : MethodName)) ∈ TW := tw_in 620 (by decide +kernel) rfl
set_option maxRecDepth 20000 in
theorem k_621 : (Cond.instanceMethod ({ cls := "BeamSetter$History", name := "latestPosition", desc := "()I" } : MethodName)) ∈ TW := tw_in 621 (by decide +kernel) rfl
set_option maxRecDepth 20000 in
theorem k_622 : (Cond.selects "BeamSetter$History" ({ cls := "BeamSetter$History", name := "latestPosition", desc := "()I" } : MethodName) ({ cls := "BeamSetter$History", name := "latestPosition", desc := "()I" } : MethodName)) ∈ TW := tw_in 622 (by decide +kernel) rfl
set_option maxRecDepth 20000 in
theorem k_623 : (Cond.code ({ cls := "BeamSetter$History", name := "latestPosition", desc := "()I" } : MethodName) prog_3_method_4_code (1 : Nat) (some FieldType.int)) ∈ TW := tw_in 623 (by decide +kernel) rfl
set_option maxRecDepth 20000 in
theorem k_624 : (Cond.methodLink "BeamSetter" (168 : Nat) ({ cls := "BeamSetter$History", name := "forgetLatest", desc := "()V" } : MethodName)) ∈ TW := tw_in 624 (by decide +kernel) rfl
set_option maxRecDepth 20000 in
theorem k_625 : (Cond.instanceMethod ({ cls := "BeamSetter$History", name := "forgetLatest", desc := "()V" } : MethodName)) ∈ TW := tw_in 625 (by decide +kernel) rfl
set_option maxRecDepth 20000 in
theorem k_626 : (Cond.selects "BeamSetter$History" ({ cls := "BeamSetter$History", name := "forgetLatest", desc := "()V" } : MethodName) ({ cls := "BeamSetter$History", name := "forgetLatest", desc := "()V" } : MethodName)) ∈ TW := tw_in 626 (by decide +kernel) rfl
set_option maxRecDepth 20000 in
theorem k_627 : (Cond.code ({ cls := "BeamSetter$History", name := "forgetLatest", desc := "()V" } : MethodName) prog_3_method_5_code (1 : Nat) (none : Option FieldType)) ∈ TW := tw_in 627 (by decide +kernel) rfl
set_option maxRecDepth 20000 in
theorem k_628 : (Cond.methodLink "BeamSetter$History" (28 : Nat) ({ cls := "java/lang/Math", name := "max", desc := "(II)I" } : MethodName)) ∈ TW := tw_in 628 (by decide +kernel) rfl
set_option maxRecDepth 20000 in
theorem k_629 : (Cond.methodLink "BeamSetterLaw" (137 : Nat) ({ cls := "BeamSetter", name := "best", desc := "(II)I" } : MethodName)) ∈ TW := tw_in 629 (by decide +kernel) rfl
set_option maxRecDepth 20000 in
theorem k_630 : (Cond.instanceMethod ({ cls := "BeamSetter", name := "best", desc := "(II)I" } : MethodName)) ∈ TW := tw_in 630 (by decide +kernel) rfl
set_option maxRecDepth 20000 in
theorem k_631 : (Cond.selects "BeamSetter" ({ cls := "BeamSetter", name := "best", desc := "(II)I" } : MethodName) ({ cls := "BeamSetter", name := "best", desc := "(II)I" } : MethodName)) ∈ TW := tw_in 631 (by decide +kernel) rfl
set_option maxRecDepth 20000 in
theorem k_632 : (Cond.code ({ cls := "BeamSetter", name := "best", desc := "(II)I" } : MethodName) prog_1_method_14_code (3 : Nat) (some FieldType.int)) ∈ TW := tw_in 632 (by decide +kernel) rfl
set_option maxRecDepth 20000 in
theorem k_633 : (Cond.methodLink "BeamSetter" (171 : Nat) ({ cls := "BeamSetter", name := "isGroup", desc := "(I)Z" } : MethodName)) ∈ TW := tw_in 633 (by decide +kernel) rfl
set_option maxRecDepth 20000 in
theorem k_635 : (Cond.instanceMethod ({ cls := "BeamSetter", name := "isGroup", desc := "(I)Z" } : MethodName)) ∈ TW := tw_in 635 (by decide +kernel) rfl
set_option maxRecDepth 20000 in
theorem k_636 : (Cond.code ({ cls := "BeamSetter", name := "isGroup", desc := "(I)Z" } : MethodName) prog_1_method_42_code (2 : Nat) (some FieldType.boolean)) ∈ TW := tw_in 636 (by decide +kernel) rfl
set_option maxRecDepth 20000 in
theorem k_637 : (Cond.methodLink "BeamSetter" (176 : Nat) ({ cls := "BeamSetter", name := "load", desc := "(I)V" } : MethodName)) ∈ TW := tw_in 637 (by decide +kernel) rfl
set_option maxRecDepth 20000 in
theorem k_639 : (Cond.instanceMethod ({ cls := "BeamSetter", name := "load", desc := "(I)V" } : MethodName)) ∈ TW := tw_in 639 (by decide +kernel) rfl
set_option maxRecDepth 20000 in
theorem k_640 : (Cond.code ({ cls := "BeamSetter", name := "load", desc := "(I)V" } : MethodName) prog_1_method_45_code (2 : Nat) (none : Option FieldType)) ∈ TW := tw_in 640 (by decide +kernel) rfl
set_option maxRecDepth 20000 in
theorem k_641 : (Cond.methodLink "BeamSetter" (382 : Nat) ({ cls := "BeamSetter$Group", name := "load", desc := "(LBeamSetter$Piece;[IIII)V" } : MethodName)) ∈ TW := tw_in 641 (by decide +kernel) rfl
set_option maxRecDepth 20000 in
theorem k_642 : (Cond.instanceMethod ({ cls := "BeamSetter$Group", name := "load", desc := "(LBeamSetter$Piece;[IIII)V" } : MethodName)) ∈ TW := tw_in 642 (by decide +kernel) rfl
set_option maxRecDepth 20000 in
theorem k_643 : (Cond.selects "BeamSetter$Group" ({ cls := "BeamSetter$Group", name := "load", desc := "(LBeamSetter$Piece;[IIII)V" } : MethodName) ({ cls := "BeamSetter$Group", name := "load", desc := "(LBeamSetter$Piece;[IIII)V" } : MethodName)) ∈ TW := tw_in 643 (by decide +kernel) rfl
set_option maxRecDepth 20000 in
theorem k_644 : (Cond.code ({ cls := "BeamSetter$Group", name := "load", desc := "(LBeamSetter$Piece;[IIII)V" } : MethodName) prog_2_method_2_code (7 : Nat) (none : Option FieldType)) ∈ TW := tw_in 644 (by decide +kernel) rfl
set_option maxRecDepth 20000 in
theorem k_645 : (Cond.methodLink "BeamSetter$Group" (44 : Nat) ({ cls := "java/lang/Math", name := "min", desc := "(II)I" } : MethodName)) ∈ TW := tw_in 645 (by decide +kernel) rfl
set_option maxRecDepth 20000 in
theorem k_646 : (Cond.methodLink "BeamSetter$Group" (50 : Nat) ({ cls := "java/lang/Math", name := "max", desc := "(II)I" } : MethodName)) ∈ TW := tw_in 646 (by decide +kernel) rfl
set_option maxRecDepth 20000 in
theorem k_647 : (Cond.methodLink "BeamSetter$Group" (58 : Nat) ({ cls := "BeamSetter$Piece", name := "beamsOf", desc := "(I)I" } : MethodName)) ∈ TW := tw_in 647 (by decide +kernel) rfl
set_option maxRecDepth 20000 in
theorem k_648 : (Cond.methodLink "BeamSetter$Group" (68 : Nat) ({ cls := "BeamSetter$Group", name := "decideWays", desc := "(I)V" } : MethodName)) ∈ TW := tw_in 648 (by decide +kernel) rfl
set_option maxRecDepth 20000 in
theorem k_650 : (Cond.instanceMethod ({ cls := "BeamSetter$Group", name := "decideWays", desc := "(I)V" } : MethodName)) ∈ TW := tw_in 650 (by decide +kernel) rfl
set_option maxRecDepth 20000 in
theorem k_651 : (Cond.code ({ cls := "BeamSetter$Group", name := "decideWays", desc := "(I)V" } : MethodName) prog_2_method_3_code (6 : Nat) (none : Option FieldType)) ∈ TW := tw_in 651 (by decide +kernel) rfl
set_option maxRecDepth 20000 in
theorem k_652 : (Cond.methodLink "BeamSetter$Group" (79 : Nat) ({ cls := "BeamSetter$Group", name := "lowerSideOfKnee", desc := "(I)I" } : MethodName)) ∈ TW := tw_in 652 (by decide +kernel) rfl
set_option maxRecDepth 20000 in
theorem k_654 : (Cond.instanceMethod ({ cls := "BeamSetter$Group", name := "lowerSideOfKnee", desc := "(I)I" } : MethodName)) ∈ TW := tw_in 654 (by decide +kernel) rfl
set_option maxRecDepth 20000 in
theorem k_655 : (Cond.code ({ cls := "BeamSetter$Group", name := "lowerSideOfKnee", desc := "(I)I" } : MethodName) prog_2_method_4_code (9 : Nat) (some FieldType.int)) ∈ TW := tw_in 655 (by decide +kernel) rfl
set_option maxRecDepth 20000 in
theorem k_656 : (Cond.methodLink "BeamSetter$Group" (94 : Nat) ({ cls := "BeamSetter$Group", name := "markTaken", desc := "()V" } : MethodName)) ∈ TW := tw_in 656 (by decide +kernel) rfl
set_option maxRecDepth 20000 in
theorem k_658 : (Cond.instanceMethod ({ cls := "BeamSetter$Group", name := "markTaken", desc := "()V" } : MethodName)) ∈ TW := tw_in 658 (by decide +kernel) rfl
set_option maxRecDepth 20000 in
theorem k_659 : (Cond.code ({ cls := "BeamSetter$Group", name := "markTaken", desc := "()V" } : MethodName) prog_2_method_5_code (3 : Nat) (none : Option FieldType)) ∈ TW := tw_in 659 (by decide +kernel) rfl
set_option maxRecDepth 20000 in
theorem k_660 : (Cond.constant "BeamSetter$Group" (82 : Nat) (-1000000 : Int32)) ∈ TW := tw_in 660 (by decide +kernel) rfl
set_option maxRecDepth 20000 in
theorem k_661 : (Cond.constant "BeamSetter$Group" (97 : Nat) (2147483647 : Int32)) ∈ TW := tw_in 661 (by decide +kernel) rfl
set_option maxRecDepth 20000 in
theorem k_662 : (Cond.methodLink "BeamSetter$Group" (98 : Nat) ({ cls := "java/lang/Math", name := "abs", desc := "(I)I" } : MethodName)) ∈ TW := tw_in 662 (by decide +kernel) rfl
set_option maxRecDepth 20000 in
theorem k_663 : (Cond.static ({ cls := "java/lang/Math", name := "abs", desc := "(I)I" } : MethodName)) ∈ TW := tw_in 663 (by decide +kernel) rfl
set_option maxRecDepth 20000 in
theorem k_664 : (Cond.code ({ cls := "java/lang/Math", name := "abs", desc := "(I)I" } : MethodName) prog_20_method_59_code (1 : Nat) (some FieldType.int)) ∈ TW := tw_in 664 (by decide +kernel) rfl
set_option maxRecDepth 20000 in
theorem k_665 : (Cond.methodLink "BeamSetter$Group" (87 : Nat) ({ cls := "BeamSetter$Group", name := "commonWay", desc := "()I" } : MethodName)) ∈ TW := tw_in 665 (by decide +kernel) rfl
set_option maxRecDepth 20000 in
theorem k_667 : (Cond.instanceMethod ({ cls := "BeamSetter$Group", name := "commonWay", desc := "()I" } : MethodName)) ∈ TW := tw_in 667 (by decide +kernel) rfl
set_option maxRecDepth 20000 in
theorem k_668 : (Cond.code ({ cls := "BeamSetter$Group", name := "commonWay", desc := "()I" } : MethodName) prog_2_method_6_code (5 : Nat) (some FieldType.int)) ∈ TW := tw_in 668 (by decide +kernel) rfl
set_option maxRecDepth 20000 in
theorem k_669 : (Cond.methodLink "BeamSetter$Group" (72 : Nat) ({ cls := "BeamSetter$Group", name := "decideWant", desc := "()V" } : MethodName)) ∈ TW := tw_in 669 (by decide +kernel) rfl
set_option maxRecDepth 20000 in
theorem k_671 : (Cond.instanceMethod ({ cls := "BeamSetter$Group", name := "decideWant", desc := "()V" } : MethodName)) ∈ TW := tw_in 671 (by decide +kernel) rfl
set_option maxRecDepth 20000 in
theorem k_672 : (Cond.code ({ cls := "BeamSetter$Group", name := "decideWant", desc := "()V" } : MethodName) prog_2_method_7_code (5 : Nat) (none : Option FieldType)) ∈ TW := tw_in 672 (by decide +kernel) rfl
set_option maxRecDepth 20000 in
theorem k_673 : (Cond.methodLink "BeamSetter$Group" (75 : Nat) ({ cls := "BeamSetter$Group", name := "idealLength", desc := "(III)I" } : MethodName)) ∈ TW := tw_in 673 (by decide +kernel) rfl
set_option maxRecDepth 20000 in
theorem k_674 : (Cond.static ({ cls := "BeamSetter$Group", name := "idealLength", desc := "(III)I" } : MethodName)) ∈ TW := tw_in 674 (by decide +kernel) rfl
set_option maxRecDepth 20000 in
theorem k_675 : (Cond.code ({ cls := "BeamSetter$Group", name := "idealLength", desc := "(III)I" } : MethodName) prog_2_method_8_code (5 : Nat) (some FieldType.int)) ∈ TW := tw_in 675 (by decide +kernel) rfl
set_option maxRecDepth 20000 in
theorem k_676 : (Cond.methodLink "BeamSetter" (216 : Nat) ({ cls := "BeamSetter", name := "tellBest", desc := "(I)I" } : MethodName)) ∈ TW := tw_in 676 (by decide +kernel) rfl
set_option maxRecDepth 20000 in
theorem k_678 : (Cond.instanceMethod ({ cls := "BeamSetter", name := "tellBest", desc := "(I)I" } : MethodName)) ∈ TW := tw_in 678 (by decide +kernel) rfl
set_option maxRecDepth 20000 in
theorem k_679 : (Cond.code ({ cls := "BeamSetter", name := "tellBest", desc := "(I)I" } : MethodName) prog_1_method_49_code (4 : Nat) (some FieldType.int)) ∈ TW := tw_in 679 (by decide +kernel) rfl
set_option maxRecDepth 20000 in
theorem k_680 : (Cond.methodLink "BeamSetter" (238 : Nat) ({ cls := "BeamSetter$Group", name := "findBest", desc := "()J" } : MethodName)) ∈ TW := tw_in 680 (by decide +kernel) rfl
set_option maxRecDepth 20000 in
theorem k_681 : (Cond.instanceMethod ({ cls := "BeamSetter$Group", name := "findBest", desc := "()J" } : MethodName)) ∈ TW := tw_in 681 (by decide +kernel) rfl
set_option maxRecDepth 20000 in
theorem k_682 : (Cond.selects "BeamSetter$Group" ({ cls := "BeamSetter$Group", name := "findBest", desc := "()J" } : MethodName) ({ cls := "BeamSetter$Group", name := "findBest", desc := "()J" } : MethodName)) ∈ TW := tw_in 682 (by decide +kernel) rfl
set_option maxRecDepth 20000 in
theorem k_683 : (Cond.code ({ cls := "BeamSetter$Group", name := "findBest", desc := "()J" } : MethodName) prog_2_method_33_code (4 : Nat) (some FieldType.long)) ∈ TW := tw_in 683 (by decide +kernel) rfl
set_option maxRecDepth 20000 in
theorem k_684 : (Cond.constantLong "BeamSetter$Group" (165 : Nat) (9223372036854775807 : Int64)) ∈ TW := tw_in 684 (by decide +kernel) rfl
set_option maxRecDepth 20000 in
theorem k_685 : (Cond.methodLink "BeamSetter$Group" (155 : Nat) ({ cls := "BeamSetter$Group", name := "uglinessOf", desc := "(J)I" } : MethodName)) ∈ TW := tw_in 685 (by decide +kernel) rfl
set_option maxRecDepth 20000 in
theorem k_686 : (Cond.static ({ cls := "BeamSetter$Group", name := "uglinessOf", desc := "(J)I" } : MethodName)) ∈ TW := tw_in 686 (by decide +kernel) rfl
set_option maxRecDepth 20000 in
theorem k_687 : (Cond.code ({ cls := "BeamSetter$Group", name := "uglinessOf", desc := "(J)I" } : MethodName) prog_2_method_25_code (2 : Nat) (some FieldType.int)) ∈ TW := tw_in 687 (by decide +kernel) rfl
set_option maxRecDepth 20000 in
theorem k_688 : (Cond.methodLink "BeamSetter$Group" (167 : Nat) ({ cls := "BeamSetter$Group", name := "bestSloping", desc := "(IJ)J" } : MethodName)) ∈ TW := tw_in 688 (by decide +kernel) rfl
set_option maxRecDepth 20000 in
theorem k_690 : (Cond.instanceMethod ({ cls := "BeamSetter$Group", name := "bestSloping", desc := "(IJ)J" } : MethodName)) ∈ TW := tw_in 690 (by decide +kernel) rfl
set_option maxRecDepth 20000 in
theorem k_691 : (Cond.code ({ cls := "BeamSetter$Group", name := "bestSloping", desc := "(IJ)J" } : MethodName) prog_2_method_35_code (9 : Nat) (some FieldType.long)) ∈ TW := tw_in 691 (by decide +kernel) rfl
set_option maxRecDepth 20000 in
theorem k_692 : (Cond.methodLink "BeamSetter$Group" (119 : Nat) ({ cls := "BeamSetter$Group", name := "tilt", desc := "(I)V" } : MethodName)) ∈ TW := tw_in 692 (by decide +kernel) rfl
set_option maxRecDepth 20000 in
theorem k_694 : (Cond.instanceMethod ({ cls := "BeamSetter$Group", name := "tilt", desc := "(I)V" } : MethodName)) ∈ TW := tw_in 694 (by decide +kernel) rfl
set_option maxRecDepth 20000 in
theorem k_695 : (Cond.code ({ cls := "BeamSetter$Group", name := "tilt", desc := "(I)V" } : MethodName) prog_2_method_11_code (6 : Nat) (none : Option FieldType)) ∈ TW := tw_in 695 (by decide +kernel) rfl
set_option maxRecDepth 20000 in
theorem k_696 : (Cond.methodLink "BeamSetter$Group" (113 : Nat) ({ cls := "java/lang/Math", name := "floorDiv", desc := "(II)I" } : MethodName)) ∈ TW := tw_in 696 (by decide +kernel) rfl
set_option maxRecDepth 20000 in
theorem k_697 : (Cond.static ({ cls := "java/lang/Math", name := "floorDiv", desc := "(II)I" } : MethodName)) ∈ TW := tw_in 697 (by decide +kernel) rfl
