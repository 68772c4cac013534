set_option maxRecDepth 20000 in
theorem k_698 : (Cond.code ({ cls := "java/lang/Math", name := "floorDiv", desc := "(II)I" } : MethodName) prog_20_method_47_code (3 : Nat) (some FieldType.int)) ∈ TW := tw_in 698 (by decide +kernel) rfl
set_option maxRecDepth 20000 in
theorem k_699 : (Cond.methodLink "BeamSetter$Group" (116 : Nat) ({ cls := "BeamSetter$Group", name := "shortestLength", desc := "(I)I" } : MethodName)) ∈ TW := tw_in 699 (by decide +kernel) rfl
set_option maxRecDepth 20000 in
theorem k_700 : (Cond.static ({ cls := "BeamSetter$Group", name := "shortestLength", desc := "(I)I" } : MethodName)) ∈ TW := tw_in 700 (by decide +kernel) rfl
set_option maxRecDepth 20000 in
theorem k_701 : (Cond.code ({ cls := "BeamSetter$Group", name := "shortestLength", desc := "(I)I" } : MethodName) prog_2_method_9_code (1 : Nat) (some FieldType.int)) ∈ TW := tw_in 701 (by decide +kernel) rfl
set_option maxRecDepth 20000 in
theorem k_702 : (Cond.methodLink "BeamSetter$Group" (133 : Nat) ({ cls := "BeamSetter$Group", name := "slopeOf", desc := "(I)I" } : MethodName)) ∈ TW := tw_in 702 (by decide +kernel) rfl
set_option maxRecDepth 20000 in
theorem k_704 : (Cond.instanceMethod ({ cls := "BeamSetter$Group", name := "slopeOf", desc := "(I)I" } : MethodName)) ∈ TW := tw_in 704 (by decide +kernel) rfl
set_option maxRecDepth 20000 in
theorem k_705 : (Cond.code ({ cls := "BeamSetter$Group", name := "slopeOf", desc := "(I)I" } : MethodName) prog_2_method_14_code (3 : Nat) (some FieldType.int)) ∈ TW := tw_in 705 (by decide +kernel) rfl
set_option maxRecDepth 20000 in
theorem k_706 : (Cond.methodLink "BeamSetter$Group" (130 : Nat) ({ cls := "BeamSetter$Group", name := "stemsAt", desc := "(I)I" } : MethodName)) ∈ TW := tw_in 706 (by decide +kernel) rfl
set_option maxRecDepth 20000 in
theorem k_708 : (Cond.instanceMethod ({ cls := "BeamSetter$Group", name := "stemsAt", desc := "(I)I" } : MethodName)) ∈ TW := tw_in 708 (by decide +kernel) rfl
set_option maxRecDepth 20000 in
theorem k_709 : (Cond.code ({ cls := "BeamSetter$Group", name := "stemsAt", desc := "(I)I" } : MethodName) prog_2_method_13_code (5 : Nat) (some FieldType.int)) ∈ TW := tw_in 709 (by decide +kernel) rfl
set_option maxRecDepth 20000 in
theorem k_710 : (Cond.methodLink "BeamSetter$Group" (136 : Nat) ({ cls := "BeamSetter$Group", name := "staffAt", desc := "(II)I" } : MethodName)) ∈ TW := tw_in 710 (by decide +kernel) rfl
set_option maxRecDepth 20000 in
theorem k_712 : (Cond.instanceMethod ({ cls := "BeamSetter$Group", name := "staffAt", desc := "(II)I" } : MethodName)) ∈ TW := tw_in 712 (by decide +kernel) rfl
set_option maxRecDepth 20000 in
theorem k_713 : (Cond.code ({ cls := "BeamSetter$Group", name := "staffAt", desc := "(II)I" } : MethodName) prog_2_method_15_code (3 : Nat) (some FieldType.int)) ∈ TW := tw_in 713 (by decide +kernel) rfl
set_option maxRecDepth 20000 in
theorem k_714 : (Cond.methodLink "BeamSetter$Group" (122 : Nat) ({ cls := "BeamSetter$Group", name := "staffAtEnd", desc := "(III)I" } : MethodName)) ∈ TW := tw_in 714 (by decide +kernel) rfl
set_option maxRecDepth 20000 in
theorem k_716 : (Cond.instanceMethod ({ cls := "BeamSetter$Group", name := "staffAtEnd", desc := "(III)I" } : MethodName)) ∈ TW := tw_in 716 (by decide +kernel) rfl
set_option maxRecDepth 20000 in
theorem k_717 : (Cond.code ({ cls := "BeamSetter$Group", name := "staffAtEnd", desc := "(III)I" } : MethodName) prog_2_method_16_code (7 : Nat) (some FieldType.int)) ∈ TW := tw_in 717 (by decide +kernel) rfl
set_option maxRecDepth 20000 in
theorem k_718 : (Cond.methodLink "BeamSetter$Group" (125 : Nat) ({ cls := "BeamSetter$Group", name := "touchCost", desc := "(II)I" } : MethodName)) ∈ TW := tw_in 718 (by decide +kernel) rfl
set_option maxRecDepth 20000 in
theorem k_719 : (Cond.static ({ cls := "BeamSetter$Group", name := "touchCost", desc := "(II)I" } : MethodName)) ∈ TW := tw_in 719 (by decide +kernel) rfl
set_option maxRecDepth 20000 in
theorem k_720 : (Cond.code ({ cls := "BeamSetter$Group", name := "touchCost", desc := "(II)I" } : MethodName) prog_2_method_17_code (2 : Nat) (some FieldType.int)) ∈ TW := tw_in 720 (by decide +kernel) rfl
set_option maxRecDepth 20000 in
theorem k_721 : (Cond.methodLink "BeamSetter$Group" (139 : Nat) ({ cls := "BeamSetter$Group", name := "keyAt", desc := "(III)J" } : MethodName)) ∈ TW := tw_in 721 (by decide +kernel) rfl
set_option maxRecDepth 20000 in
theorem k_723 : (Cond.instanceMethod ({ cls := "BeamSetter$Group", name := "keyAt", desc := "(III)J" } : MethodName)) ∈ TW := tw_in 723 (by decide +kernel) rfl
set_option maxRecDepth 20000 in
theorem k_724 : (Cond.code ({ cls := "BeamSetter$Group", name := "keyAt", desc := "(III)J" } : MethodName) prog_2_method_23_code (6 : Nat) (some FieldType.long)) ∈ TW := tw_in 724 (by decide +kernel) rfl
set_option maxRecDepth 20000 in
theorem k_725 : (Cond.constantLong "BeamSetter$Group" (128 : Nat) (60 : Int64)) ∈ TW := tw_in 725 (by decide +kernel) rfl
set_option maxRecDepth 20000 in
theorem k_726 : (Cond.methodLink "BeamSetter$Group" (171 : Nat) ({ cls := "java/lang/Math", name := "min", desc := "(JJ)J" } : MethodName)) ∈ TW := tw_in 726 (by decide +kernel) rfl
set_option maxRecDepth 20000 in
theorem k_727 : (Cond.static ({ cls := "java/lang/Math", name := "min", desc := "(JJ)J" } : MethodName)) ∈ TW := tw_in 727 (by decide +kernel) rfl
set_option maxRecDepth 20000 in
theorem k_728 : (Cond.code ({ cls := "java/lang/Math", name := "min", desc := "(JJ)J" } : MethodName) prog_20_method_70_code (4 : Nat) (some FieldType.long)) ∈ TW := tw_in 728 (by decide +kernel) rfl
set_option maxRecDepth 20000 in
theorem k_729 : (Cond.constantLong "BeamSetter" (242 : Nat) (9223372036854775807 : Int64)) ∈ TW := tw_in 729 (by decide +kernel) rfl
set_option maxRecDepth 20000 in
theorem k_730 : (Cond.methodLink "BeamSetter" (226 : Nat) ({ cls := "BeamSetter$Group", name := "tell", desc := "(JI)I" } : MethodName)) ∈ TW := tw_in 730 (by decide +kernel) rfl
set_option maxRecDepth 20000 in
theorem k_731 : (Cond.instanceMethod ({ cls := "BeamSetter$Group", name := "tell", desc := "(JI)I" } : MethodName)) ∈ TW := tw_in 731 (by decide +kernel) rfl
set_option maxRecDepth 20000 in
theorem k_732 : (Cond.selects "BeamSetter$Group" ({ cls := "BeamSetter$Group", name := "tell", desc := "(JI)I" } : MethodName) ({ cls := "BeamSetter$Group", name := "tell", desc := "(JI)I" } : MethodName)) ∈ TW := tw_in 732 (by decide +kernel) rfl
set_option maxRecDepth 20000 in
theorem k_733 : (Cond.code ({ cls := "BeamSetter$Group", name := "tell", desc := "(JI)I" } : MethodName) prog_2_method_29_code (4 : Nat) (some FieldType.int)) ∈ TW := tw_in 733 (by decide +kernel) rfl
set_option maxRecDepth 20000 in
theorem k_734 : (Cond.methodLink "BeamSetter$Group" (149 : Nat) ({ cls := "BeamSetter$Group", name := "leftOf", desc := "(J)I" } : MethodName)) ∈ TW := tw_in 734 (by decide +kernel) rfl
set_option maxRecDepth 20000 in
theorem k_735 : (Cond.instanceMethod ({ cls := "BeamSetter$Group", name := "leftOf", desc := "(J)I" } : MethodName)) ∈ TW := tw_in 735 (by decide +kernel) rfl
set_option maxRecDepth 20000 in
theorem k_736 : (Cond.selects "BeamSetter$Group" ({ cls := "BeamSetter$Group", name := "leftOf", desc := "(J)I" } : MethodName) ({ cls := "BeamSetter$Group", name := "leftOf", desc := "(J)I" } : MethodName)) ∈ TW := tw_in 736 (by decide +kernel) rfl
set_option maxRecDepth 20000 in
theorem k_737 : (Cond.code ({ cls := "BeamSetter$Group", name := "leftOf", desc := "(J)I" } : MethodName) prog_2_method_27_code (3 : Nat) (some FieldType.int)) ∈ TW := tw_in 737 (by decide +kernel) rfl
set_option maxRecDepth 20000 in
theorem k_738 : (Cond.methodLink "BeamSetter$Group" (145 : Nat) ({ cls := "BeamSetter$Group", name := "heightIn", desc := "(J)I" } : MethodName)) ∈ TW := tw_in 738 (by decide +kernel) rfl
set_option maxRecDepth 20000 in
theorem k_740 : (Cond.instanceMethod ({ cls := "BeamSetter$Group", name := "heightIn", desc := "(J)I" } : MethodName)) ∈ TW := tw_in 740 (by decide +kernel) rfl
set_option maxRecDepth 20000 in
theorem k_741 : (Cond.code ({ cls := "BeamSetter$Group", name := "heightIn", desc := "(J)I" } : MethodName) prog_2_method_26_code (3 : Nat) (some FieldType.int)) ∈ TW := tw_in 741 (by decide +kernel) rfl
set_option maxRecDepth 20000 in
theorem k_742 : (Cond.constantLong "BeamSetter$Group" (143 : Nat) (127 : Int64)) ∈ TW := tw_in 742 (by decide +kernel) rfl
set_option maxRecDepth 20000 in
theorem k_743 : (Cond.methodLink "BeamSetter$Group" (152 : Nat) ({ cls := "BeamSetter$Group", name := "rightOf", desc := "(J)I" } : MethodName)) ∈ TW := tw_in 743 (by decide +kernel) rfl
set_option maxRecDepth 20000 in
theorem k_744 : (Cond.instanceMethod ({ cls := "BeamSetter$Group", name := "rightOf", desc := "(J)I" } : MethodName)) ∈ TW := tw_in 744 (by decide +kernel) rfl
set_option maxRecDepth 20000 in
theorem k_745 : (Cond.selects "BeamSetter$Group" ({ cls := "BeamSetter$Group", name := "rightOf", desc := "(J)I" } : MethodName) ({ cls := "BeamSetter$Group", name := "rightOf", desc := "(J)I" } : MethodName)) ∈ TW := tw_in 745 (by decide +kernel) rfl
set_option maxRecDepth 20000 in
theorem k_746 : (Cond.code ({ cls := "BeamSetter$Group", name := "rightOf", desc := "(J)I" } : MethodName) prog_2_method_28_code (3 : Nat) (some FieldType.int)) ∈ TW := tw_in 746 (by decide +kernel) rfl
set_option maxRecDepth 20000 in
theorem k_747 : (Cond.methodLink "BeamSetter$Group" (158 : Nat) ({ cls := "BeamSetter$Group", name := "tellSetting", desc := "(III)I" } : MethodName)) ∈ TW := tw_in 747 (by decide +kernel) rfl
set_option maxRecDepth 20000 in
theorem k_748 : (Cond.instanceMethod ({ cls := "BeamSetter$Group", name := "tellSetting", desc := "(III)I" } : MethodName)) ∈ TW := tw_in 748 (by decide +kernel) rfl
set_option maxRecDepth 20000 in
theorem k_749 : (Cond.selects "BeamSetter$Group" ({ cls := "BeamSetter$Group", name := "tellSetting", desc := "(III)I" } : MethodName) ({ cls := "BeamSetter$Group", name := "tellSetting", desc := "(III)I" } : MethodName)) ∈ TW := tw_in 749 (by decide +kernel) rfl
set_option maxRecDepth 20000 in
theorem k_750 : (Cond.code ({ cls := "BeamSetter$Group", name := "tellSetting", desc := "(III)I" } : MethodName) prog_2_method_30_code (5 : Nat) (some FieldType.int)) ∈ TW := tw_in 750 (by decide +kernel) rfl
set_option maxRecDepth 20000 in
theorem k_751 : (Cond.methodLink "BeamSetterLaw" (178 : Nat) ({ cls := "BeamSetter", name := "ifPut", desc := "(III)I" } : MethodName)) ∈ TW := tw_in 751 (by decide +kernel) rfl
set_option maxRecDepth 20000 in
theorem k_752 : (Cond.instanceMethod ({ cls := "BeamSetter", name := "ifPut", desc := "(III)I" } : MethodName)) ∈ TW := tw_in 752 (by decide +kernel) rfl
set_option maxRecDepth 20000 in
theorem k_753 : (Cond.selects "BeamSetter" ({ cls := "BeamSetter", name := "ifPut", desc := "(III)I" } : MethodName) ({ cls := "BeamSetter", name := "ifPut", desc := "(III)I" } : MethodName)) ∈ TW := tw_in 753 (by decide +kernel) rfl
set_option maxRecDepth 20000 in
theorem k_754 : (Cond.code ({ cls := "BeamSetter", name := "ifPut", desc := "(III)I" } : MethodName) prog_1_method_21_code (4 : Nat) (some FieldType.int)) ∈ TW := tw_in 754 (by decide +kernel) rfl
set_option maxRecDepth 20000 in
theorem k_755 : (Cond.methodLink "BeamSetter" (127 : Nat) ({ cls := "BeamSetter", name := "isGrouped", desc := "(I)Z" } : MethodName)) ∈ TW := tw_in 755 (by decide +kernel) rfl
set_option maxRecDepth 20000 in
theorem k_757 : (Cond.instanceMethod ({ cls := "BeamSetter", name := "isGrouped", desc := "(I)Z" } : MethodName)) ∈ TW := tw_in 757 (by decide +kernel) rfl
set_option maxRecDepth 20000 in
theorem k_758 : (Cond.code ({ cls := "BeamSetter", name := "isGrouped", desc := "(I)Z" } : MethodName) prog_1_method_41_code (2 : Nat) (some FieldType.boolean)) ∈ TW := tw_in 758 (by decide +kernel) rfl
set_option maxRecDepth 20000 in
theorem k_759 : (Cond.methodLink "BeamSetter" (303 : Nat) ({ cls := "BeamSetter", name := "tryShifted", desc := "(I)Z" } : MethodName)) ∈ TW := tw_in 759 (by decide +kernel) rfl
set_option maxRecDepth 20000 in
theorem k_761 : (Cond.instanceMethod ({ cls := "BeamSetter", name := "tryShifted", desc := "(I)Z" } : MethodName)) ∈ TW := tw_in 761 (by decide +kernel) rfl
set_option maxRecDepth 20000 in
theorem k_762 : (Cond.code ({ cls := "BeamSetter", name := "tryShifted", desc := "(I)Z" } : MethodName) prog_1_method_48_code (3 : Nat) (some FieldType.boolean)) ∈ TW := tw_in 762 (by decide +kernel) rfl
set_option maxRecDepth 20000 in
theorem k_763 : (Cond.methodLink "BeamSetter" (306 : Nat) ({ cls := "BeamSetter", name := "loadTried", desc := "(I)V" } : MethodName)) ∈ TW := tw_in 763 (by decide +kernel) rfl
set_option maxRecDepth 20000 in
theorem k_765 : (Cond.instanceMethod ({ cls := "BeamSetter", name := "loadTried", desc := "(I)V" } : MethodName)) ∈ TW := tw_in 765 (by decide +kernel) rfl
set_option maxRecDepth 20000 in
theorem k_766 : (Cond.code ({ cls := "BeamSetter", name := "loadTried", desc := "(I)V" } : MethodName) prog_1_method_46_code (2 : Nat) (none : Option FieldType)) ∈ TW := tw_in 766 (by decide +kernel) rfl
set_option maxRecDepth 20000 in
theorem k_767 : (Cond.methodLink "BeamSetterLaw" (171 : Nat) ({ cls := "BeamSetter", name := "alone", desc := "(I)I" } : MethodName)) ∈ TW := tw_in 767 (by decide +kernel) rfl
set_option maxRecDepth 20000 in
theorem k_768 : (Cond.instanceMethod ({ cls := "BeamSetter", name := "alone", desc := "(I)I" } : MethodName)) ∈ TW := tw_in 768 (by decide +kernel) rfl
set_option maxRecDepth 20000 in
theorem k_769 : (Cond.selects "BeamSetter" ({ cls := "BeamSetter", name := "alone", desc := "(I)I" } : MethodName) ({ cls := "BeamSetter", name := "alone", desc := "(I)I" } : MethodName)) ∈ TW := tw_in 769 (by decide +kernel) rfl
set_option maxRecDepth 20000 in
theorem k_770 : (Cond.code ({ cls := "BeamSetter", name := "alone", desc := "(I)I" } : MethodName) prog_1_method_28_code (5 : Nat) (some FieldType.int)) ∈ TW := tw_in 770 (by decide +kernel) rfl
set_option maxRecDepth 20000 in
theorem k_771 : (Cond.methodLink "BeamSetter" (133 : Nat) ({ cls := "BeamSetter$Piece", name := "beamsOf", desc := "(I)I" } : MethodName)) ∈ TW := tw_in 771 (by decide +kernel) rfl
set_option maxRecDepth 20000 in
theorem k_772 : (Cond.methodLink "BeamSetterLaw" (168 : Nat) ({ cls := "BeamSetter", name := "count", desc := "(I)I" } : MethodName)) ∈ TW := tw_in 772 (by decide +kernel) rfl
set_option maxRecDepth 20000 in
theorem k_773 : (Cond.instanceMethod ({ cls := "BeamSetter", name := "count", desc := "(I)I" } : MethodName)) ∈ TW := tw_in 773 (by decide +kernel) rfl
set_option maxRecDepth 20000 in
theorem k_774 : (Cond.selects "BeamSetter" ({ cls := "BeamSetter", name := "count", desc := "(I)I" } : MethodName) ({ cls := "BeamSetter", name := "count", desc := "(I)I" } : MethodName)) ∈ TW := tw_in 774 (by decide +kernel) rfl
set_option maxRecDepth 20000 in
theorem k_775 : (Cond.code ({ cls := "BeamSetter", name := "count", desc := "(I)I" } : MethodName) prog_1_method_38_code (2 : Nat) (some FieldType.int)) ∈ TW := tw_in 775 (by decide +kernel) rfl
set_option maxRecDepth 20000 in
theorem k_776 : (Cond.methodLink "BeamSetter" (364 : Nat) ({ cls := "BeamSetter$Piece", name := "countNotes", desc := "()I" } : MethodName)) ∈ TW := tw_in 776 (by decide +kernel) rfl
set_option maxRecDepth 20000 in
theorem k_777 : (Cond.instanceMethod ({ cls := "BeamSetter$Piece", name := "countNotes", desc := "()I" } : MethodName)) ∈ TW := tw_in 777 (by decide +kernel) rfl
set_option maxRecDepth 20000 in
theorem k_778 : (Cond.selects "BeamSetter$Piece" ({ cls := "BeamSetter$Piece", name := "countNotes", desc := "()I" } : MethodName) ({ cls := "BeamSetter$Piece", name := "countNotes", desc := "()I" } : MethodName)) ∈ TW := tw_in 778 (by decide +kernel) rfl
set_option maxRecDepth 20000 in
theorem k_779 : (Cond.code ({ cls := "BeamSetter$Piece", name := "countNotes", desc := "()I" } : MethodName) prog_4_method_28_code (3 : Nat) (some FieldType.int)) ∈ TW := tw_in 779 (by decide +kernel) rfl
set_option maxRecDepth 20000 in
theorem k_780 : (Cond.methodLink "BeamSetter" (367 : Nat) ({ cls := "BeamSetter$Piece", name := "countMeasures", desc := "()I" } : MethodName)) ∈ TW := tw_in 780 (by decide +kernel) rfl
set_option maxRecDepth 20000 in
theorem k_781 : (Cond.instanceMethod ({ cls := "BeamSetter$Piece", name := "countMeasures", desc := "()I" } : MethodName)) ∈ TW := tw_in 781 (by decide +kernel) rfl
set_option maxRecDepth 20000 in
theorem k_782 : (Cond.selects "BeamSetter$Piece" ({ cls := "BeamSetter$Piece", name := "countMeasures", desc := "()I" } : MethodName) ({ cls := "BeamSetter$Piece", name := "countMeasures", desc := "()I" } : MethodName)) ∈ TW := tw_in 782 (by decide +kernel) rfl
set_option maxRecDepth 20000 in
theorem k_783 : (Cond.code ({ cls := "BeamSetter$Piece", name := "countMeasures", desc := "()I" } : MethodName) prog_4_method_29_code (1 : Nat) (some FieldType.int)) ∈ TW := tw_in 783 (by decide +kernel) rfl
set_option maxRecDepth 20000 in
theorem k_784 : (Cond.methodLink "BeamSetterLaw" (37 : Nat) ({ cls := "BeamSetterLaw", name := "cell", desc := "([II)I" } : MethodName)) ∈ TW := tw_in 784 (by decide +kernel) rfl
set_option maxRecDepth 20000 in
theorem k_785 : (Cond.static ({ cls := "BeamSetterLaw", name := "cell", desc := "([II)I" } : MethodName)) ∈ TW := tw_in 785 (by decide +kernel) rfl
set_option maxRecDepth 20000 in
theorem k_786 : (Cond.code ({ cls := "BeamSetterLaw", name := "cell", desc := "([II)I" } : MethodName) method_2_code (2 : Nat) (some FieldType.int)) ∈ TW := tw_in 786 (by decide +kernel) rfl
set_option maxRecDepth 20000 in
theorem k_787 : (Cond.methodLink "BeamSetterLaw" (43 : Nat) ({ cls := "BeamSetterLaw", name := "in", desc := "(II)I" } : MethodName)) ∈ TW := tw_in 787 (by decide +kernel) rfl
set_option maxRecDepth 20000 in
theorem k_788 : (Cond.static ({ cls := "BeamSetterLaw", name := "in", desc := "(II)I" } : MethodName)) ∈ TW := tw_in 788 (by decide +kernel) rfl
set_option maxRecDepth 20000 in
theorem k_789 : (Cond.code ({ cls := "BeamSetterLaw", name := "in", desc := "(II)I" } : MethodName) method_3_code (2 : Nat) (some FieldType.int)) ∈ TW := tw_in 789 (by decide +kernel) rfl
set_option maxRecDepth 20000 in
theorem k_790 : (Cond.constant "BeamSetterLaw" (7 : Nat) (2147483647 : Int32)) ∈ TW := tw_in 790 (by decide +kernel) rfl
set_option maxRecDepth 20000 in
theorem k_791 : (Cond.methodLink "BeamSetterLaw" (162 : Nat) ({ cls := "BeamSetterLaw", name := "put", desc := "(LBeamSetter;Ljava/lang/String;)V" } : MethodName)) ∈ TW := tw_in 791 (by decide +kernel) rfl
set_option maxRecDepth 20000 in
theorem k_792 : (Cond.static ({ cls := "BeamSetterLaw", name := "put", desc := "(LBeamSetter;Ljava/lang/String;)V" } : MethodName)) ∈ TW := tw_in 792 (by decide +kernel) rfl
set_option maxRecDepth 20000 in
theorem k_793 : (Cond.code ({ cls := "BeamSetterLaw", name := "put", desc := "(LBeamSetter;Ljava/lang/String;)V" } : MethodName) method_4_code (6 : Nat) (none : Option FieldType)) ∈ TW := tw_in 793 (by decide +kernel) rfl
set_option maxRecDepth 20000 in
theorem k_979 : (Cond.methodLink "BeamSetterLaw" (31 : Nat) ({ cls := "BeamSetter", name := "feed", desc := "(IIIII)I" } : MethodName)) ∈ TW := tw_in 979 (by decide +kernel) rfl
set_option maxRecDepth 20000 in
theorem k_980 : (Cond.instanceMethod ({ cls := "BeamSetter", name := "feed", desc := "(IIIII)I" } : MethodName)) ∈ TW := tw_in 980 (by decide +kernel) rfl
set_option maxRecDepth 20000 in
theorem k_981 : (Cond.selects "BeamSetter" ({ cls := "BeamSetter", name := "feed", desc := "(IIIII)I" } : MethodName) ({ cls := "BeamSetter", name := "feed", desc := "(IIIII)I" } : MethodName)) ∈ TW := tw_in 981 (by decide +kernel) rfl
set_option maxRecDepth 20000 in
theorem k_982 : (Cond.code ({ cls := "BeamSetter", name := "feed", desc := "(IIIII)I" } : MethodName) prog_1_method_2_code (6 : Nat) (some FieldType.int)) ∈ TW := tw_in 982 (by decide +kernel) rfl
set_option maxRecDepth 20000 in
theorem k_983 : (Cond.methodLink "BeamSetter" (70 : Nat) ({ cls := "BeamSetter$Tape", name := "hasRoomFor", desc := "(I)Z" } : MethodName)) ∈ TW := tw_in 983 (by decide +kernel) rfl
set_option maxRecDepth 20000 in
theorem k_984 : (Cond.instanceMethod ({ cls := "BeamSetter$Tape", name := "hasRoomFor", desc := "(I)Z" } : MethodName)) ∈ TW := tw_in 984 (by decide +kernel) rfl
set_option maxRecDepth 20000 in
theorem k_985 : (Cond.selects "BeamSetter$Tape" ({ cls := "BeamSetter$Tape", name := "hasRoomFor", desc := "(I)Z" } : MethodName) ({ cls := "BeamSetter$Tape", name := "hasRoomFor", desc := "(I)Z" } : MethodName)) ∈ TW := tw_in 985 (by decide +kernel) rfl
set_option maxRecDepth 20000 in
theorem k_986 : (Cond.code ({ cls := "BeamSetter$Tape", name := "hasRoomFor", desc := "(I)Z" } : MethodName) prog_7_method_2_code (2 : Nat) (some FieldType.boolean)) ∈ TW := tw_in 986 (by decide +kernel) rfl
set_option maxRecDepth 20000 in
theorem k_987 : (Cond.methodLink "BeamSetter" (74 : Nat) ({ cls := "BeamSetter$Tape", name := "append", desc := "(I)V" } : MethodName)) ∈ TW := tw_in 987 (by decide +kernel) rfl
set_option maxRecDepth 20000 in
theorem k_988 : (Cond.instanceMethod ({ cls := "BeamSetter$Tape", name := "append", desc := "(I)V" } : MethodName)) ∈ TW := tw_in 988 (by decide +kernel) rfl
set_option maxRecDepth 20000 in
theorem k_989 : (Cond.selects "BeamSetter$Tape" ({ cls := "BeamSetter$Tape", name := "append", desc := "(I)V" } : MethodName) ({ cls := "BeamSetter$Tape", name := "append", desc := "(I)V" } : MethodName)) ∈ TW := tw_in 989 (by decide +kernel) rfl
set_option maxRecDepth 20000 in
theorem k_990 : (Cond.code ({ cls := "BeamSetter$Tape", name := "append", desc := "(I)V" } : MethodName) prog_7_method_3_code (3 : Nat) (none : Option FieldType)) ∈ TW := tw_in 990 (by decide +kernel) rfl
set_option maxRecDepth 20000 in
theorem k_991 : (Cond.methodLink "BeamSetterLaw" (78 : Nat) ({ cls := "BeamSetterLaw", name := "many", desc := "([I)I" } : MethodName)) ∈ TW := tw_in 991 (by decide +kernel) rfl
set_option maxRecDepth 20000 in
theorem k_992 : (Cond.static ({ cls := "BeamSetterLaw", name := "many", desc := "([I)I" } : MethodName)) ∈ TW := tw_in 992 (by decide +kernel) rfl
set_option maxRecDepth 20000 in
theorem k_993 : (Cond.code ({ cls := "BeamSetterLaw", name := "many", desc := "([I)I" } : MethodName) method_7_code (3 : Nat) (some FieldType.int)) ∈ TW := tw_in 993 (by decide +kernel) rfl
set_option maxRecDepth 20000 in
theorem k_994 : (Cond.methodLink "BeamSetterLaw" (47 : Nat) ({ cls := "BeamSetterLaw", name := "kind", desc := "([II)I" } : MethodName)) ∈ TW := tw_in 994 (by decide +kernel) rfl
set_option maxRecDepth 20000 in
theorem k_995 : (Cond.static ({ cls := "BeamSetterLaw", name := "kind", desc := "([II)I" } : MethodName)) ∈ TW := tw_in 995 (by decide +kernel) rfl
set_option maxRecDepth 20000 in
theorem k_996 : (Cond.code ({ cls := "BeamSetterLaw", name := "kind", desc := "([II)I" } : MethodName) method_5_code (2 : Nat) (some FieldType.int)) ∈ TW := tw_in 996 (by decide +kernel) rfl
set_option maxRecDepth 20000 in
theorem k_997 : (Cond.methodLink "BeamSetterLaw" (83 : Nat) ({ cls := "BeamSetterLaw", name := "place", desc := "([II)I" } : MethodName)) ∈ TW := tw_in 997 (by decide +kernel) rfl
set_option maxRecDepth 20000 in
theorem k_998 : (Cond.static ({ cls := "BeamSetterLaw", name := "place", desc := "([II)I" } : MethodName)) ∈ TW := tw_in 998 (by decide +kernel) rfl
set_option maxRecDepth 20000 in
theorem k_999 : (Cond.code ({ cls := "BeamSetterLaw", name := "place", desc := "([II)I" } : MethodName) method_8_code (2 : Nat) (some FieldType.int)) ∈ TW := tw_in 999 (by decide +kernel) rfl
set_option maxRecDepth 20000 in
theorem k_1000 : (Cond.methodLink "BeamSetterLaw" (50 : Nat) ({ cls := "BeamSetterLaw", name := "position", desc := "([II)I" } : MethodName)) ∈ TW := tw_in 1000 (by decide +kernel) rfl
set_option maxRecDepth 20000 in
theorem k_1001 : (Cond.static ({ cls := "BeamSetterLaw", name := "position", desc := "([II)I" } : MethodName)) ∈ TW := tw_in 1001 (by decide +kernel) rfl
set_option maxRecDepth 20000 in
theorem k_1002 : (Cond.code ({ cls := "BeamSetterLaw", name := "position", desc := "([II)I" } : MethodName) method_6_code (2 : Nat) (some FieldType.int)) ∈ TW := tw_in 1002 (by decide +kernel) rfl
set_option maxRecDepth 20000 in
theorem k_1003 : (Cond.methodLink "BeamSetterLaw" (53 : Nat) ({ cls := "java/lang/Math", name := "min", desc := "(II)I" } : MethodName)) ∈ TW := tw_in 1003 (by decide +kernel) rfl
set_option maxRecDepth 20000 in
theorem k_1004 : (Cond.methodLink "BeamSetterLaw" (158 : Nat) ({ cls := "BeamSetterLaw", name := "text", desc := "([I)Ljava/lang/String;" } : MethodName)) ∈ TW := tw_in 1004 (by decide +kernel) rfl
set_option maxRecDepth 20000 in
theorem k_1005 : (Cond.static ({ cls := "BeamSetterLaw", name := "text", desc := "([I)Ljava/lang/String;" } : MethodName)) ∈ TW := tw_in 1005 (by decide +kernel) rfl
set_option maxRecDepth 20000 in
theorem k_1006 : (Cond.code ({ cls := "BeamSetterLaw", name := "text", desc := "([I)Ljava/lang/String;" } : MethodName) method_11_code (3 : Nat) (some (FieldType.object "java/lang/String"))) ∈ TW := tw_in 1006 (by decide +kernel) rfl
set_option maxRecDepth 20000 in
theorem k_1008 : (Cond.methodLink "BeamSetterLaw" (60 : Nat) ({ cls := "BeamSetterLaw", name := "knee", desc := "([I)I" } : MethodName)) ∈ TW := tw_in 1008 (by decide +kernel) rfl
set_option maxRecDepth 20000 in
theorem k_1009 : (Cond.static ({ cls := "BeamSetterLaw", name := "knee", desc := "([I)I" } : MethodName)) ∈ TW := tw_in 1009 (by decide +kernel) rfl
set_option maxRecDepth 20000 in
theorem k_1010 : (Cond.code ({ cls := "BeamSetterLaw", name := "knee", desc := "([I)I" } : MethodName) method_9_code (1 : Nat) (some FieldType.int)) ∈ TW := tw_in 1010 (by decide +kernel) rfl
set_option maxRecDepth 20000 in
theorem k_1037 : (Cond.methodLink "BeamSetterLaw" (69 : Nat) ({ cls := "BeamSetterLaw", name := "wide", desc := "([II)I" } : MethodName)) ∈ TW := tw_in 1037 (by decide +kernel) rfl
set_option maxRecDepth 20000 in
theorem k_1038 : (Cond.static ({ cls := "BeamSetterLaw", name := "wide", desc := "([II)I" } : MethodName)) ∈ TW := tw_in 1038 (by decide +kernel) rfl
set_option maxRecDepth 20000 in
theorem k_1039 : (Cond.code ({ cls := "BeamSetterLaw", name := "wide", desc := "([II)I" } : MethodName) method_10_code (2 : Nat) (some FieldType.int)) ∈ TW := tw_in 1039 (by decide +kernel) rfl
set_option maxRecDepth 20000 in
theorem k_1046 : (Cond.methodLink "BeamSetterLaw" (90 : Nat) ({ cls := "java/lang/Math", name := "abs", desc := "(I)I" } : MethodName)) ∈ TW := tw_in 1046 (by decide +kernel) rfl
set_option maxRecDepth 20000 in
theorem k_1047 : (Cond.methodLink "BeamSetterLaw" (174 : Nat) ({ cls := "BeamSetterLaw", name := "isBest", desc := "(LBeamSetter;[I[I)Z" } : MethodName)) ∈ TW := tw_in 1047 (by decide +kernel) rfl
set_option maxRecDepth 20000 in
theorem k_1048 : (Cond.static ({ cls := "BeamSetterLaw", name := "isBest", desc := "(LBeamSetter;[I[I)Z" } : MethodName)) ∈ TW := tw_in 1048 (by decide +kernel) rfl
set_option maxRecDepth 20000 in
theorem k_1049 : (Cond.code ({ cls := "BeamSetterLaw", name := "isBest", desc := "(LBeamSetter;[I[I)Z" } : MethodName) method_16_code (18 : Nat) (some FieldType.boolean)) ∈ TW := List.mem_filter.mpr ⟨List.mem_append_left _ (List.mem_append_right _ (List.mem_append_right _ (List.mem_append_right _ (List.mem_append_right _ (List.mem_append_right _ (List.mem_append_left _ (List.mem_of_getElem? (i := 41) rfl))))))), rfl⟩
set_option maxRecDepth 20000 in
theorem k_1050 : (Cond.methodLink "BeamSetterLaw" (117 : Nat) ({ cls := "BeamSetterLaw", name := "ways", desc := "([I[I)[I" } : MethodName)) ∈ TW := tw_in 1050 (by decide +kernel) rfl
set_option maxRecDepth 20000 in
theorem k_1051 : (Cond.static ({ cls := "BeamSetterLaw", name := "ways", desc := "([I[I)[I" } : MethodName)) ∈ TW := tw_in 1051 (by decide +kernel) rfl
set_option maxRecDepth 20000 in
theorem k_1052 : (Cond.code ({ cls := "BeamSetterLaw", name := "ways", desc := "([I[I)[I" } : MethodName) method_12_code (14 : Nat) (some (FieldType.array FieldType.int))) ∈ TW := List.mem_filter.mpr ⟨List.mem_append_left _ (List.mem_append_right _ (List.mem_append_right _ (List.mem_append_right _ (List.mem_append_right _ (List.mem_append_right _ (List.mem_append_left _ (List.mem_of_getElem? (i := 44) rfl))))))), rfl⟩
set_option maxRecDepth 20000 in
theorem k_1053 : (Cond.methodLink "BeamSetterLaw" (94 : Nat) ({ cls := "java/lang/Math", name := "max", desc := "(II)I" } : MethodName)) ∈ TW := tw_in 1053 (by decide +kernel) rfl
set_option maxRecDepth 20000 in
theorem k_1054 : (Cond.methodLink "BeamSetterLaw" (121 : Nat) ({ cls := "BeamSetterLaw", name := "judged", desc := "([I[I[I[III)[J" } : MethodName)) ∈ TW := tw_in 1054 (by decide +kernel) rfl
