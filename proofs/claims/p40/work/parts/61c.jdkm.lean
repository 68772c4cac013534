/-! ===== The JDK's own methods of builders and strings: names, codes, rooms, fields ===== -/
set_option maxRecDepth 20000 in
theorem kq_56 : (Cond.initialized "java/lang/Math") ∈ TW := tw_in 56 (by decide +kernel) rfl
set_option maxRecDepth 20000 in
theorem kq_58 : (Cond.initialized "java/lang/AbstractStringBuilder") ∈ TW := tw_in 58 (by decide +kernel) rfl
set_option maxRecDepth 20000 in
theorem kq_59 : (Cond.initialized "java/lang/StringBuilder") ∈ TW := tw_in 59 (by decide +kernel) rfl
set_option maxRecDepth 20000 in
theorem kq_60 : (Cond.initialized "java/lang/String") ∈ TW := tw_in 60 (by decide +kernel) rfl
set_option maxRecDepth 20000 in
theorem kq_62 : (Cond.initialized "jdk/internal/util/ArraysSupport") ∈ TW := tw_in 62 (by decide +kernel) rfl
set_option maxRecDepth 20000 in
theorem kq_63 : (Cond.initialized "java/util/Arrays") ∈ TW := tw_in 63 (by decide +kernel) rfl
set_option maxRecDepth 20000 in
theorem kq_64 : (Cond.initialized "java/lang/System") ∈ TW := tw_in 64 (by decide +kernel) rfl
set_option maxRecDepth 20000 in
theorem kq_68 : (Cond.initialized "java/lang/Integer") ∈ TW := tw_in 68 (by decide +kernel) rfl
set_option maxRecDepth 20000 in
theorem kq_80 : (Cond.instanceMethod ({ cls := "java/lang/Object", name := "<init>", desc := "()V" } : MethodName)) ∈ TW := tw_in 80 (by decide +kernel) rfl
set_option maxRecDepth 20000 in
theorem kq_81 : (Cond.code ({ cls := "java/lang/Object", name := "<init>", desc := "()V" } : MethodName) object_method_1_code (1 : Nat) (none : Option FieldType)) ∈ TW := tw_in 81 (by decide +kernel) rfl
set_option maxRecDepth 20000 in
theorem kq_233 : (Cond.static ({ cls := "java/lang/Math", name := "min", desc := "(II)I" } : MethodName)) ∈ TW := tw_in 233 (by decide +kernel) rfl
set_option maxRecDepth 20000 in
theorem kq_234 : (Cond.code ({ cls := "java/lang/Math", name := "min", desc := "(II)I" } : MethodName) prog_20_method_69_code (2 : Nat) (some FieldType.int)) ∈ TW := tw_in 234 (by decide +kernel) rfl
set_option maxRecDepth 20000 in
theorem kq_413 : (Cond.instanceMethod ({ cls := "java/lang/String", name := "length", desc := "()I" } : MethodName)) ∈ TW := tw_in 413 (by decide +kernel) rfl
set_option maxRecDepth 20000 in
theorem kq_414 : (Cond.selects "java/lang/String" ({ cls := "java/lang/String", name := "length", desc := "()I" } : MethodName) ({ cls := "java/lang/String", name := "length", desc := "()I" } : MethodName)) ∈ TW := tw_in 414 (by decide +kernel) rfl
set_option maxRecDepth 20000 in
theorem kq_416 : (Cond.methodLink "java/lang/String" (335 : Nat) ({ cls := "java/lang/String", name := "coder", desc := "()B" } : MethodName)) ∈ TW := tw_in 416 (by decide +kernel) rfl
set_option maxRecDepth 20000 in
theorem kq_417 : (Cond.instanceMethod ({ cls := "java/lang/String", name := "coder", desc := "()B" } : MethodName)) ∈ TW := tw_in 417 (by decide +kernel) rfl
set_option maxRecDepth 20000 in
theorem kq_418 : (Cond.selects "java/lang/String" ({ cls := "java/lang/String", name := "coder", desc := "()B" } : MethodName) ({ cls := "java/lang/String", name := "coder", desc := "()B" } : MethodName)) ∈ TW := tw_in 418 (by decide +kernel) rfl
set_option maxRecDepth 20000 in
theorem kq_542 : (Cond.static ({ cls := "java/lang/Math", name := "max", desc := "(II)I" } : MethodName)) ∈ TW := tw_in 542 (by decide +kernel) rfl
set_option maxRecDepth 20000 in
theorem kq_543 : (Cond.code ({ cls := "java/lang/Math", name := "max", desc := "(II)I" } : MethodName) prog_20_method_65_code (2 : Nat) (some FieldType.int)) ∈ TW := tw_in 543 (by decide +kernel) rfl
set_option maxRecDepth 20000 in
theorem kq_584 : (Cond.arrayClass FieldType.byte) ∈ TW := tw_in 584 (by decide +kernel) rfl
set_option maxRecDepth 20000 in
theorem kq_610 : (Cond.static ({ cls := "java/lang/System", name := "arraycopy", desc := "(Ljava/lang/Object;ILjava/lang/Object;II)V" } : MethodName)) ∈ TW := tw_in 610 (by decide +kernel) rfl
set_option maxRecDepth 20000 in
theorem kq_611 : (Cond.native ({ cls := "java/lang/System", name := "arraycopy", desc := "(Ljava/lang/Object;ILjava/lang/Object;II)V" } : MethodName)) ∈ TW := tw_in 611 (by decide +kernel) rfl
set_option maxRecDepth 20000 in
theorem kq_799 : (Cond.code ({ cls := "java/lang/StringBuilder", name := "<init>", desc := "()V" } : MethodName) prog_24_method_1_code (1 : Nat) (none : Option FieldType)) ∈ TW := tw_in 799 (by decide +kernel) rfl
set_option maxRecDepth 20000 in
theorem kq_800 : (Cond.methodLink "java/lang/StringBuilder" (1 : Nat) ({ cls := "java/lang/AbstractStringBuilder", name := "<init>", desc := "(I)V" } : MethodName)) ∈ TW := tw_in 800 (by decide +kernel) rfl
set_option maxRecDepth 20000 in
theorem kq_801 : (Cond.instanceMethod ({ cls := "java/lang/AbstractStringBuilder", name := "<init>", desc := "(I)V" } : MethodName)) ∈ TW := tw_in 801 (by decide +kernel) rfl
set_option maxRecDepth 20000 in
theorem kq_802 : (Cond.code ({ cls := "java/lang/AbstractStringBuilder", name := "<init>", desc := "(I)V" } : MethodName) prog_12_method_2_code (2 : Nat) (none : Option FieldType)) ∈ TW := tw_in 802 (by decide +kernel) rfl
set_option maxRecDepth 20000 in
theorem kq_803 : (Cond.methodLink "java/lang/AbstractStringBuilder" (3 : Nat) ({ cls := "java/lang/Object", name := "<init>", desc := "()V" } : MethodName)) ∈ TW := tw_in 803 (by decide +kernel) rfl
set_option maxRecDepth 20000 in
theorem kq_804 : (Cond.fieldLink "java/lang/AbstractStringBuilder" (18 : Nat) "java/lang/String" "COMPACT_STRINGS" "Z") ∈ TW := tw_in 804 (by decide +kernel) rfl
set_option maxRecDepth 20000 in
theorem kq_812 : (Cond.fieldLink "java/lang/AbstractStringBuilder" (15 : Nat) "java/lang/AbstractStringBuilder" "value" "[B") ∈ TW := tw_in 812 (by decide +kernel) rfl
set_option maxRecDepth 20000 in
theorem kq_813 : (Cond.fieldLink "java/lang/AbstractStringBuilder" (22 : Nat) "java/lang/AbstractStringBuilder" "coder" "B") ∈ TW := tw_in 813 (by decide +kernel) rfl
set_option maxRecDepth 20000 in
theorem kq_815 : (Cond.fieldLink "java/lang/AbstractStringBuilder" (79 : Nat) "java/lang/AbstractStringBuilder" "count" "I") ∈ TW := tw_in 815 (by decide +kernel) rfl
set_option maxRecDepth 20000 in
theorem kq_824 : (Cond.superclass "java/lang/StringBuilder" "java/lang/AbstractStringBuilder") ∈ TW := tw_in 824 (by decide +kernel) rfl
set_option maxRecDepth 20000 in
theorem kq_828 : (Cond.code ({ cls := "java/lang/StringBuilder", name := "append", desc := "(Ljava/lang/String;)Ljava/lang/StringBuilder;" } : MethodName) prog_24_method_7_code (2 : Nat) (some (FieldType.object "java/lang/StringBuilder"))) ∈ TW := tw_in 828 (by decide +kernel) rfl
set_option maxRecDepth 20000 in
theorem kq_829 : (Cond.methodLink "java/lang/StringBuilder" (29 : Nat) ({ cls := "java/lang/AbstractStringBuilder", name := "append", desc := "(Ljava/lang/String;)Ljava/lang/AbstractStringBuilder;" } : MethodName)) ∈ TW := tw_in 829 (by decide +kernel) rfl
set_option maxRecDepth 20000 in
theorem kq_830 : (Cond.instanceMethod ({ cls := "java/lang/AbstractStringBuilder", name := "append", desc := "(Ljava/lang/String;)Ljava/lang/AbstractStringBuilder;" } : MethodName)) ∈ TW := tw_in 830 (by decide +kernel) rfl
set_option maxRecDepth 20000 in
theorem kq_831 : (Cond.code ({ cls := "java/lang/AbstractStringBuilder", name := "append", desc := "(Ljava/lang/String;)Ljava/lang/AbstractStringBuilder;" } : MethodName) prog_12_method_22_code (3 : Nat) (some (FieldType.object "java/lang/AbstractStringBuilder"))) ∈ TW := tw_in 831 (by decide +kernel) rfl
set_option maxRecDepth 20000 in
theorem kq_836 : (Cond.methodLink "java/lang/AbstractStringBuilder" (100 : Nat) ({ cls := "java/lang/AbstractStringBuilder", name := "ensureCapacityInternal", desc := "(I)V" } : MethodName)) ∈ TW := tw_in 836 (by decide +kernel) rfl
set_option maxRecDepth 20000 in
theorem kq_838 : (Cond.instanceMethod ({ cls := "java/lang/AbstractStringBuilder", name := "ensureCapacityInternal", desc := "(I)V" } : MethodName)) ∈ TW := tw_in 838 (by decide +kernel) rfl
set_option maxRecDepth 20000 in
theorem kq_839 : (Cond.code ({ cls := "java/lang/AbstractStringBuilder", name := "ensureCapacityInternal", desc := "(I)V" } : MethodName) prog_12_method_9_code (3 : Nat) (none : Option FieldType)) ∈ TW := tw_in 839 (by decide +kernel) rfl
set_option maxRecDepth 20000 in
theorem kq_840 : (Cond.methodLink "java/lang/AbstractStringBuilder" (104 : Nat) ({ cls := "java/lang/AbstractStringBuilder", name := "newCapacity", desc := "(I)I" } : MethodName)) ∈ TW := tw_in 840 (by decide +kernel) rfl
set_option maxRecDepth 20000 in
theorem kq_842 : (Cond.instanceMethod ({ cls := "java/lang/AbstractStringBuilder", name := "newCapacity", desc := "(I)I" } : MethodName)) ∈ TW := tw_in 842 (by decide +kernel) rfl
set_option maxRecDepth 20000 in
theorem kq_843 : (Cond.code ({ cls := "java/lang/AbstractStringBuilder", name := "newCapacity", desc := "(I)I" } : MethodName) prog_12_method_10_code (6 : Nat) (some FieldType.int)) ∈ TW := tw_in 843 (by decide +kernel) rfl
set_option maxRecDepth 20000 in
theorem kq_844 : (Cond.methodLink "java/lang/AbstractStringBuilder" (114 : Nat) ({ cls := "jdk/internal/util/ArraysSupport", name := "newLength", desc := "(III)I" } : MethodName)) ∈ TW := tw_in 844 (by decide +kernel) rfl
set_option maxRecDepth 20000 in
theorem kq_845 : (Cond.static ({ cls := "jdk/internal/util/ArraysSupport", name := "newLength", desc := "(III)I" } : MethodName)) ∈ TW := tw_in 845 (by decide +kernel) rfl
set_option maxRecDepth 20000 in
theorem kq_846 : (Cond.code ({ cls := "jdk/internal/util/ArraysSupport", name := "newLength", desc := "(III)I" } : MethodName) prog_33_method_27_code (4 : Nat) (some FieldType.int)) ∈ TW := tw_in 846 (by decide +kernel) rfl
set_option maxRecDepth 20000 in
theorem kq_847 : (Cond.methodLink "jdk/internal/util/ArraysSupport" (194 : Nat) ({ cls := "java/lang/Math", name := "max", desc := "(II)I" } : MethodName)) ∈ TW := tw_in 847 (by decide +kernel) rfl
set_option maxRecDepth 20000 in
theorem kq_848 : (Cond.constant "jdk/internal/util/ArraysSupport" (200 : Nat) (2147483639 : Int32)) ∈ TW := tw_in 848 (by decide +kernel) rfl
set_option maxRecDepth 20000 in
theorem kq_852 : (Cond.constant "java/lang/AbstractStringBuilder" (39 : Nat) (2147483647 : Int32)) ∈ TW := tw_in 852 (by decide +kernel) rfl
set_option maxRecDepth 20000 in
theorem kq_853 : (Cond.methodLink "java/lang/AbstractStringBuilder" (108 : Nat) ({ cls := "java/util/Arrays", name := "copyOf", desc := "([BI)[B" } : MethodName)) ∈ TW := tw_in 853 (by decide +kernel) rfl
set_option maxRecDepth 20000 in
theorem kq_854 : (Cond.static ({ cls := "java/util/Arrays", name := "copyOf", desc := "([BI)[B" } : MethodName)) ∈ TW := tw_in 854 (by decide +kernel) rfl
set_option maxRecDepth 20000 in
theorem kq_855 : (Cond.code ({ cls := "java/util/Arrays", name := "copyOf", desc := "([BI)[B" } : MethodName) prog_31_method_121_code (3 : Nat) (some (FieldType.array FieldType.byte))) ∈ TW := tw_in 855 (by decide +kernel) rfl
set_option maxRecDepth 20000 in
theorem kq_863 : (Cond.methodLink "java/util/Arrays" (304 : Nat) ({ cls := "java/lang/Math", name := "min", desc := "(II)I" } : MethodName)) ∈ TW := tw_in 863 (by decide +kernel) rfl
set_option maxRecDepth 20000 in
theorem kq_864 : (Cond.methodLink "java/util/Arrays" (150 : Nat) ({ cls := "java/lang/System", name := "arraycopy", desc := "(Ljava/lang/Object;ILjava/lang/Object;II)V" } : MethodName)) ∈ TW := tw_in 864 (by decide +kernel) rfl
set_option maxRecDepth 20000 in
theorem kq_865 : (Cond.methodLink "java/lang/AbstractStringBuilder" (83 : Nat) ({ cls := "java/lang/AbstractStringBuilder", name := "isLatin1", desc := "()Z" } : MethodName)) ∈ TW := tw_in 865 (by decide +kernel) rfl
set_option maxRecDepth 20000 in
theorem kq_866 : (Cond.instanceMethod ({ cls := "java/lang/AbstractStringBuilder", name := "isLatin1", desc := "()Z" } : MethodName)) ∈ TW := tw_in 866 (by decide +kernel) rfl
set_option maxRecDepth 20000 in
theorem kq_868 : (Cond.selects "java/lang/StringBuilder" ({ cls := "java/lang/AbstractStringBuilder", name := "isLatin1", desc := "()Z" } : MethodName) ({ cls := "java/lang/AbstractStringBuilder", name := "isLatin1", desc := "()Z" } : MethodName)) ∈ TW := tw_in 868 (by decide +kernel) rfl
set_option maxRecDepth 20000 in
theorem kq_869 : (Cond.code ({ cls := "java/lang/AbstractStringBuilder", name := "isLatin1", desc := "()Z" } : MethodName) prog_12_method_68_code (1 : Nat) (some FieldType.boolean)) ∈ TW := tw_in 869 (by decide +kernel) rfl
set_option maxRecDepth 20000 in
theorem kq_885 : (Cond.methodLink "java/lang/AbstractStringBuilder" (32 : Nat) ({ cls := "java/lang/String", name := "length", desc := "()I" } : MethodName)) ∈ TW := tw_in 885 (by decide +kernel) rfl
set_option maxRecDepth 20000 in
theorem kq_886 : (Cond.methodLink "java/lang/AbstractStringBuilder" (208 : Nat) ({ cls := "java/lang/AbstractStringBuilder", name := "putStringAt", desc := "(ILjava/lang/String;)V" } : MethodName)) ∈ TW := tw_in 886 (by decide +kernel) rfl
set_option maxRecDepth 20000 in
theorem kq_888 : (Cond.instanceMethod ({ cls := "java/lang/AbstractStringBuilder", name := "putStringAt", desc := "(ILjava/lang/String;)V" } : MethodName)) ∈ TW := tw_in 888 (by decide +kernel) rfl
set_option maxRecDepth 20000 in
theorem kq_889 : (Cond.code ({ cls := "java/lang/AbstractStringBuilder", name := "putStringAt", desc := "(ILjava/lang/String;)V" } : MethodName) prog_12_method_73_code (3 : Nat) (none : Option FieldType)) ∈ TW := tw_in 889 (by decide +kernel) rfl
set_option maxRecDepth 20000 in
theorem kq_890 : (Cond.methodLink "java/lang/AbstractStringBuilder" (397 : Nat) ({ cls := "java/lang/AbstractStringBuilder", name := "inflateIfNeededFor", desc := "(Ljava/lang/String;)V" } : MethodName)) ∈ TW := tw_in 890 (by decide +kernel) rfl
set_option maxRecDepth 20000 in
theorem kq_892 : (Cond.instanceMethod ({ cls := "java/lang/AbstractStringBuilder", name := "inflateIfNeededFor", desc := "(Ljava/lang/String;)V" } : MethodName)) ∈ TW := tw_in 892 (by decide +kernel) rfl
set_option maxRecDepth 20000 in
theorem kq_893 : (Cond.code ({ cls := "java/lang/AbstractStringBuilder", name := "inflateIfNeededFor", desc := "(Ljava/lang/String;)V" } : MethodName) prog_12_method_71_code (2 : Nat) (none : Option FieldType)) ∈ TW := tw_in 893 (by decide +kernel) rfl
set_option maxRecDepth 20000 in
theorem kq_894 : (Cond.methodLink "java/lang/AbstractStringBuilder" (40 : Nat) ({ cls := "java/lang/String", name := "coder", desc := "()B" } : MethodName)) ∈ TW := tw_in 894 (by decide +kernel) rfl
set_option maxRecDepth 20000 in
theorem kq_914 : (Cond.methodLink "java/lang/AbstractStringBuilder" (399 : Nat) ({ cls := "java/lang/String", name := "getBytes", desc := "([BIB)V" } : MethodName)) ∈ TW := tw_in 914 (by decide +kernel) rfl
set_option maxRecDepth 20000 in
theorem kq_915 : (Cond.instanceMethod ({ cls := "java/lang/String", name := "getBytes", desc := "([BIB)V" } : MethodName)) ∈ TW := tw_in 915 (by decide +kernel) rfl
set_option maxRecDepth 20000 in
theorem kq_916 : (Cond.selects "java/lang/String" ({ cls := "java/lang/String", name := "getBytes", desc := "([BIB)V" } : MethodName) ({ cls := "java/lang/String", name := "getBytes", desc := "([BIB)V" } : MethodName)) ∈ TW := tw_in 916 (by decide +kernel) rfl
set_option maxRecDepth 20000 in
theorem kq_917 : (Cond.code ({ cls := "java/lang/String", name := "getBytes", desc := "([BIB)V" } : MethodName) prog_23_method_147_code (4 : Nat) (none : Option FieldType)) ∈ TW := tw_in 917 (by decide +kernel) rfl
set_option maxRecDepth 20000 in
theorem kq_918 : (Cond.methodLink "java/lang/String" (212 : Nat) ({ cls := "java/lang/System", name := "arraycopy", desc := "(Ljava/lang/Object;ILjava/lang/Object;II)V" } : MethodName)) ∈ TW := tw_in 918 (by decide +kernel) rfl
set_option maxRecDepth 20000 in
theorem kq_924 : (Cond.code ({ cls := "java/lang/StringBuilder", name := "toString", desc := "()Ljava/lang/String;" } : MethodName) prog_24_method_42_code (1 : Nat) (some (FieldType.object "java/lang/String"))) ∈ TW := tw_in 924 (by decide +kernel) rfl
set_option maxRecDepth 20000 in
theorem kq_925 : (Cond.classLink "java/lang/StringBuilder" (18 : Nat) "java/lang/String") ∈ TW := tw_in 925 (by decide +kernel) rfl
set_option maxRecDepth 20000 in
theorem kq_926 : (Cond.instantiable "java/lang/String" (4 : Nat)) ∈ TW := tw_in 926 (by decide +kernel) rfl
set_option maxRecDepth 20000 in
theorem kq_927 : (Cond.methodLink "java/lang/StringBuilder" (137 : Nat) ({ cls := "java/lang/String", name := "<init>", desc := "(Ljava/lang/StringBuilder;)V" } : MethodName)) ∈ TW := tw_in 927 (by decide +kernel) rfl
set_option maxRecDepth 20000 in
theorem kq_928 : (Cond.instanceMethod ({ cls := "java/lang/String", name := "<init>", desc := "(Ljava/lang/StringBuilder;)V" } : MethodName)) ∈ TW := tw_in 928 (by decide +kernel) rfl
set_option maxRecDepth 20000 in
theorem kq_929 : (Cond.code ({ cls := "java/lang/String", name := "<init>", desc := "(Ljava/lang/StringBuilder;)V" } : MethodName) prog_23_method_53_code (2 : Nat) (none : Option FieldType)) ∈ TW := tw_in 929 (by decide +kernel) rfl
set_option maxRecDepth 20000 in
theorem kq_930 : (Cond.methodLink "java/lang/String" (489 : Nat) ({ cls := "java/lang/String", name := "<init>", desc := "(Ljava/lang/AbstractStringBuilder;Ljava/lang/Void;)V" } : MethodName)) ∈ TW := tw_in 930 (by decide +kernel) rfl
set_option maxRecDepth 20000 in
theorem kq_931 : (Cond.instanceMethod ({ cls := "java/lang/String", name := "<init>", desc := "(Ljava/lang/AbstractStringBuilder;Ljava/lang/Void;)V" } : MethodName)) ∈ TW := tw_in 931 (by decide +kernel) rfl
set_option maxRecDepth 20000 in
theorem kq_932 : (Cond.code ({ cls := "java/lang/String", name := "<init>", desc := "(Ljava/lang/AbstractStringBuilder;Ljava/lang/Void;)V" } : MethodName) prog_23_method_150_code (5 : Nat) (none : Option FieldType)) ∈ TW := tw_in 932 (by decide +kernel) rfl
set_option maxRecDepth 20000 in
theorem kq_933 : (Cond.methodLink "java/lang/String" (1 : Nat) ({ cls := "java/lang/Object", name := "<init>", desc := "()V" } : MethodName)) ∈ TW := tw_in 933 (by decide +kernel) rfl
set_option maxRecDepth 20000 in
theorem kq_934 : (Cond.methodLink "java/lang/String" (552 : Nat) ({ cls := "java/lang/AbstractStringBuilder", name := "getValue", desc := "()[B" } : MethodName)) ∈ TW := tw_in 934 (by decide +kernel) rfl
set_option maxRecDepth 20000 in
theorem kq_935 : (Cond.instanceMethod ({ cls := "java/lang/AbstractStringBuilder", name := "getValue", desc := "()[B" } : MethodName)) ∈ TW := tw_in 935 (by decide +kernel) rfl
set_option maxRecDepth 20000 in
theorem kq_937 : (Cond.selects "java/lang/StringBuilder" ({ cls := "java/lang/AbstractStringBuilder", name := "getValue", desc := "()[B" } : MethodName) ({ cls := "java/lang/AbstractStringBuilder", name := "getValue", desc := "()[B" } : MethodName)) ∈ TW := tw_in 937 (by decide +kernel) rfl
set_option maxRecDepth 20000 in
theorem kq_938 : (Cond.code ({ cls := "java/lang/AbstractStringBuilder", name := "getValue", desc := "()[B" } : MethodName) prog_12_method_64_code (1 : Nat) (some (FieldType.array FieldType.byte))) ∈ TW := tw_in 938 (by decide +kernel) rfl
set_option maxRecDepth 20000 in
theorem kq_939 : (Cond.methodLink "java/lang/String" (549 : Nat) ({ cls := "java/lang/AbstractStringBuilder", name := "length", desc := "()I" } : MethodName)) ∈ TW := tw_in 939 (by decide +kernel) rfl
set_option maxRecDepth 20000 in
theorem kq_940 : (Cond.instanceMethod ({ cls := "java/lang/AbstractStringBuilder", name := "length", desc := "()I" } : MethodName)) ∈ TW := tw_in 940 (by decide +kernel) rfl
set_option maxRecDepth 20000 in
theorem kq_941 : (Cond.sameMethod "java/lang/AbstractStringBuilder" "java/lang/AbstractStringBuilder" "length" "()I") ∈ TW := tw_in 941 (by decide +kernel) rfl
set_option maxRecDepth 20000 in
theorem kq_942 : (Cond.selects "java/lang/StringBuilder" ({ cls := "java/lang/AbstractStringBuilder", name := "length", desc := "()I" } : MethodName) ({ cls := "java/lang/StringBuilder", name := "length", desc := "()I" } : MethodName)) ∈ TW := tw_in 942 (by decide +kernel) rfl
set_option maxRecDepth 20000 in
theorem kq_943 : (Cond.instanceMethod ({ cls := "java/lang/StringBuilder", name := "length", desc := "()I" } : MethodName)) ∈ TW := tw_in 943 (by decide +kernel) rfl
set_option maxRecDepth 20000 in
theorem kq_944 : (Cond.code ({ cls := "java/lang/StringBuilder", name := "length", desc := "()I" } : MethodName) prog_24_method_93_code (1 : Nat) (some FieldType.int)) ∈ TW := tw_in 944 (by decide +kernel) rfl
set_option maxRecDepth 20000 in
theorem kq_945 : (Cond.methodLink "java/lang/StringBuilder" (343 : Nat) ({ cls := "java/lang/AbstractStringBuilder", name := "length", desc := "()I" } : MethodName)) ∈ TW := tw_in 945 (by decide +kernel) rfl
set_option maxRecDepth 20000 in
theorem kq_946 : (Cond.code ({ cls := "java/lang/AbstractStringBuilder", name := "length", desc := "()I" } : MethodName) prog_12_method_6_code (1 : Nat) (some FieldType.int)) ∈ TW := tw_in 946 (by decide +kernel) rfl
set_option maxRecDepth 20000 in
theorem kq_947 : (Cond.methodLink "java/lang/String" (1047 : Nat) ({ cls := "java/lang/AbstractStringBuilder", name := "isLatin1", desc := "()Z" } : MethodName)) ∈ TW := tw_in 947 (by decide +kernel) rfl
set_option maxRecDepth 20000 in
theorem kq_948 : (Cond.methodLink "java/lang/String" (54 : Nat) ({ cls := "java/util/Arrays", name := "copyOfRange", desc := "([BII)[B" } : MethodName)) ∈ TW := tw_in 948 (by decide +kernel) rfl
set_option maxRecDepth 20000 in
theorem kq_949 : (Cond.static ({ cls := "java/util/Arrays", name := "copyOfRange", desc := "([BII)[B" } : MethodName)) ∈ TW := tw_in 949 (by decide +kernel) rfl
set_option maxRecDepth 20000 in
theorem kq_950 : (Cond.code ({ cls := "java/util/Arrays", name := "copyOfRange", desc := "([BII)[B" } : MethodName) prog_31_method_132_code (3 : Nat) (some (FieldType.array FieldType.byte))) ∈ TW := tw_in 950 (by decide +kernel) rfl
set_option maxRecDepth 20000 in
theorem kq_951 : (Cond.methodLink "java/util/Arrays" (339 : Nat) ({ cls := "java/util/Arrays", name := "copyOfRangeByte", desc := "([BII)[B" } : MethodName)) ∈ TW := tw_in 951 (by decide +kernel) rfl
set_option maxRecDepth 20000 in
theorem kq_952 : (Cond.static ({ cls := "java/util/Arrays", name := "copyOfRangeByte", desc := "([BII)[B" } : MethodName)) ∈ TW := tw_in 952 (by decide +kernel) rfl
set_option maxRecDepth 20000 in
theorem kq_953 : (Cond.code ({ cls := "java/util/Arrays", name := "copyOfRangeByte", desc := "([BII)[B" } : MethodName) prog_31_method_133_code (5 : Nat) (some (FieldType.array FieldType.byte))) ∈ TW := tw_in 953 (by decide +kernel) rfl
set_option maxRecDepth 20000 in
theorem kq_954 : (Cond.methodLink "java/util/Arrays" (343 : Nat) ({ cls := "java/util/Arrays", name := "checkLength", desc := "(II)V" } : MethodName)) ∈ TW := tw_in 954 (by decide +kernel) rfl
set_option maxRecDepth 20000 in
theorem kq_955 : (Cond.static ({ cls := "java/util/Arrays", name := "checkLength", desc := "(II)V" } : MethodName)) ∈ TW := tw_in 955 (by decide +kernel) rfl
set_option maxRecDepth 20000 in
theorem kq_956 : (Cond.code ({ cls := "java/util/Arrays", name := "checkLength", desc := "(II)V" } : MethodName) prog_31_method_131_code (2 : Nat) (none : Option FieldType)) ∈ TW := tw_in 956 (by decide +kernel) rfl
set_option maxRecDepth 20000 in
theorem kq_967 : (Cond.fieldLink "java/lang/String" (9 : Nat) "java/lang/String" "value" "[B") ∈ TW := tw_in 967 (by decide +kernel) rfl
set_option maxRecDepth 20000 in
theorem kq_968 : (Cond.fieldLink "java/lang/String" (15 : Nat) "java/lang/String" "coder" "B") ∈ TW := tw_in 968 (by decide +kernel) rfl
set_option maxRecDepth 20000 in
theorem kq_1014 : (Cond.code ({ cls := "java/lang/StringBuilder", name := "append", desc := "(I)Ljava/lang/StringBuilder;" } : MethodName) prog_24_method_15_code (2 : Nat) (some (FieldType.object "java/lang/StringBuilder"))) ∈ TW := tw_in 1014 (by decide +kernel) rfl
set_option maxRecDepth 20000 in
theorem kq_1015 : (Cond.methodLink "java/lang/StringBuilder" (53 : Nat) ({ cls := "java/lang/AbstractStringBuilder", name := "append", desc := "(I)Ljava/lang/AbstractStringBuilder;" } : MethodName)) ∈ TW := tw_in 1015 (by decide +kernel) rfl
set_option maxRecDepth 20000 in
theorem kq_1016 : (Cond.instanceMethod ({ cls := "java/lang/AbstractStringBuilder", name := "append", desc := "(I)Ljava/lang/AbstractStringBuilder;" } : MethodName)) ∈ TW := tw_in 1016 (by decide +kernel) rfl
set_option maxRecDepth 20000 in
theorem kq_1017 : (Cond.code ({ cls := "java/lang/AbstractStringBuilder", name := "append", desc := "(I)Ljava/lang/AbstractStringBuilder;" } : MethodName) prog_12_method_32_code (4 : Nat) (some (FieldType.object "java/lang/AbstractStringBuilder"))) ∈ TW := tw_in 1017 (by decide +kernel) rfl
set_option maxRecDepth 20000 in
theorem kq_1018 : (Cond.methodLink "java/lang/AbstractStringBuilder" (245 : Nat) ({ cls := "java/lang/Integer", name := "stringSize", desc := "(I)I" } : MethodName)) ∈ TW := tw_in 1018 (by decide +kernel) rfl
set_option maxRecDepth 20000 in
theorem kq_1019 : (Cond.static ({ cls := "java/lang/Integer", name := "stringSize", desc := "(I)I" } : MethodName)) ∈ TW := tw_in 1019 (by decide +kernel) rfl
set_option maxRecDepth 20000 in
theorem kq_1020 : (Cond.code ({ cls := "java/lang/Integer", name := "stringSize", desc := "(I)I" } : MethodName) prog_19_method_13_code (4 : Nat) (some FieldType.int)) ∈ TW := tw_in 1020 (by decide +kernel) rfl
set_option maxRecDepth 20000 in
theorem kq_1021 : (Cond.methodLink "java/lang/AbstractStringBuilder" (248 : Nat) ({ cls := "java/lang/Integer", name := "getChars", desc := "(II[B)I" } : MethodName)) ∈ TW := tw_in 1021 (by decide +kernel) rfl
set_option maxRecDepth 20000 in
theorem kq_1022 : (Cond.static ({ cls := "java/lang/Integer", name := "getChars", desc := "(II[B)I" } : MethodName)) ∈ TW := tw_in 1022 (by decide +kernel) rfl
set_option maxRecDepth 20000 in
theorem kq_1023 : (Cond.code ({ cls := "java/lang/Integer", name := "getChars", desc := "(II[B)I" } : MethodName) prog_19_method_12_code (7 : Nat) (some FieldType.int)) ∈ TW := tw_in 1023 (by decide +kernel) rfl
set_option maxRecDepth 20000 in
theorem kq_1024 : (Cond.fieldLink "java/lang/Integer" (83 : Nat) "java/lang/Integer" "DigitOnes" "[B") ∈ TW := tw_in 1024 (by decide +kernel) rfl
set_option maxRecDepth 20000 in
theorem kq_1026 : (Cond.fieldLink "java/lang/Integer" (87 : Nat) "java/lang/Integer" "DigitTens" "[B") ∈ TW := tw_in 1026 (by decide +kernel) rfl
set_option maxRecDepth 20000 in
theorem kq_1234 : (Cond.sameMethod "java/lang/AbstractStringBuilder" "java/lang/AbstractStringBuilder" "append" "(Ljava/lang/String;)Ljava/lang/AbstractStringBuilder;") ∈ TW := tw_in 1234 (by decide +kernel) rfl
set_option maxRecDepth 20000 in
theorem kq_1241 : (Cond.sameMethod "java/lang/AbstractStringBuilder" "java/lang/AbstractStringBuilder" "append" "(I)Ljava/lang/AbstractStringBuilder;") ∈ TW := tw_in 1241 (by decide +kernel) rfl
theorem kw_cs : (Cond.fieldLink "java/lang/AbstractStringBuilder" (18 : Nat) "java/lang/String" "COMPACT_STRINGS" "Z") ∈ TW := kq_804
theorem kw_soft : (Cond.constant "jdk/internal/util/ArraysSupport" (200 : Nat) (2147483639 : Int32)) ∈ TW := kq_848
theorem kw_max : (Cond.constant "java/lang/AbstractStringBuilder" (39 : Nat) (2147483647 : Int32)) ∈ TW := kq_852
theorem kw_ob5 : (Cond.methodLink "java/lang/AbstractStringBuilder" (3 : Nat) ({ cls := "java/lang/Object", name := "<init>", desc := "()V" } : MethodName)) ∈ TW := kq_803
theorem kw_ob0 : (Cond.methodLink "java/lang/String" (1 : Nat) ({ cls := "java/lang/Object", name := "<init>", desc := "()V" } : MethodName)) ∈ TW := kq_933
theorem kw_obi : (Cond.instanceMethod ({ cls := "java/lang/Object", name := "<init>", desc := "()V" } : MethodName)) ∈ TW := kq_80
theorem kw_obc : (Cond.code ({ cls := "java/lang/Object", name := "<init>", desc := "()V" } : MethodName) object_method_1_code (1 : Nat) (none : Option FieldType)) ∈ TW := kq_81
theorem kw_ab : (Cond.arrayClass FieldType.byte) ∈ TW := kq_584
theorem kw_cl18 : (Cond.classLink "java/lang/StringBuilder" (18 : Nat) "java/lang/String") ∈ TW := kq_925
theorem kw_ins8 : (Cond.instantiable "java/lang/String" (4 : Nat)) ∈ TW := kq_926
theorem kw_ini8 : (Cond.initialized "java/lang/String") ∈ TW := kq_60
theorem kw_ones : (Cond.fieldLink "java/lang/Integer" (83 : Nat) "java/lang/Integer" "DigitOnes" "[B") ∈ TW := kq_1024
theorem kw_tens : (Cond.fieldLink "java/lang/Integer" (87 : Nat) "java/lang/Integer" "DigitTens" "[B") ∈ TW := kq_1026
def M_J4_init_da8c8 : AMeth := (yJ4_init_da8c8, cJ4_init_da8c8, 1, none, 2, 51)
theorem dJ4_init_da8c8_0 : decode cJ4_init_da8c8 0 = .ok (.aload_n 0, 1) := by decide +kernel
theorem dJ4_init_da8c8_1 : decode cJ4_init_da8c8 1 = .ok (.bipush 16, 2) := by decide +kernel
theorem dJ4_init_da8c8_3 : decode cJ4_init_da8c8 3 = .ok (.invokespecial 1, 3) := by decide +kernel
theorem dJ4_init_da8c8_6 : decode cJ4_init_da8c8 6 = .ok (.return_, 1) := by decide +kernel
theorem ok_J4_init_da8c8 : am_Ok M_J4_init_da8c8 0 := ⟨kq_799, kq_59, by decide +kernel, by decide +kernel, by decide +kernel, by decide +kernel⟩
def M_J5_init_d00df : AMeth := (yJ5_init_d00df, cJ5_init_d00df, 2, none, 1, 30)
theorem dJ5_init_d00df_0 : decode cJ5_init_d00df 0 = .ok (.aload_n 0, 1) := by decide +kernel
theorem dJ5_init_d00df_1 : decode cJ5_init_d00df 1 = .ok (.invokespecial 3, 3) := by decide +kernel
theorem dJ5_init_d00df_4 : decode cJ5_init_d00df 4 = .ok (.getstatic 18, 3) := by decide +kernel
theorem dJ5_init_d00df_7 : decode cJ5_init_d00df 7 = .ok (.ifCond .eq 18, 3) := by decide +kernel
theorem dJ5_init_d00df_10 : decode cJ5_init_d00df 10 = .ok (.aload_n 0, 1) := by decide +kernel
theorem dJ5_init_d00df_11 : decode cJ5_init_d00df 11 = .ok (.iload_n 1, 1) := by decide +kernel
theorem dJ5_init_d00df_12 : decode cJ5_init_d00df 12 = .ok (.newarray .byte, 2) := by decide +kernel
theorem dJ5_init_d00df_14 : decode cJ5_init_d00df 14 = .ok (.putfield 15, 3) := by decide +kernel
theorem dJ5_init_d00df_17 : decode cJ5_init_d00df 17 = .ok (.aload_n 0, 1) := by decide +kernel
theorem dJ5_init_d00df_18 : decode cJ5_init_d00df 18 = .ok (.iconst 0, 1) := by decide +kernel
theorem dJ5_init_d00df_19 : decode cJ5_init_d00df 19 = .ok (.putfield 22, 3) := by decide +kernel
theorem dJ5_init_d00df_22 : decode cJ5_init_d00df 22 = .ok (.goto 16, 3) := by decide +kernel
theorem dJ5_init_d00df_25 : decode cJ5_init_d00df 25 = .ok (.aload_n 0, 1) := by decide +kernel
theorem dJ5_init_d00df_26 : decode cJ5_init_d00df 26 = .ok (.iload_n 1, 1) := by decide +kernel
theorem dJ5_init_d00df_27 : decode cJ5_init_d00df 27 = .ok (.invokestatic 26, 3) := by decide +kernel
theorem dJ5_init_d00df_30 : decode cJ5_init_d00df 30 = .ok (.putfield 15, 3) := by decide +kernel
theorem dJ5_init_d00df_33 : decode cJ5_init_d00df 33 = .ok (.aload_n 0, 1) := by decide +kernel
theorem dJ5_init_d00df_34 : decode cJ5_init_d00df 34 = .ok (.iconst 1, 1) := by decide +kernel
theorem dJ5_init_d00df_35 : decode cJ5_init_d00df 35 = .ok (.putfield 22, 3) := by decide +kernel
theorem dJ5_init_d00df_38 : decode cJ5_init_d00df 38 = .ok (.return_, 1) := by decide +kernel
theorem ok_J5_init_d00df : am_Ok M_J5_init_d00df 1 := ⟨kq_802, kq_58, by decide +kernel, by decide +kernel, by decide +kernel, by decide +kernel⟩
def M_J4_append_15ec4 : AMeth := (yJ4_append_15ec4, cJ4_append_15ec4, 2, (some (.object "java/lang/StringBuilder")), 5, 127)
theorem dJ4_append_15ec4_0 : decode cJ4_append_15ec4 0 = .ok (.aload_n 0, 1) := by decide +kernel
theorem dJ4_append_15ec4_1 : decode cJ4_append_15ec4 1 = .ok (.aload_n 1, 1) := by decide +kernel
theorem dJ4_append_15ec4_2 : decode cJ4_append_15ec4 2 = .ok (.invokespecial 29, 3) := by decide +kernel
theorem dJ4_append_15ec4_5 : decode cJ4_append_15ec4 5 = .ok (.pop, 1) := by decide +kernel
theorem dJ4_append_15ec4_6 : decode cJ4_append_15ec4 6 = .ok (.aload_n 0, 1) := by decide +kernel
theorem dJ4_append_15ec4_7 : decode cJ4_append_15ec4 7 = .ok (.areturn, 1) := by decide +kernel
theorem ok_J4_append_15ec4 : am_Ok M_J4_append_15ec4 1 := ⟨kq_828, kq_59, by decide +kernel, by decide +kernel, by decide +kernel, by decide +kernel⟩
def M_J5_append_cf1ce : AMeth := (yJ5_append_cf1ce, cJ5_append_cf1ce, 3, (some (.object "java/lang/AbstractStringBuilder")), 4, 105)
theorem dJ5_append_cf1ce_0 : decode cJ5_append_cf1ce 0 = .ok (.aload_n 1, 1) := by decide +kernel
theorem dJ5_append_cf1ce_1 : decode cJ5_append_cf1ce 1 = .ok (.ifnonnull 8, 3) := by decide +kernel
theorem dJ5_append_cf1ce_4 : decode cJ5_append_cf1ce 4 = .ok (.aload_n 0, 1) := by decide +kernel
theorem dJ5_append_cf1ce_5 : decode cJ5_append_cf1ce 5 = .ok (.invokevirtual 204, 3) := by decide +kernel
theorem dJ5_append_cf1ce_8 : decode cJ5_append_cf1ce 8 = .ok (.areturn, 1) := by decide +kernel
theorem dJ5_append_cf1ce_9 : decode cJ5_append_cf1ce 9 = .ok (.aload_n 1, 1) := by decide +kernel
theorem dJ5_append_cf1ce_10 : decode cJ5_append_cf1ce 10 = .ok (.invokevirtual 32, 3) := by decide +kernel
theorem dJ5_append_cf1ce_13 : decode cJ5_append_cf1ce 13 = .ok (.istore_n 2, 1) := by decide +kernel
theorem dJ5_append_cf1ce_14 : decode cJ5_append_cf1ce 14 = .ok (.aload_n 0, 1) := by decide +kernel
theorem dJ5_append_cf1ce_15 : decode cJ5_append_cf1ce 15 = .ok (.aload_n 0, 1) := by decide +kernel
theorem dJ5_append_cf1ce_16 : decode cJ5_append_cf1ce 16 = .ok (.getfield 79, 3) := by decide +kernel
theorem dJ5_append_cf1ce_19 : decode cJ5_append_cf1ce 19 = .ok (.iload_n 2, 1) := by decide +kernel
theorem dJ5_append_cf1ce_20 : decode cJ5_append_cf1ce 20 = .ok (.iadd, 1) := by decide +kernel
theorem dJ5_append_cf1ce_21 : decode cJ5_append_cf1ce 21 = .ok (.invokevirtual 100, 3) := by decide +kernel
theorem dJ5_append_cf1ce_24 : decode cJ5_append_cf1ce 24 = .ok (.aload_n 0, 1) := by decide +kernel
theorem dJ5_append_cf1ce_25 : decode cJ5_append_cf1ce 25 = .ok (.aload_n 0, 1) := by decide +kernel
theorem dJ5_append_cf1ce_26 : decode cJ5_append_cf1ce 26 = .ok (.getfield 79, 3) := by decide +kernel
theorem dJ5_append_cf1ce_29 : decode cJ5_append_cf1ce 29 = .ok (.aload_n 1, 1) := by decide +kernel
theorem dJ5_append_cf1ce_30 : decode cJ5_append_cf1ce 30 = .ok (.invokevirtual 208, 3) := by decide +kernel
theorem dJ5_append_cf1ce_33 : decode cJ5_append_cf1ce 33 = .ok (.aload_n 0, 1) := by decide +kernel
theorem dJ5_append_cf1ce_34 : decode cJ5_append_cf1ce 34 = .ok (.dup, 1) := by decide +kernel
theorem dJ5_append_cf1ce_35 : decode cJ5_append_cf1ce 35 = .ok (.getfield 79, 3) := by decide +kernel
theorem dJ5_append_cf1ce_38 : decode cJ5_append_cf1ce 38 = .ok (.iload_n 2, 1) := by decide +kernel
theorem dJ5_append_cf1ce_39 : decode cJ5_append_cf1ce 39 = .ok (.iadd, 1) := by decide +kernel
theorem dJ5_append_cf1ce_40 : decode cJ5_append_cf1ce 40 = .ok (.putfield 79, 3) := by decide +kernel
theorem dJ5_append_cf1ce_43 : decode cJ5_append_cf1ce 43 = .ok (.aload_n 0, 1) := by decide +kernel
theorem dJ5_append_cf1ce_44 : decode cJ5_append_cf1ce 44 = .ok (.areturn, 1) := by decide +kernel
theorem ok_J5_append_cf1ce : am_Ok M_J5_append_cf1ce 1 := ⟨kq_831, kq_58, by decide +kernel, by decide +kernel, by decide +kernel, by decide +kernel⟩
def M_J5_ensureCapacityInternal_d00df : AMeth := (yJ5_ensureCapacityInternal_d00df, cJ5_ensureCapacityInternal_d00df, 3, none, 3, 82)
theorem dJ5_ensureCapacityInternal_d00df_0 : decode cJ5_ensureCapacityInternal_d00df 0 = .ok (.aload_n 0, 1) := by decide +kernel
theorem dJ5_ensureCapacityInternal_d00df_1 : decode cJ5_ensureCapacityInternal_d00df 1 = .ok (.getfield 15, 3) := by decide +kernel
theorem dJ5_ensureCapacityInternal_d00df_4 : decode cJ5_ensureCapacityInternal_d00df 4 = .ok (.arraylength, 1) := by decide +kernel
theorem dJ5_ensureCapacityInternal_d00df_5 : decode cJ5_ensureCapacityInternal_d00df 5 = .ok (.aload_n 0, 1) := by decide +kernel
theorem dJ5_ensureCapacityInternal_d00df_6 : decode cJ5_ensureCapacityInternal_d00df 6 = .ok (.getfield 22, 3) := by decide +kernel
theorem dJ5_ensureCapacityInternal_d00df_9 : decode cJ5_ensureCapacityInternal_d00df 9 = .ok (.ishr, 1) := by decide +kernel
theorem dJ5_ensureCapacityInternal_d00df_10 : decode cJ5_ensureCapacityInternal_d00df 10 = .ok (.istore_n 2, 1) := by decide +kernel
theorem dJ5_ensureCapacityInternal_d00df_11 : decode cJ5_ensureCapacityInternal_d00df 11 = .ok (.iload_n 1, 1) := by decide +kernel
theorem dJ5_ensureCapacityInternal_d00df_12 : decode cJ5_ensureCapacityInternal_d00df 12 = .ok (.iload_n 2, 1) := by decide +kernel
theorem dJ5_ensureCapacityInternal_d00df_13 : decode cJ5_ensureCapacityInternal_d00df 13 = .ok (.isub, 1) := by decide +kernel
theorem dJ5_ensureCapacityInternal_d00df_14 : decode cJ5_ensureCapacityInternal_d00df 14 = .ok (.ifCond .le 24, 3) := by decide +kernel
theorem dJ5_ensureCapacityInternal_d00df_17 : decode cJ5_ensureCapacityInternal_d00df 17 = .ok (.aload_n 0, 1) := by decide +kernel
theorem dJ5_ensureCapacityInternal_d00df_18 : decode cJ5_ensureCapacityInternal_d00df 18 = .ok (.aload_n 0, 1) := by decide +kernel
theorem dJ5_ensureCapacityInternal_d00df_19 : decode cJ5_ensureCapacityInternal_d00df 19 = .ok (.getfield 15, 3) := by decide +kernel
theorem dJ5_ensureCapacityInternal_d00df_22 : decode cJ5_ensureCapacityInternal_d00df 22 = .ok (.aload_n 0, 1) := by decide +kernel
theorem dJ5_ensureCapacityInternal_d00df_23 : decode cJ5_ensureCapacityInternal_d00df 23 = .ok (.iload_n 1, 1) := by decide +kernel
theorem dJ5_ensureCapacityInternal_d00df_24 : decode cJ5_ensureCapacityInternal_d00df 24 = .ok (.invokevirtual 104, 3) := by decide +kernel
theorem dJ5_ensureCapacityInternal_d00df_27 : decode cJ5_ensureCapacityInternal_d00df 27 = .ok (.aload_n 0, 1) := by decide +kernel
theorem dJ5_ensureCapacityInternal_d00df_28 : decode cJ5_ensureCapacityInternal_d00df 28 = .ok (.getfield 22, 3) := by decide +kernel
theorem dJ5_ensureCapacityInternal_d00df_31 : decode cJ5_ensureCapacityInternal_d00df 31 = .ok (.ishl, 1) := by decide +kernel
theorem dJ5_ensureCapacityInternal_d00df_32 : decode cJ5_ensureCapacityInternal_d00df 32 = .ok (.invokestatic 108, 3) := by decide +kernel
theorem dJ5_ensureCapacityInternal_d00df_35 : decode cJ5_ensureCapacityInternal_d00df 35 = .ok (.putfield 15, 3) := by decide +kernel
theorem dJ5_ensureCapacityInternal_d00df_38 : decode cJ5_ensureCapacityInternal_d00df 38 = .ok (.return_, 1) := by decide +kernel
theorem ok_J5_ensureCapacityInternal_d00df : am_Ok M_J5_ensureCapacityInternal_d00df 1 := ⟨kq_839, kq_58, by decide +kernel, by decide +kernel, by decide +kernel, by decide +kernel⟩
def M_J5_newCapacity_0f7a4 : AMeth := (yJ5_newCapacity_0f7a4, cJ5_newCapacity_0f7a4, 6, (some .int), 2, 53)
theorem dJ5_newCapacity_0f7a4_0 : decode cJ5_newCapacity_0f7a4 0 = .ok (.aload_n 0, 1) := by decide +kernel
theorem dJ5_newCapacity_0f7a4_1 : decode cJ5_newCapacity_0f7a4 1 = .ok (.getfield 15, 3) := by decide +kernel
theorem dJ5_newCapacity_0f7a4_4 : decode cJ5_newCapacity_0f7a4 4 = .ok (.arraylength, 1) := by decide +kernel
theorem dJ5_newCapacity_0f7a4_5 : decode cJ5_newCapacity_0f7a4 5 = .ok (.istore_n 2, 1) := by decide +kernel
theorem dJ5_newCapacity_0f7a4_6 : decode cJ5_newCapacity_0f7a4 6 = .ok (.iload_n 1, 1) := by decide +kernel
theorem dJ5_newCapacity_0f7a4_7 : decode cJ5_newCapacity_0f7a4 7 = .ok (.aload_n 0, 1) := by decide +kernel
theorem dJ5_newCapacity_0f7a4_8 : decode cJ5_newCapacity_0f7a4 8 = .ok (.getfield 22, 3) := by decide +kernel
theorem dJ5_newCapacity_0f7a4_11 : decode cJ5_newCapacity_0f7a4 11 = .ok (.ishl, 1) := by decide +kernel
theorem dJ5_newCapacity_0f7a4_12 : decode cJ5_newCapacity_0f7a4 12 = .ok (.istore_n 3, 1) := by decide +kernel
theorem dJ5_newCapacity_0f7a4_13 : decode cJ5_newCapacity_0f7a4 13 = .ok (.iload_n 3, 1) := by decide +kernel
theorem dJ5_newCapacity_0f7a4_14 : decode cJ5_newCapacity_0f7a4 14 = .ok (.iload_n 2, 1) := by decide +kernel
theorem dJ5_newCapacity_0f7a4_15 : decode cJ5_newCapacity_0f7a4 15 = .ok (.isub, 1) := by decide +kernel
theorem dJ5_newCapacity_0f7a4_16 : decode cJ5_newCapacity_0f7a4 16 = .ok (.istore 4, 2) := by decide +kernel
theorem dJ5_newCapacity_0f7a4_18 : decode cJ5_newCapacity_0f7a4 18 = .ok (.iload_n 2, 1) := by decide +kernel
theorem dJ5_newCapacity_0f7a4_19 : decode cJ5_newCapacity_0f7a4 19 = .ok (.iload 4, 2) := by decide +kernel
theorem dJ5_newCapacity_0f7a4_21 : decode cJ5_newCapacity_0f7a4 21 = .ok (.iload_n 2, 1) := by decide +kernel
theorem dJ5_newCapacity_0f7a4_22 : decode cJ5_newCapacity_0f7a4 22 = .ok (.iconst 2, 1) := by decide +kernel
theorem dJ5_newCapacity_0f7a4_23 : decode cJ5_newCapacity_0f7a4 23 = .ok (.aload_n 0, 1) := by decide +kernel
theorem dJ5_newCapacity_0f7a4_24 : decode cJ5_newCapacity_0f7a4 24 = .ok (.getfield 22, 3) := by decide +kernel
theorem dJ5_newCapacity_0f7a4_27 : decode cJ5_newCapacity_0f7a4 27 = .ok (.ishl, 1) := by decide +kernel
theorem dJ5_newCapacity_0f7a4_28 : decode cJ5_newCapacity_0f7a4 28 = .ok (.iadd, 1) := by decide +kernel
theorem dJ5_newCapacity_0f7a4_29 : decode cJ5_newCapacity_0f7a4 29 = .ok (.invokestatic 114, 3) := by decide +kernel
theorem dJ5_newCapacity_0f7a4_32 : decode cJ5_newCapacity_0f7a4 32 = .ok (.istore 5, 2) := by decide +kernel
theorem dJ5_newCapacity_0f7a4_34 : decode cJ5_newCapacity_0f7a4 34 = .ok (.iload 5, 2) := by decide +kernel
theorem dJ5_newCapacity_0f7a4_36 : decode cJ5_newCapacity_0f7a4 36 = .ok (.ldc 39, 2) := by decide +kernel
theorem dJ5_newCapacity_0f7a4_38 : decode cJ5_newCapacity_0f7a4 38 = .ok (.if_icmp .ne 13, 3) := by decide +kernel
theorem dJ5_newCapacity_0f7a4_41 : decode cJ5_newCapacity_0f7a4 41 = .ok (.new 120, 3) := by decide +kernel
theorem dJ5_newCapacity_0f7a4_44 : decode cJ5_newCapacity_0f7a4 44 = .ok (.dup, 1) := by decide +kernel
theorem dJ5_newCapacity_0f7a4_45 : decode cJ5_newCapacity_0f7a4 45 = .ok (.ldc 122, 2) := by decide +kernel
theorem dJ5_newCapacity_0f7a4_47 : decode cJ5_newCapacity_0f7a4 47 = .ok (.invokespecial 124, 3) := by decide +kernel
theorem dJ5_newCapacity_0f7a4_50 : decode cJ5_newCapacity_0f7a4 50 = .ok (.athrow, 1) := by decide +kernel
theorem dJ5_newCapacity_0f7a4_51 : decode cJ5_newCapacity_0f7a4 51 = .ok (.iload 5, 2) := by decide +kernel
theorem dJ5_newCapacity_0f7a4_53 : decode cJ5_newCapacity_0f7a4 53 = .ok (.aload_n 0, 1) := by decide +kernel
theorem dJ5_newCapacity_0f7a4_54 : decode cJ5_newCapacity_0f7a4 54 = .ok (.getfield 22, 3) := by decide +kernel
theorem dJ5_newCapacity_0f7a4_57 : decode cJ5_newCapacity_0f7a4 57 = .ok (.ishr, 1) := by decide +kernel
theorem dJ5_newCapacity_0f7a4_58 : decode cJ5_newCapacity_0f7a4 58 = .ok (.ireturn, 1) := by decide +kernel
theorem ok_J5_newCapacity_0f7a4 : am_Ok M_J5_newCapacity_0f7a4 1 := ⟨kq_843, kq_58, by decide +kernel, by decide +kernel, by decide +kernel, by decide +kernel⟩
def M_J8_newLength_cabcc : AMeth := (yJ8_newLength_cabcc, cJ8_newLength_cabcc, 4, (some .int), 1, 30)
theorem dJ8_newLength_cabcc_0 : decode cJ8_newLength_cabcc 0 = .ok (.iload_n 0, 1) := by decide +kernel
theorem dJ8_newLength_cabcc_1 : decode cJ8_newLength_cabcc 1 = .ok (.iload_n 1, 1) := by decide +kernel
theorem dJ8_newLength_cabcc_2 : decode cJ8_newLength_cabcc 2 = .ok (.iload_n 2, 1) := by decide +kernel
theorem dJ8_newLength_cabcc_3 : decode cJ8_newLength_cabcc 3 = .ok (.invokestatic 194, 3) := by decide +kernel
theorem dJ8_newLength_cabcc_6 : decode cJ8_newLength_cabcc 6 = .ok (.iadd, 1) := by decide +kernel
theorem dJ8_newLength_cabcc_7 : decode cJ8_newLength_cabcc 7 = .ok (.istore_n 3, 1) := by decide +kernel
theorem dJ8_newLength_cabcc_8 : decode cJ8_newLength_cabcc 8 = .ok (.iconst 0, 1) := by decide +kernel
theorem dJ8_newLength_cabcc_9 : decode cJ8_newLength_cabcc 9 = .ok (.iload_n 3, 1) := by decide +kernel
theorem dJ8_newLength_cabcc_10 : decode cJ8_newLength_cabcc 10 = .ok (.if_icmp .ge 11, 3) := by decide +kernel
theorem dJ8_newLength_cabcc_13 : decode cJ8_newLength_cabcc 13 = .ok (.iload_n 3, 1) := by decide +kernel
theorem dJ8_newLength_cabcc_14 : decode cJ8_newLength_cabcc 14 = .ok (.ldc 200, 2) := by decide +kernel
theorem dJ8_newLength_cabcc_16 : decode cJ8_newLength_cabcc 16 = .ok (.if_icmp .gt 5, 3) := by decide +kernel
theorem dJ8_newLength_cabcc_19 : decode cJ8_newLength_cabcc 19 = .ok (.iload_n 3, 1) := by decide +kernel
theorem dJ8_newLength_cabcc_20 : decode cJ8_newLength_cabcc 20 = .ok (.ireturn, 1) := by decide +kernel
theorem dJ8_newLength_cabcc_21 : decode cJ8_newLength_cabcc 21 = .ok (.iload_n 0, 1) := by decide +kernel
theorem dJ8_newLength_cabcc_22 : decode cJ8_newLength_cabcc 22 = .ok (.iload_n 1, 1) := by decide +kernel
theorem dJ8_newLength_cabcc_23 : decode cJ8_newLength_cabcc 23 = .ok (.invokestatic 201, 3) := by decide +kernel
theorem dJ8_newLength_cabcc_26 : decode cJ8_newLength_cabcc 26 = .ok (.ireturn, 1) := by decide +kernel
theorem ok_J8_newLength_cabcc : am_Ok M_J8_newLength_cabcc 3 := ⟨kq_846, kq_62, by decide +kernel, by decide +kernel, by decide +kernel, by decide +kernel⟩
def M_J7_copyOf_9075b : AMeth := (yJ7_copyOf_9075b, cJ7_copyOf_9075b, 3, (some (.array .byte)), 1, 60)
theorem dJ7_copyOf_9075b_0 : decode cJ7_copyOf_9075b 0 = .ok (.iload_n 1, 1) := by decide +kernel
theorem dJ7_copyOf_9075b_1 : decode cJ7_copyOf_9075b 1 = .ok (.aload_n 0, 1) := by decide +kernel
theorem dJ7_copyOf_9075b_2 : decode cJ7_copyOf_9075b 2 = .ok (.arraylength, 1) := by decide +kernel
theorem dJ7_copyOf_9075b_3 : decode cJ7_copyOf_9075b 3 = .ok (.if_icmp .ne 11, 3) := by decide +kernel
theorem dJ7_copyOf_9075b_6 : decode cJ7_copyOf_9075b 6 = .ok (.aload_n 0, 1) := by decide +kernel
theorem dJ7_copyOf_9075b_7 : decode cJ7_copyOf_9075b 7 = .ok (.invokevirtual 310, 3) := by decide +kernel
theorem dJ7_copyOf_9075b_10 : decode cJ7_copyOf_9075b 10 = .ok (.checkcast 311, 3) := by decide +kernel
theorem dJ7_copyOf_9075b_13 : decode cJ7_copyOf_9075b 13 = .ok (.areturn, 1) := by decide +kernel
theorem dJ7_copyOf_9075b_14 : decode cJ7_copyOf_9075b 14 = .ok (.iload_n 1, 1) := by decide +kernel
theorem dJ7_copyOf_9075b_15 : decode cJ7_copyOf_9075b 15 = .ok (.newarray .byte, 2) := by decide +kernel
theorem dJ7_copyOf_9075b_17 : decode cJ7_copyOf_9075b 17 = .ok (.astore_n 2, 1) := by decide +kernel
theorem dJ7_copyOf_9075b_18 : decode cJ7_copyOf_9075b 18 = .ok (.aload_n 0, 1) := by decide +kernel
theorem dJ7_copyOf_9075b_19 : decode cJ7_copyOf_9075b 19 = .ok (.iconst 0, 1) := by decide +kernel
theorem dJ7_copyOf_9075b_20 : decode cJ7_copyOf_9075b 20 = .ok (.aload_n 2, 1) := by decide +kernel
theorem dJ7_copyOf_9075b_21 : decode cJ7_copyOf_9075b 21 = .ok (.iconst 0, 1) := by decide +kernel
theorem dJ7_copyOf_9075b_22 : decode cJ7_copyOf_9075b 22 = .ok (.aload_n 0, 1) := by decide +kernel
theorem dJ7_copyOf_9075b_23 : decode cJ7_copyOf_9075b 23 = .ok (.arraylength, 1) := by decide +kernel
theorem dJ7_copyOf_9075b_24 : decode cJ7_copyOf_9075b 24 = .ok (.iload_n 1, 1) := by decide +kernel
theorem dJ7_copyOf_9075b_25 : decode cJ7_copyOf_9075b 25 = .ok (.invokestatic 304, 3) := by decide +kernel
theorem dJ7_copyOf_9075b_28 : decode cJ7_copyOf_9075b 28 = .ok (.invokestatic 150, 3) := by decide +kernel
theorem dJ7_copyOf_9075b_31 : decode cJ7_copyOf_9075b 31 = .ok (.aload_n 2, 1) := by decide +kernel
theorem dJ7_copyOf_9075b_32 : decode cJ7_copyOf_9075b 32 = .ok (.areturn, 1) := by decide +kernel
theorem ok_J7_copyOf_9075b : am_Ok M_J7_copyOf_9075b 2 := ⟨kq_855, kq_63, by decide +kernel, by decide +kernel, by decide +kernel, by decide +kernel⟩
def M_J5_putStringAt_47b60 : AMeth := (yJ5_putStringAt_47b60, cJ5_putStringAt_47b60, 3, none, 3, 83)
theorem dJ5_putStringAt_47b60_0 : decode cJ5_putStringAt_47b60 0 = .ok (.aload_n 0, 1) := by decide +kernel
theorem dJ5_putStringAt_47b60_1 : decode cJ5_putStringAt_47b60 1 = .ok (.aload_n 2, 1) := by decide +kernel
theorem dJ5_putStringAt_47b60_2 : decode cJ5_putStringAt_47b60 2 = .ok (.invokevirtual 397, 3) := by decide +kernel
theorem dJ5_putStringAt_47b60_5 : decode cJ5_putStringAt_47b60 5 = .ok (.aload_n 2, 1) := by decide +kernel
theorem dJ5_putStringAt_47b60_6 : decode cJ5_putStringAt_47b60 6 = .ok (.aload_n 0, 1) := by decide +kernel
theorem dJ5_putStringAt_47b60_7 : decode cJ5_putStringAt_47b60 7 = .ok (.getfield 15, 3) := by decide +kernel
theorem dJ5_putStringAt_47b60_10 : decode cJ5_putStringAt_47b60 10 = .ok (.iload_n 1, 1) := by decide +kernel
theorem dJ5_putStringAt_47b60_11 : decode cJ5_putStringAt_47b60 11 = .ok (.aload_n 0, 1) := by decide +kernel
theorem dJ5_putStringAt_47b60_12 : decode cJ5_putStringAt_47b60 12 = .ok (.getfield 22, 3) := by decide +kernel
theorem dJ5_putStringAt_47b60_15 : decode cJ5_putStringAt_47b60 15 = .ok (.invokevirtual 399, 3) := by decide +kernel
theorem dJ5_putStringAt_47b60_18 : decode cJ5_putStringAt_47b60 18 = .ok (.return_, 1) := by decide +kernel
theorem ok_J5_putStringAt_47b60 : am_Ok M_J5_putStringAt_47b60 2 := ⟨kq_889, kq_58, by decide +kernel, by decide +kernel, by decide +kernel, by decide +kernel⟩
def M_J5_inflateIfNeededFor_a7421 : AMeth := (yJ5_inflateIfNeededFor_a7421, cJ5_inflateIfNeededFor_a7421, 2, none, 2, 60)
theorem dJ5_inflateIfNeededFor_a7421_0 : decode cJ5_inflateIfNeededFor_a7421 0 = .ok (.getstatic 18, 3) := by decide +kernel
theorem dJ5_inflateIfNeededFor_a7421_3 : decode cJ5_inflateIfNeededFor_a7421 3 = .ok (.ifCond .eq 18, 3) := by decide +kernel
theorem dJ5_inflateIfNeededFor_a7421_6 : decode cJ5_inflateIfNeededFor_a7421 6 = .ok (.aload_n 0, 1) := by decide +kernel
theorem dJ5_inflateIfNeededFor_a7421_7 : decode cJ5_inflateIfNeededFor_a7421 7 = .ok (.getfield 22, 3) := by decide +kernel
theorem dJ5_inflateIfNeededFor_a7421_10 : decode cJ5_inflateIfNeededFor_a7421 10 = .ok (.aload_n 1, 1) := by decide +kernel
theorem dJ5_inflateIfNeededFor_a7421_11 : decode cJ5_inflateIfNeededFor_a7421 11 = .ok (.invokevirtual 40, 3) := by decide +kernel
theorem dJ5_inflateIfNeededFor_a7421_14 : decode cJ5_inflateIfNeededFor_a7421 14 = .ok (.if_icmp .eq 7, 3) := by decide +kernel
theorem dJ5_inflateIfNeededFor_a7421_17 : decode cJ5_inflateIfNeededFor_a7421 17 = .ok (.aload_n 0, 1) := by decide +kernel
theorem dJ5_inflateIfNeededFor_a7421_18 : decode cJ5_inflateIfNeededFor_a7421 18 = .ok (.invokevirtual 195, 3) := by decide +kernel
theorem dJ5_inflateIfNeededFor_a7421_21 : decode cJ5_inflateIfNeededFor_a7421 21 = .ok (.return_, 1) := by decide +kernel
theorem ok_J5_inflateIfNeededFor_a7421 : am_Ok M_J5_inflateIfNeededFor_a7421 1 := ⟨kq_893, kq_58, by decide +kernel, by decide +kernel, by decide +kernel, by decide +kernel⟩
def M_J0_getBytes_840e7 : AMeth := (yJ0_getBytes_840e7, cJ0_getBytes_840e7, 4, none, 2, 60)
theorem dJ0_getBytes_840e7_0 : decode cJ0_getBytes_840e7 0 = .ok (.aload_n 0, 1) := by decide +kernel
theorem dJ0_getBytes_840e7_1 : decode cJ0_getBytes_840e7 1 = .ok (.invokevirtual 335, 3) := by decide +kernel
theorem dJ0_getBytes_840e7_4 : decode cJ0_getBytes_840e7 4 = .ok (.iload_n 3, 1) := by decide +kernel
theorem dJ0_getBytes_840e7_5 : decode cJ0_getBytes_840e7 5 = .ok (.if_icmp .ne 23, 3) := by decide +kernel
theorem dJ0_getBytes_840e7_8 : decode cJ0_getBytes_840e7 8 = .ok (.aload_n 0, 1) := by decide +kernel
theorem dJ0_getBytes_840e7_9 : decode cJ0_getBytes_840e7 9 = .ok (.getfield 9, 3) := by decide +kernel
theorem dJ0_getBytes_840e7_12 : decode cJ0_getBytes_840e7 12 = .ok (.iconst 0, 1) := by decide +kernel
theorem dJ0_getBytes_840e7_13 : decode cJ0_getBytes_840e7 13 = .ok (.aload_n 1, 1) := by decide +kernel
theorem dJ0_getBytes_840e7_14 : decode cJ0_getBytes_840e7 14 = .ok (.iload_n 2, 1) := by decide +kernel
theorem dJ0_getBytes_840e7_15 : decode cJ0_getBytes_840e7 15 = .ok (.iload_n 3, 1) := by decide +kernel
theorem dJ0_getBytes_840e7_16 : decode cJ0_getBytes_840e7 16 = .ok (.ishl, 1) := by decide +kernel
theorem dJ0_getBytes_840e7_17 : decode cJ0_getBytes_840e7 17 = .ok (.aload_n 0, 1) := by decide +kernel
theorem dJ0_getBytes_840e7_18 : decode cJ0_getBytes_840e7 18 = .ok (.getfield 9, 3) := by decide +kernel
theorem dJ0_getBytes_840e7_21 : decode cJ0_getBytes_840e7 21 = .ok (.arraylength, 1) := by decide +kernel
theorem dJ0_getBytes_840e7_22 : decode cJ0_getBytes_840e7 22 = .ok (.invokestatic 212, 3) := by decide +kernel
theorem dJ0_getBytes_840e7_25 : decode cJ0_getBytes_840e7 25 = .ok (.goto 18, 3) := by decide +kernel
theorem dJ0_getBytes_840e7_28 : decode cJ0_getBytes_840e7 28 = .ok (.aload_n 0, 1) := by decide +kernel
theorem dJ0_getBytes_840e7_29 : decode cJ0_getBytes_840e7 29 = .ok (.getfield 9, 3) := by decide +kernel
theorem dJ0_getBytes_840e7_32 : decode cJ0_getBytes_840e7 32 = .ok (.iconst 0, 1) := by decide +kernel
theorem dJ0_getBytes_840e7_33 : decode cJ0_getBytes_840e7 33 = .ok (.aload_n 1, 1) := by decide +kernel
theorem dJ0_getBytes_840e7_34 : decode cJ0_getBytes_840e7 34 = .ok (.iload_n 2, 1) := by decide +kernel
theorem dJ0_getBytes_840e7_35 : decode cJ0_getBytes_840e7 35 = .ok (.aload_n 0, 1) := by decide +kernel
theorem dJ0_getBytes_840e7_36 : decode cJ0_getBytes_840e7 36 = .ok (.getfield 9, 3) := by decide +kernel
theorem dJ0_getBytes_840e7_39 : decode cJ0_getBytes_840e7 39 = .ok (.arraylength, 1) := by decide +kernel
theorem dJ0_getBytes_840e7_40 : decode cJ0_getBytes_840e7 40 = .ok (.invokestatic 106, 3) := by decide +kernel
theorem dJ0_getBytes_840e7_43 : decode cJ0_getBytes_840e7 43 = .ok (.return_, 1) := by decide +kernel
theorem ok_J0_getBytes_840e7 : am_Ok M_J0_getBytes_840e7 3 := ⟨kq_917, kq_60, by decide +kernel, by decide +kernel, by decide +kernel, by decide +kernel⟩
def M_J4_append_bf812 : AMeth := (yJ4_append_bf812, cJ4_append_bf812, 2, (some (.object "java/lang/StringBuilder")), 5, 127)
theorem dJ4_append_bf812_0 : decode cJ4_append_bf812 0 = .ok (.aload_n 0, 1) := by decide +kernel
theorem dJ4_append_bf812_1 : decode cJ4_append_bf812 1 = .ok (.iload_n 1, 1) := by decide +kernel
theorem dJ4_append_bf812_2 : decode cJ4_append_bf812 2 = .ok (.invokespecial 53, 3) := by decide +kernel
theorem dJ4_append_bf812_5 : decode cJ4_append_bf812 5 = .ok (.pop, 1) := by decide +kernel
theorem dJ4_append_bf812_6 : decode cJ4_append_bf812 6 = .ok (.aload_n 0, 1) := by decide +kernel
theorem dJ4_append_bf812_7 : decode cJ4_append_bf812 7 = .ok (.areturn, 1) := by decide +kernel
theorem ok_J4_append_bf812 : am_Ok M_J4_append_bf812 1 := ⟨kq_1014, kq_59, by decide +kernel, by decide +kernel, by decide +kernel, by decide +kernel⟩
def M_J5_append_c97b9 : AMeth := (yJ5_append_c97b9, cJ5_append_c97b9, 4, (some (.object "java/lang/AbstractStringBuilder")), 4, 104)
theorem dJ5_append_c97b9_0 : decode cJ5_append_c97b9 0 = .ok (.aload_n 0, 1) := by decide +kernel
theorem dJ5_append_c97b9_1 : decode cJ5_append_c97b9 1 = .ok (.getfield 79, 3) := by decide +kernel
theorem dJ5_append_c97b9_4 : decode cJ5_append_c97b9 4 = .ok (.istore_n 2, 1) := by decide +kernel
theorem dJ5_append_c97b9_5 : decode cJ5_append_c97b9 5 = .ok (.iload_n 2, 1) := by decide +kernel
theorem dJ5_append_c97b9_6 : decode cJ5_append_c97b9 6 = .ok (.iload_n 1, 1) := by decide +kernel
theorem dJ5_append_c97b9_7 : decode cJ5_append_c97b9 7 = .ok (.invokestatic 245, 3) := by decide +kernel
theorem dJ5_append_c97b9_10 : decode cJ5_append_c97b9 10 = .ok (.iadd, 1) := by decide +kernel
theorem dJ5_append_c97b9_11 : decode cJ5_append_c97b9 11 = .ok (.istore_n 3, 1) := by decide +kernel
theorem dJ5_append_c97b9_12 : decode cJ5_append_c97b9 12 = .ok (.aload_n 0, 1) := by decide +kernel
theorem dJ5_append_c97b9_13 : decode cJ5_append_c97b9 13 = .ok (.iload_n 3, 1) := by decide +kernel
theorem dJ5_append_c97b9_14 : decode cJ5_append_c97b9 14 = .ok (.invokevirtual 100, 3) := by decide +kernel
theorem dJ5_append_c97b9_17 : decode cJ5_append_c97b9 17 = .ok (.aload_n 0, 1) := by decide +kernel
theorem dJ5_append_c97b9_18 : decode cJ5_append_c97b9 18 = .ok (.invokevirtual 83, 3) := by decide +kernel
theorem dJ5_append_c97b9_21 : decode cJ5_append_c97b9 21 = .ok (.ifCond .eq 16, 3) := by decide +kernel
theorem dJ5_append_c97b9_24 : decode cJ5_append_c97b9 24 = .ok (.iload_n 1, 1) := by decide +kernel
theorem dJ5_append_c97b9_25 : decode cJ5_append_c97b9 25 = .ok (.iload_n 3, 1) := by decide +kernel
theorem dJ5_append_c97b9_26 : decode cJ5_append_c97b9 26 = .ok (.aload_n 0, 1) := by decide +kernel
theorem dJ5_append_c97b9_27 : decode cJ5_append_c97b9 27 = .ok (.getfield 15, 3) := by decide +kernel
theorem dJ5_append_c97b9_30 : decode cJ5_append_c97b9 30 = .ok (.invokestatic 248, 3) := by decide +kernel
theorem dJ5_append_c97b9_33 : decode cJ5_append_c97b9 33 = .ok (.pop, 1) := by decide +kernel
theorem dJ5_append_c97b9_34 : decode cJ5_append_c97b9 34 = .ok (.goto 14, 3) := by decide +kernel
theorem dJ5_append_c97b9_37 : decode cJ5_append_c97b9 37 = .ok (.iload_n 1, 1) := by decide +kernel
theorem dJ5_append_c97b9_38 : decode cJ5_append_c97b9 38 = .ok (.iload_n 2, 1) := by decide +kernel
theorem dJ5_append_c97b9_39 : decode cJ5_append_c97b9 39 = .ok (.iload_n 3, 1) := by decide +kernel
theorem dJ5_append_c97b9_40 : decode cJ5_append_c97b9 40 = .ok (.aload_n 0, 1) := by decide +kernel
theorem dJ5_append_c97b9_41 : decode cJ5_append_c97b9 41 = .ok (.getfield 15, 3) := by decide +kernel
theorem dJ5_append_c97b9_44 : decode cJ5_append_c97b9 44 = .ok (.invokestatic 251, 3) := by decide +kernel
theorem dJ5_append_c97b9_47 : decode cJ5_append_c97b9 47 = .ok (.pop, 1) := by decide +kernel
theorem dJ5_append_c97b9_48 : decode cJ5_append_c97b9 48 = .ok (.aload_n 0, 1) := by decide +kernel
theorem dJ5_append_c97b9_49 : decode cJ5_append_c97b9 49 = .ok (.iload_n 3, 1) := by decide +kernel
theorem dJ5_append_c97b9_50 : decode cJ5_append_c97b9 50 = .ok (.putfield 79, 3) := by decide +kernel
theorem dJ5_append_c97b9_53 : decode cJ5_append_c97b9 53 = .ok (.aload_n 0, 1) := by decide +kernel
theorem dJ5_append_c97b9_54 : decode cJ5_append_c97b9 54 = .ok (.areturn, 1) := by decide +kernel
theorem ok_J5_append_c97b9 : am_Ok M_J5_append_c97b9 1 := ⟨kq_1017, kq_58, by decide +kernel, by decide +kernel, by decide +kernel, by decide +kernel⟩
def M_J6_stringSize_0f7a4 : AMeth := (yJ6_stringSize_0f7a4, cJ6_stringSize_0f7a4, 4, (some .int), 0, 0)
theorem dJ6_stringSize_0f7a4_0 : decode cJ6_stringSize_0f7a4 0 = .ok (.iconst 1, 1) := by decide +kernel
theorem dJ6_stringSize_0f7a4_1 : decode cJ6_stringSize_0f7a4 1 = .ok (.istore_n 1, 1) := by decide +kernel
theorem dJ6_stringSize_0f7a4_2 : decode cJ6_stringSize_0f7a4 2 = .ok (.iload_n 0, 1) := by decide +kernel
theorem dJ6_stringSize_0f7a4_3 : decode cJ6_stringSize_0f7a4 3 = .ok (.ifCond .lt 8, 3) := by decide +kernel
theorem dJ6_stringSize_0f7a4_6 : decode cJ6_stringSize_0f7a4 6 = .ok (.iconst 0, 1) := by decide +kernel
theorem dJ6_stringSize_0f7a4_7 : decode cJ6_stringSize_0f7a4 7 = .ok (.istore_n 1, 1) := by decide +kernel
theorem dJ6_stringSize_0f7a4_8 : decode cJ6_stringSize_0f7a4 8 = .ok (.iload_n 0, 1) := by decide +kernel
theorem dJ6_stringSize_0f7a4_9 : decode cJ6_stringSize_0f7a4 9 = .ok (.ineg, 1) := by decide +kernel
theorem dJ6_stringSize_0f7a4_10 : decode cJ6_stringSize_0f7a4 10 = .ok (.istore_n 0, 1) := by decide +kernel
theorem dJ6_stringSize_0f7a4_11 : decode cJ6_stringSize_0f7a4 11 = .ok (.bipush (-10), 2) := by decide +kernel
theorem dJ6_stringSize_0f7a4_13 : decode cJ6_stringSize_0f7a4 13 = .ok (.istore_n 2, 1) := by decide +kernel
theorem dJ6_stringSize_0f7a4_14 : decode cJ6_stringSize_0f7a4 14 = .ok (.iconst 1, 1) := by decide +kernel
theorem dJ6_stringSize_0f7a4_15 : decode cJ6_stringSize_0f7a4 15 = .ok (.istore_n 3, 1) := by decide +kernel
theorem dJ6_stringSize_0f7a4_16 : decode cJ6_stringSize_0f7a4 16 = .ok (.iload_n 3, 1) := by decide +kernel
theorem dJ6_stringSize_0f7a4_17 : decode cJ6_stringSize_0f7a4 17 = .ok (.bipush 10, 2) := by decide +kernel
theorem dJ6_stringSize_0f7a4_19 : decode cJ6_stringSize_0f7a4 19 = .ok (.if_icmp .ge 23, 3) := by decide +kernel
theorem dJ6_stringSize_0f7a4_22 : decode cJ6_stringSize_0f7a4 22 = .ok (.iload_n 0, 1) := by decide +kernel
theorem dJ6_stringSize_0f7a4_23 : decode cJ6_stringSize_0f7a4 23 = .ok (.iload_n 2, 1) := by decide +kernel
theorem dJ6_stringSize_0f7a4_24 : decode cJ6_stringSize_0f7a4 24 = .ok (.if_icmp .le 7, 3) := by decide +kernel
theorem dJ6_stringSize_0f7a4_27 : decode cJ6_stringSize_0f7a4 27 = .ok (.iload_n 3, 1) := by decide +kernel
theorem dJ6_stringSize_0f7a4_28 : decode cJ6_stringSize_0f7a4 28 = .ok (.iload_n 1, 1) := by decide +kernel
theorem dJ6_stringSize_0f7a4_29 : decode cJ6_stringSize_0f7a4 29 = .ok (.iadd, 1) := by decide +kernel
theorem dJ6_stringSize_0f7a4_30 : decode cJ6_stringSize_0f7a4 30 = .ok (.ireturn, 1) := by decide +kernel
theorem dJ6_stringSize_0f7a4_31 : decode cJ6_stringSize_0f7a4 31 = .ok (.bipush 10, 2) := by decide +kernel
theorem dJ6_stringSize_0f7a4_33 : decode cJ6_stringSize_0f7a4 33 = .ok (.iload_n 2, 1) := by decide +kernel
theorem dJ6_stringSize_0f7a4_34 : decode cJ6_stringSize_0f7a4 34 = .ok (.imul, 1) := by decide +kernel
theorem dJ6_stringSize_0f7a4_35 : decode cJ6_stringSize_0f7a4 35 = .ok (.istore_n 2, 1) := by decide +kernel
theorem dJ6_stringSize_0f7a4_36 : decode cJ6_stringSize_0f7a4 36 = .ok (.iinc 3 1, 3) := by decide +kernel
theorem dJ6_stringSize_0f7a4_39 : decode cJ6_stringSize_0f7a4 39 = .ok (.goto (-23), 3) := by decide +kernel
theorem dJ6_stringSize_0f7a4_42 : decode cJ6_stringSize_0f7a4 42 = .ok (.bipush 10, 2) := by decide +kernel
theorem dJ6_stringSize_0f7a4_44 : decode cJ6_stringSize_0f7a4 44 = .ok (.iload_n 1, 1) := by decide +kernel
theorem dJ6_stringSize_0f7a4_45 : decode cJ6_stringSize_0f7a4 45 = .ok (.iadd, 1) := by decide +kernel
theorem dJ6_stringSize_0f7a4_46 : decode cJ6_stringSize_0f7a4 46 = .ok (.ireturn, 1) := by decide +kernel
theorem ok_J6_stringSize_0f7a4 : am_Ok M_J6_stringSize_0f7a4 1 := ⟨kq_1020, kq_68, by decide +kernel, by decide +kernel, by decide +kernel, by decide +kernel⟩
def M_J6_getChars_ba4f3 : AMeth := (yJ6_getChars_ba4f3, cJ6_getChars_ba4f3, 7, (some .int), 0, 0)
theorem dJ6_getChars_ba4f3_0 : decode cJ6_getChars_ba4f3 0 = .ok (.iload_n 1, 1) := by decide +kernel
theorem dJ6_getChars_ba4f3_1 : decode cJ6_getChars_ba4f3 1 = .ok (.istore 5, 2) := by decide +kernel
theorem dJ6_getChars_ba4f3_3 : decode cJ6_getChars_ba4f3 3 = .ok (.iload_n 0, 1) := by decide +kernel
theorem dJ6_getChars_ba4f3_4 : decode cJ6_getChars_ba4f3 4 = .ok (.ifCond .ge 7, 3) := by decide +kernel
theorem dJ6_getChars_ba4f3_7 : decode cJ6_getChars_ba4f3 7 = .ok (.iconst 1, 1) := by decide +kernel
theorem dJ6_getChars_ba4f3_8 : decode cJ6_getChars_ba4f3 8 = .ok (.goto 4, 3) := by decide +kernel
theorem dJ6_getChars_ba4f3_11 : decode cJ6_getChars_ba4f3 11 = .ok (.iconst 0, 1) := by decide +kernel
theorem dJ6_getChars_ba4f3_12 : decode cJ6_getChars_ba4f3 12 = .ok (.istore 6, 2) := by decide +kernel
theorem dJ6_getChars_ba4f3_14 : decode cJ6_getChars_ba4f3 14 = .ok (.iload 6, 2) := by decide +kernel
theorem dJ6_getChars_ba4f3_16 : decode cJ6_getChars_ba4f3 16 = .ok (.ifCond .ne 6, 3) := by decide +kernel
theorem dJ6_getChars_ba4f3_19 : decode cJ6_getChars_ba4f3 19 = .ok (.iload_n 0, 1) := by decide +kernel
theorem dJ6_getChars_ba4f3_20 : decode cJ6_getChars_ba4f3 20 = .ok (.ineg, 1) := by decide +kernel
theorem dJ6_getChars_ba4f3_21 : decode cJ6_getChars_ba4f3 21 = .ok (.istore_n 0, 1) := by decide +kernel
theorem dJ6_getChars_ba4f3_22 : decode cJ6_getChars_ba4f3 22 = .ok (.iload_n 0, 1) := by decide +kernel
theorem dJ6_getChars_ba4f3_23 : decode cJ6_getChars_ba4f3 23 = .ok (.bipush (-100), 2) := by decide +kernel
theorem dJ6_getChars_ba4f3_25 : decode cJ6_getChars_ba4f3 25 = .ok (.if_icmp .gt 47, 3) := by decide +kernel
theorem dJ6_getChars_ba4f3_28 : decode cJ6_getChars_ba4f3 28 = .ok (.iload_n 0, 1) := by decide +kernel
theorem dJ6_getChars_ba4f3_29 : decode cJ6_getChars_ba4f3 29 = .ok (.bipush 100, 2) := by decide +kernel
theorem dJ6_getChars_ba4f3_31 : decode cJ6_getChars_ba4f3 31 = .ok (.idiv, 1) := by decide +kernel
theorem dJ6_getChars_ba4f3_32 : decode cJ6_getChars_ba4f3 32 = .ok (.istore_n 3, 1) := by decide +kernel
theorem dJ6_getChars_ba4f3_33 : decode cJ6_getChars_ba4f3 33 = .ok (.iload_n 3, 1) := by decide +kernel
theorem dJ6_getChars_ba4f3_34 : decode cJ6_getChars_ba4f3 34 = .ok (.bipush 100, 2) := by decide +kernel
theorem dJ6_getChars_ba4f3_36 : decode cJ6_getChars_ba4f3 36 = .ok (.imul, 1) := by decide +kernel
theorem dJ6_getChars_ba4f3_37 : decode cJ6_getChars_ba4f3 37 = .ok (.iload_n 0, 1) := by decide +kernel
theorem dJ6_getChars_ba4f3_38 : decode cJ6_getChars_ba4f3 38 = .ok (.isub, 1) := by decide +kernel
theorem dJ6_getChars_ba4f3_39 : decode cJ6_getChars_ba4f3 39 = .ok (.istore 4, 2) := by decide +kernel
theorem dJ6_getChars_ba4f3_41 : decode cJ6_getChars_ba4f3 41 = .ok (.iload_n 3, 1) := by decide +kernel
theorem dJ6_getChars_ba4f3_42 : decode cJ6_getChars_ba4f3 42 = .ok (.istore_n 0, 1) := by decide +kernel
theorem dJ6_getChars_ba4f3_43 : decode cJ6_getChars_ba4f3 43 = .ok (.aload_n 2, 1) := by decide +kernel
theorem dJ6_getChars_ba4f3_44 : decode cJ6_getChars_ba4f3 44 = .ok (.iinc 5 (-1), 3) := by decide +kernel
theorem dJ6_getChars_ba4f3_47 : decode cJ6_getChars_ba4f3 47 = .ok (.iload 5, 2) := by decide +kernel
theorem dJ6_getChars_ba4f3_49 : decode cJ6_getChars_ba4f3 49 = .ok (.getstatic 83, 3) := by decide +kernel
theorem dJ6_getChars_ba4f3_52 : decode cJ6_getChars_ba4f3 52 = .ok (.iload 4, 2) := by decide +kernel
theorem dJ6_getChars_ba4f3_54 : decode cJ6_getChars_ba4f3 54 = .ok (.baload, 1) := by decide +kernel
theorem dJ6_getChars_ba4f3_55 : decode cJ6_getChars_ba4f3 55 = .ok (.bastore, 1) := by decide +kernel
theorem dJ6_getChars_ba4f3_56 : decode cJ6_getChars_ba4f3 56 = .ok (.aload_n 2, 1) := by decide +kernel
theorem dJ6_getChars_ba4f3_57 : decode cJ6_getChars_ba4f3 57 = .ok (.iinc 5 (-1), 3) := by decide +kernel
theorem dJ6_getChars_ba4f3_60 : decode cJ6_getChars_ba4f3 60 = .ok (.iload 5, 2) := by decide +kernel
theorem dJ6_getChars_ba4f3_62 : decode cJ6_getChars_ba4f3 62 = .ok (.getstatic 87, 3) := by decide +kernel
theorem dJ6_getChars_ba4f3_65 : decode cJ6_getChars_ba4f3 65 = .ok (.iload 4, 2) := by decide +kernel
theorem dJ6_getChars_ba4f3_67 : decode cJ6_getChars_ba4f3 67 = .ok (.baload, 1) := by decide +kernel
theorem dJ6_getChars_ba4f3_68 : decode cJ6_getChars_ba4f3 68 = .ok (.bastore, 1) := by decide +kernel
theorem dJ6_getChars_ba4f3_69 : decode cJ6_getChars_ba4f3 69 = .ok (.goto (-47), 3) := by decide +kernel
theorem dJ6_getChars_ba4f3_72 : decode cJ6_getChars_ba4f3 72 = .ok (.aload_n 2, 1) := by decide +kernel
theorem dJ6_getChars_ba4f3_73 : decode cJ6_getChars_ba4f3 73 = .ok (.iinc 5 (-1), 3) := by decide +kernel
theorem dJ6_getChars_ba4f3_76 : decode cJ6_getChars_ba4f3 76 = .ok (.iload 5, 2) := by decide +kernel
theorem dJ6_getChars_ba4f3_78 : decode cJ6_getChars_ba4f3 78 = .ok (.getstatic 83, 3) := by decide +kernel
theorem dJ6_getChars_ba4f3_81 : decode cJ6_getChars_ba4f3 81 = .ok (.iload_n 0, 1) := by decide +kernel
theorem dJ6_getChars_ba4f3_82 : decode cJ6_getChars_ba4f3 82 = .ok (.ineg, 1) := by decide +kernel
theorem dJ6_getChars_ba4f3_83 : decode cJ6_getChars_ba4f3 83 = .ok (.baload, 1) := by decide +kernel
theorem dJ6_getChars_ba4f3_84 : decode cJ6_getChars_ba4f3 84 = .ok (.bastore, 1) := by decide +kernel
theorem dJ6_getChars_ba4f3_85 : decode cJ6_getChars_ba4f3 85 = .ok (.iload_n 0, 1) := by decide +kernel
theorem dJ6_getChars_ba4f3_86 : decode cJ6_getChars_ba4f3 86 = .ok (.bipush (-9), 2) := by decide +kernel
theorem dJ6_getChars_ba4f3_88 : decode cJ6_getChars_ba4f3 88 = .ok (.if_icmp .ge 16, 3) := by decide +kernel
theorem dJ6_getChars_ba4f3_91 : decode cJ6_getChars_ba4f3 91 = .ok (.aload_n 2, 1) := by decide +kernel
theorem dJ6_getChars_ba4f3_92 : decode cJ6_getChars_ba4f3 92 = .ok (.iinc 5 (-1), 3) := by decide +kernel
theorem dJ6_getChars_ba4f3_95 : decode cJ6_getChars_ba4f3 95 = .ok (.iload 5, 2) := by decide +kernel
theorem dJ6_getChars_ba4f3_97 : decode cJ6_getChars_ba4f3 97 = .ok (.getstatic 87, 3) := by decide +kernel
theorem dJ6_getChars_ba4f3_100 : decode cJ6_getChars_ba4f3 100 = .ok (.iload_n 0, 1) := by decide +kernel
theorem dJ6_getChars_ba4f3_101 : decode cJ6_getChars_ba4f3 101 = .ok (.ineg, 1) := by decide +kernel
theorem dJ6_getChars_ba4f3_102 : decode cJ6_getChars_ba4f3 102 = .ok (.baload, 1) := by decide +kernel
theorem dJ6_getChars_ba4f3_103 : decode cJ6_getChars_ba4f3 103 = .ok (.bastore, 1) := by decide +kernel
theorem dJ6_getChars_ba4f3_104 : decode cJ6_getChars_ba4f3 104 = .ok (.iload 6, 2) := by decide +kernel
theorem dJ6_getChars_ba4f3_106 : decode cJ6_getChars_ba4f3 106 = .ok (.ifCond .eq 12, 3) := by decide +kernel
theorem dJ6_getChars_ba4f3_109 : decode cJ6_getChars_ba4f3 109 = .ok (.aload_n 2, 1) := by decide +kernel
theorem dJ6_getChars_ba4f3_110 : decode cJ6_getChars_ba4f3 110 = .ok (.iinc 5 (-1), 3) := by decide +kernel
theorem dJ6_getChars_ba4f3_113 : decode cJ6_getChars_ba4f3 113 = .ok (.iload 5, 2) := by decide +kernel
theorem dJ6_getChars_ba4f3_115 : decode cJ6_getChars_ba4f3 115 = .ok (.bipush 45, 2) := by decide +kernel
theorem dJ6_getChars_ba4f3_117 : decode cJ6_getChars_ba4f3 117 = .ok (.bastore, 1) := by decide +kernel
theorem dJ6_getChars_ba4f3_118 : decode cJ6_getChars_ba4f3 118 = .ok (.iload 5, 2) := by decide +kernel
theorem dJ6_getChars_ba4f3_120 : decode cJ6_getChars_ba4f3 120 = .ok (.ireturn, 1) := by decide +kernel
theorem ok_J6_getChars_ba4f3 : am_Ok M_J6_getChars_ba4f3 3 := ⟨kq_1023, kq_68, by decide +kernel, by decide +kernel, by decide +kernel, by decide +kernel⟩
def M_J4_toString_0e30d : AMeth := (yJ4_toString_0e30d, cJ4_toString_0e30d, 1, (some (.object "java/lang/String")), 5, 151)
theorem dJ4_toString_0e30d_0 : decode cJ4_toString_0e30d 0 = .ok (.new 18, 3) := by decide +kernel
theorem dJ4_toString_0e30d_3 : decode cJ4_toString_0e30d 3 = .ok (.dup, 1) := by decide +kernel
theorem dJ4_toString_0e30d_4 : decode cJ4_toString_0e30d 4 = .ok (.aload_n 0, 1) := by decide +kernel
theorem dJ4_toString_0e30d_5 : decode cJ4_toString_0e30d 5 = .ok (.invokespecial 137, 3) := by decide +kernel
theorem dJ4_toString_0e30d_8 : decode cJ4_toString_0e30d 8 = .ok (.areturn, 1) := by decide +kernel
theorem ok_J4_toString_0e30d : am_Ok M_J4_toString_0e30d 0 := ⟨kq_924, kq_59, by decide +kernel, by decide +kernel, by decide +kernel, by decide +kernel⟩
def M_J0_init_81219 : AMeth := (yJ0_init_81219, cJ0_init_81219, 2, none, 4, 130)
theorem dJ0_init_81219_0 : decode cJ0_init_81219 0 = .ok (.aload_n 0, 1) := by decide +kernel
theorem dJ0_init_81219_1 : decode cJ0_init_81219 1 = .ok (.aload_n 1, 1) := by decide +kernel
theorem dJ0_init_81219_2 : decode cJ0_init_81219 2 = .ok (.aconst_null, 1) := by decide +kernel
theorem dJ0_init_81219_3 : decode cJ0_init_81219 3 = .ok (.invokespecial 489, 3) := by decide +kernel
theorem dJ0_init_81219_6 : decode cJ0_init_81219 6 = .ok (.return_, 1) := by decide +kernel
theorem ok_J0_init_81219 : am_Ok M_J0_init_81219 1 := ⟨kq_929, kq_60, by decide +kernel, by decide +kernel, by decide +kernel, by decide +kernel⟩
def M_J0_init_db425 : AMeth := (yJ0_init_db425, cJ0_init_db425, 5, none, 3, 106)
theorem dJ0_init_db425_0 : decode cJ0_init_db425 0 = .ok (.aload_n 0, 1) := by decide +kernel
theorem dJ0_init_db425_1 : decode cJ0_init_db425 1 = .ok (.invokespecial 1, 3) := by decide +kernel
theorem dJ0_init_db425_4 : decode cJ0_init_db425 4 = .ok (.aload_n 1, 1) := by decide +kernel
theorem dJ0_init_db425_5 : decode cJ0_init_db425 5 = .ok (.invokevirtual 552, 3) := by decide +kernel
theorem dJ0_init_db425_8 : decode cJ0_init_db425 8 = .ok (.astore_n 3, 1) := by decide +kernel
theorem dJ0_init_db425_9 : decode cJ0_init_db425 9 = .ok (.aload_n 1, 1) := by decide +kernel
theorem dJ0_init_db425_10 : decode cJ0_init_db425 10 = .ok (.invokevirtual 549, 3) := by decide +kernel
theorem dJ0_init_db425_13 : decode cJ0_init_db425 13 = .ok (.istore 4, 2) := by decide +kernel
theorem dJ0_init_db425_15 : decode cJ0_init_db425 15 = .ok (.aload_n 1, 1) := by decide +kernel
theorem dJ0_init_db425_16 : decode cJ0_init_db425 16 = .ok (.invokevirtual 1047, 3) := by decide +kernel
theorem dJ0_init_db425_19 : decode cJ0_init_db425 19 = .ok (.ifCond .eq 22, 3) := by decide +kernel
theorem dJ0_init_db425_22 : decode cJ0_init_db425 22 = .ok (.aload_n 0, 1) := by decide +kernel
theorem dJ0_init_db425_23 : decode cJ0_init_db425 23 = .ok (.iconst 0, 1) := by decide +kernel
theorem dJ0_init_db425_24 : decode cJ0_init_db425 24 = .ok (.putfield 15, 3) := by decide +kernel
theorem dJ0_init_db425_27 : decode cJ0_init_db425 27 = .ok (.aload_n 0, 1) := by decide +kernel
theorem dJ0_init_db425_28 : decode cJ0_init_db425 28 = .ok (.aload_n 3, 1) := by decide +kernel
theorem dJ0_init_db425_29 : decode cJ0_init_db425 29 = .ok (.iconst 0, 1) := by decide +kernel
theorem dJ0_init_db425_30 : decode cJ0_init_db425 30 = .ok (.iload 4, 2) := by decide +kernel
theorem dJ0_init_db425_32 : decode cJ0_init_db425 32 = .ok (.invokestatic 54, 3) := by decide +kernel
theorem dJ0_init_db425_35 : decode cJ0_init_db425 35 = .ok (.putfield 9, 3) := by decide +kernel
theorem dJ0_init_db425_38 : decode cJ0_init_db425 38 = .ok (.goto 59, 3) := by decide +kernel
theorem dJ0_init_db425_41 : decode cJ0_init_db425 41 = .ok (.getstatic 38, 3) := by decide +kernel
theorem dJ0_init_db425_44 : decode cJ0_init_db425 44 = .ok (.ifCond .eq 35, 3) := by decide +kernel
theorem dJ0_init_db425_47 : decode cJ0_init_db425 47 = .ok (.aload_n 1, 1) := by decide +kernel
theorem dJ0_init_db425_48 : decode cJ0_init_db425 48 = .ok (.getfield 1048, 3) := by decide +kernel
theorem dJ0_init_db425_51 : decode cJ0_init_db425 51 = .ok (.ifCond .eq 28, 3) := by decide +kernel
theorem dJ0_init_db425_54 : decode cJ0_init_db425 54 = .ok (.aload_n 0, 1) := by decide +kernel
theorem dJ0_init_db425_55 : decode cJ0_init_db425 55 = .ok (.aload_n 3, 1) := by decide +kernel
theorem dJ0_init_db425_56 : decode cJ0_init_db425 56 = .ok (.iconst 0, 1) := by decide +kernel
theorem dJ0_init_db425_57 : decode cJ0_init_db425 57 = .ok (.iload 4, 2) := by decide +kernel
theorem dJ0_init_db425_59 : decode cJ0_init_db425 59 = .ok (.invokestatic 1051, 3) := by decide +kernel
theorem dJ0_init_db425_62 : decode cJ0_init_db425 62 = .ok (.putfield 9, 3) := by decide +kernel
theorem dJ0_init_db425_65 : decode cJ0_init_db425 65 = .ok (.aload_n 0, 1) := by decide +kernel
theorem dJ0_init_db425_66 : decode cJ0_init_db425 66 = .ok (.aload_n 0, 1) := by decide +kernel
theorem dJ0_init_db425_67 : decode cJ0_init_db425 67 = .ok (.getfield 9, 3) := by decide +kernel
theorem dJ0_init_db425_70 : decode cJ0_init_db425 70 = .ok (.iload 4, 2) := by decide +kernel
theorem dJ0_init_db425_72 : decode cJ0_init_db425 72 = .ok (.invokestatic 47, 3) := by decide +kernel
theorem dJ0_init_db425_75 : decode cJ0_init_db425 75 = .ok (.putfield 15, 3) := by decide +kernel
theorem dJ0_init_db425_78 : decode cJ0_init_db425 78 = .ok (.return_, 1) := by decide +kernel
theorem dJ0_init_db425_79 : decode cJ0_init_db425 79 = .ok (.aload_n 0, 1) := by decide +kernel
theorem dJ0_init_db425_80 : decode cJ0_init_db425 80 = .ok (.iconst 1, 1) := by decide +kernel
theorem dJ0_init_db425_81 : decode cJ0_init_db425 81 = .ok (.putfield 15, 3) := by decide +kernel
theorem dJ0_init_db425_84 : decode cJ0_init_db425 84 = .ok (.aload_n 0, 1) := by decide +kernel
theorem dJ0_init_db425_85 : decode cJ0_init_db425 85 = .ok (.aload_n 3, 1) := by decide +kernel
theorem dJ0_init_db425_86 : decode cJ0_init_db425 86 = .ok (.iconst 0, 1) := by decide +kernel
theorem dJ0_init_db425_87 : decode cJ0_init_db425 87 = .ok (.iload 4, 2) := by decide +kernel
theorem dJ0_init_db425_89 : decode cJ0_init_db425 89 = .ok (.iconst 1, 1) := by decide +kernel
theorem dJ0_init_db425_90 : decode cJ0_init_db425 90 = .ok (.ishl, 1) := by decide +kernel
theorem dJ0_init_db425_91 : decode cJ0_init_db425 91 = .ok (.invokestatic 54, 3) := by decide +kernel
theorem dJ0_init_db425_94 : decode cJ0_init_db425 94 = .ok (.putfield 9, 3) := by decide +kernel
theorem dJ0_init_db425_97 : decode cJ0_init_db425 97 = .ok (.return_, 1) := by decide +kernel
theorem ok_J0_init_db425 : am_Ok M_J0_init_db425 2 := ⟨kq_932, kq_60, by decide +kernel, by decide +kernel, by decide +kernel, by decide +kernel⟩
def M_J5_getValue_6d5f1 : AMeth := (yJ5_getValue_6d5f1, cJ5_getValue_6d5f1, 1, (some (.array .byte)), 0, 0)
theorem dJ5_getValue_6d5f1_0 : decode cJ5_getValue_6d5f1 0 = .ok (.aload_n 0, 1) := by decide +kernel
theorem dJ5_getValue_6d5f1_1 : decode cJ5_getValue_6d5f1 1 = .ok (.getfield 15, 3) := by decide +kernel
theorem dJ5_getValue_6d5f1_4 : decode cJ5_getValue_6d5f1 4 = .ok (.areturn, 1) := by decide +kernel
theorem ok_J5_getValue_6d5f1 : am_Ok M_J5_getValue_6d5f1 0 := ⟨kq_938, kq_58, by decide +kernel, by decide +kernel, by decide +kernel, by decide +kernel⟩
def M_J4_length_8abf5 : AMeth := (yJ4_length_8abf5, cJ4_length_8abf5, 1, (some .int), 1, 20)
theorem dJ4_length_8abf5_0 : decode cJ4_length_8abf5 0 = .ok (.aload_n 0, 1) := by decide +kernel
theorem dJ4_length_8abf5_1 : decode cJ4_length_8abf5 1 = .ok (.invokespecial 343, 3) := by decide +kernel
theorem dJ4_length_8abf5_4 : decode cJ4_length_8abf5 4 = .ok (.ireturn, 1) := by decide +kernel
theorem ok_J4_length_8abf5 : am_Ok M_J4_length_8abf5 0 := ⟨kq_944, kq_59, by decide +kernel, by decide +kernel, by decide +kernel, by decide +kernel⟩
def M_J5_length_8abf5 : AMeth := (yJ5_length_8abf5, cJ5_length_8abf5, 1, (some .int), 0, 0)
theorem dJ5_length_8abf5_0 : decode cJ5_length_8abf5 0 = .ok (.aload_n 0, 1) := by decide +kernel
theorem dJ5_length_8abf5_1 : decode cJ5_length_8abf5 1 = .ok (.getfield 79, 3) := by decide +kernel
theorem dJ5_length_8abf5_4 : decode cJ5_length_8abf5 4 = .ok (.ireturn, 1) := by decide +kernel
theorem ok_J5_length_8abf5 : am_Ok M_J5_length_8abf5 0 := ⟨kq_946, kq_58, by decide +kernel, by decide +kernel, by decide +kernel, by decide +kernel⟩
def M_J7_copyOfRange_39247 : AMeth := (yJ7_copyOfRange_39247, cJ7_copyOfRange_39247, 3, (some (.array .byte)), 2, 84)
theorem dJ7_copyOfRange_39247_0 : decode cJ7_copyOfRange_39247 0 = .ok (.iload_n 1, 1) := by decide +kernel
theorem dJ7_copyOfRange_39247_1 : decode cJ7_copyOfRange_39247 1 = .ok (.ifCond .ne 9, 3) := by decide +kernel
theorem dJ7_copyOfRange_39247_4 : decode cJ7_copyOfRange_39247 4 = .ok (.iload_n 2, 1) := by decide +kernel
theorem dJ7_copyOfRange_39247_5 : decode cJ7_copyOfRange_39247 5 = .ok (.aload_n 0, 1) := by decide +kernel
theorem dJ7_copyOfRange_39247_6 : decode cJ7_copyOfRange_39247 6 = .ok (.arraylength, 1) := by decide +kernel
theorem dJ7_copyOfRange_39247_7 : decode cJ7_copyOfRange_39247 7 = .ok (.if_icmp .eq 10, 3) := by decide +kernel
theorem dJ7_copyOfRange_39247_10 : decode cJ7_copyOfRange_39247 10 = .ok (.aload_n 0, 1) := by decide +kernel
theorem dJ7_copyOfRange_39247_11 : decode cJ7_copyOfRange_39247 11 = .ok (.iload_n 1, 1) := by decide +kernel
theorem dJ7_copyOfRange_39247_12 : decode cJ7_copyOfRange_39247 12 = .ok (.iload_n 2, 1) := by decide +kernel
theorem dJ7_copyOfRange_39247_13 : decode cJ7_copyOfRange_39247 13 = .ok (.invokestatic 339, 3) := by decide +kernel
theorem dJ7_copyOfRange_39247_16 : decode cJ7_copyOfRange_39247 16 = .ok (.areturn, 1) := by decide +kernel
theorem dJ7_copyOfRange_39247_17 : decode cJ7_copyOfRange_39247 17 = .ok (.aload_n 0, 1) := by decide +kernel
theorem dJ7_copyOfRange_39247_18 : decode cJ7_copyOfRange_39247 18 = .ok (.invokevirtual 310, 3) := by decide +kernel
theorem dJ7_copyOfRange_39247_21 : decode cJ7_copyOfRange_39247 21 = .ok (.checkcast 311, 3) := by decide +kernel
theorem dJ7_copyOfRange_39247_24 : decode cJ7_copyOfRange_39247 24 = .ok (.areturn, 1) := by decide +kernel
theorem ok_J7_copyOfRange_39247 : am_Ok M_J7_copyOfRange_39247 3 := ⟨kq_950, kq_63, by decide +kernel, by decide +kernel, by decide +kernel, by decide +kernel⟩
def M_J7_copyOfRangeByte_39247 : AMeth := (yJ7_copyOfRangeByte_39247, cJ7_copyOfRangeByte_39247, 5, (some (.array .byte)), 1, 60)
theorem dJ7_copyOfRangeByte_39247_0 : decode cJ7_copyOfRangeByte_39247 0 = .ok (.iload_n 1, 1) := by decide +kernel
theorem dJ7_copyOfRangeByte_39247_1 : decode cJ7_copyOfRangeByte_39247 1 = .ok (.iload_n 2, 1) := by decide +kernel
theorem dJ7_copyOfRangeByte_39247_2 : decode cJ7_copyOfRangeByte_39247 2 = .ok (.invokestatic 343, 3) := by decide +kernel
theorem dJ7_copyOfRangeByte_39247_5 : decode cJ7_copyOfRangeByte_39247 5 = .ok (.iload_n 2, 1) := by decide +kernel
theorem dJ7_copyOfRangeByte_39247_6 : decode cJ7_copyOfRangeByte_39247 6 = .ok (.iload_n 1, 1) := by decide +kernel
theorem dJ7_copyOfRangeByte_39247_7 : decode cJ7_copyOfRangeByte_39247 7 = .ok (.isub, 1) := by decide +kernel
theorem dJ7_copyOfRangeByte_39247_8 : decode cJ7_copyOfRangeByte_39247 8 = .ok (.istore_n 3, 1) := by decide +kernel
theorem dJ7_copyOfRangeByte_39247_9 : decode cJ7_copyOfRangeByte_39247 9 = .ok (.iload_n 3, 1) := by decide +kernel
theorem dJ7_copyOfRangeByte_39247_10 : decode cJ7_copyOfRangeByte_39247 10 = .ok (.newarray .byte, 2) := by decide +kernel
theorem dJ7_copyOfRangeByte_39247_12 : decode cJ7_copyOfRangeByte_39247 12 = .ok (.astore 4, 2) := by decide +kernel
theorem dJ7_copyOfRangeByte_39247_14 : decode cJ7_copyOfRangeByte_39247 14 = .ok (.aload_n 0, 1) := by decide +kernel
theorem dJ7_copyOfRangeByte_39247_15 : decode cJ7_copyOfRangeByte_39247 15 = .ok (.iload_n 1, 1) := by decide +kernel
theorem dJ7_copyOfRangeByte_39247_16 : decode cJ7_copyOfRangeByte_39247 16 = .ok (.aload 4, 2) := by decide +kernel
theorem dJ7_copyOfRangeByte_39247_18 : decode cJ7_copyOfRangeByte_39247 18 = .ok (.iconst 0, 1) := by decide +kernel
theorem dJ7_copyOfRangeByte_39247_19 : decode cJ7_copyOfRangeByte_39247 19 = .ok (.aload_n 0, 1) := by decide +kernel
theorem dJ7_copyOfRangeByte_39247_20 : decode cJ7_copyOfRangeByte_39247 20 = .ok (.arraylength, 1) := by decide +kernel
theorem dJ7_copyOfRangeByte_39247_21 : decode cJ7_copyOfRangeByte_39247 21 = .ok (.iload_n 1, 1) := by decide +kernel
theorem dJ7_copyOfRangeByte_39247_22 : decode cJ7_copyOfRangeByte_39247 22 = .ok (.isub, 1) := by decide +kernel
theorem dJ7_copyOfRangeByte_39247_23 : decode cJ7_copyOfRangeByte_39247 23 = .ok (.iload_n 3, 1) := by decide +kernel
theorem dJ7_copyOfRangeByte_39247_24 : decode cJ7_copyOfRangeByte_39247 24 = .ok (.invokestatic 304, 3) := by decide +kernel
theorem dJ7_copyOfRangeByte_39247_27 : decode cJ7_copyOfRangeByte_39247 27 = .ok (.invokestatic 150, 3) := by decide +kernel
theorem dJ7_copyOfRangeByte_39247_30 : decode cJ7_copyOfRangeByte_39247 30 = .ok (.aload 4, 2) := by decide +kernel
theorem dJ7_copyOfRangeByte_39247_32 : decode cJ7_copyOfRangeByte_39247 32 = .ok (.areturn, 1) := by decide +kernel
theorem ok_J7_copyOfRangeByte_39247 : am_Ok M_J7_copyOfRangeByte_39247 3 := ⟨kq_953, kq_63, by decide +kernel, by decide +kernel, by decide +kernel, by decide +kernel⟩
def M_J7_checkLength_df160 : AMeth := (yJ7_checkLength_df160, cJ7_checkLength_df160, 2, none, 0, 0)
theorem dJ7_checkLength_df160_0 : decode cJ7_checkLength_df160 0 = .ok (.iload_n 1, 1) := by decide +kernel
theorem dJ7_checkLength_df160_1 : decode cJ7_checkLength_df160 1 = .ok (.iload_n 0, 1) := by decide +kernel
theorem dJ7_checkLength_df160_2 : decode cJ7_checkLength_df160 2 = .ok (.if_icmp .ge 35, 3) := by decide +kernel
theorem dJ7_checkLength_df160_5 : decode cJ7_checkLength_df160 5 = .ok (.new 43, 3) := by decide +kernel
theorem dJ7_checkLength_df160_8 : decode cJ7_checkLength_df160 8 = .ok (.dup, 1) := by decide +kernel
theorem dJ7_checkLength_df160_9 : decode cJ7_checkLength_df160 9 = .ok (.new 45, 3) := by decide +kernel
theorem dJ7_checkLength_df160_12 : decode cJ7_checkLength_df160 12 = .ok (.dup, 1) := by decide +kernel
theorem dJ7_checkLength_df160_13 : decode cJ7_checkLength_df160 13 = .ok (.invokespecial 47, 3) := by decide +kernel
theorem dJ7_checkLength_df160_16 : decode cJ7_checkLength_df160 16 = .ok (.iload_n 0, 1) := by decide +kernel
theorem dJ7_checkLength_df160_17 : decode cJ7_checkLength_df160 17 = .ok (.invokevirtual 54, 3) := by decide +kernel
theorem dJ7_checkLength_df160_20 : decode cJ7_checkLength_df160 20 = .ok (.ldc_w 337, 3) := by decide +kernel
theorem dJ7_checkLength_df160_23 : decode cJ7_checkLength_df160 23 = .ok (.invokevirtual 50, 3) := by decide +kernel
theorem dJ7_checkLength_df160_26 : decode cJ7_checkLength_df160 26 = .ok (.iload_n 1, 1) := by decide +kernel
theorem dJ7_checkLength_df160_27 : decode cJ7_checkLength_df160 27 = .ok (.invokevirtual 54, 3) := by decide +kernel
theorem dJ7_checkLength_df160_30 : decode cJ7_checkLength_df160 30 = .ok (.invokevirtual 61, 3) := by decide +kernel
theorem dJ7_checkLength_df160_33 : decode cJ7_checkLength_df160 33 = .ok (.invokespecial 65, 3) := by decide +kernel
theorem dJ7_checkLength_df160_36 : decode cJ7_checkLength_df160 36 = .ok (.athrow, 1) := by decide +kernel
theorem dJ7_checkLength_df160_37 : decode cJ7_checkLength_df160 37 = .ok (.return_, 1) := by decide +kernel
theorem ok_J7_checkLength_df160 : am_Ok M_J7_checkLength_df160 2 := ⟨kq_956, kq_63, by decide +kernel, by decide +kernel, by decide +kernel, by decide +kernel⟩
def M_J5_isLatin1_aae02 : AMeth := (yJ5_isLatin1_aae02, cJ5_isLatin1_aae02, 1, (some .boolean), 0, 0)
theorem dJ5_isLatin1_aae02_0 : decode cJ5_isLatin1_aae02 0 = .ok (.getstatic 18, 3) := by decide +kernel
theorem dJ5_isLatin1_aae02_3 : decode cJ5_isLatin1_aae02 3 = .ok (.ifCond .eq 14, 3) := by decide +kernel
theorem dJ5_isLatin1_aae02_6 : decode cJ5_isLatin1_aae02 6 = .ok (.aload_n 0, 1) := by decide +kernel
theorem dJ5_isLatin1_aae02_7 : decode cJ5_isLatin1_aae02 7 = .ok (.getfield 22, 3) := by decide +kernel
theorem dJ5_isLatin1_aae02_10 : decode cJ5_isLatin1_aae02 10 = .ok (.ifCond .ne 7, 3) := by decide +kernel
theorem dJ5_isLatin1_aae02_13 : decode cJ5_isLatin1_aae02 13 = .ok (.iconst 1, 1) := by decide +kernel
theorem dJ5_isLatin1_aae02_14 : decode cJ5_isLatin1_aae02 14 = .ok (.goto 4, 3) := by decide +kernel
theorem dJ5_isLatin1_aae02_17 : decode cJ5_isLatin1_aae02 17 = .ok (.iconst 0, 1) := by decide +kernel
theorem dJ5_isLatin1_aae02_18 : decode cJ5_isLatin1_aae02 18 = .ok (.ireturn, 1) := by decide +kernel
theorem ok_J5_isLatin1_aae02 : am_Ok M_J5_isLatin1_aae02 0 := ⟨kq_869, kq_58, by decide +kernel, by decide +kernel, by decide +kernel, by decide +kernel⟩
theorem fJ5_init_d00df_14 : am_Fp M_J5_init_d00df 14 9 0 := ⟨15, (RJ4, TJ4, 4), dJ5_init_d00df_14, rfl, Nat.le_of_ble_eq_true rfl, kq_812, rfl⟩
theorem fJ5_init_d00df_19 : am_Fp M_J5_init_d00df 19 9 1 := ⟨22, (RJ4, TJ4, 4), dJ5_init_d00df_19, rfl, Nat.le_of_ble_eq_true rfl, kq_813, rfl⟩
theorem fJ5_init_d00df_30 : am_Fp M_J5_init_d00df 30 9 0 := ⟨15, (RJ4, TJ4, 4), dJ5_init_d00df_30, rfl, Nat.le_of_ble_eq_true rfl, kq_812, rfl⟩
theorem fJ5_init_d00df_35 : am_Fp M_J5_init_d00df 35 9 1 := ⟨22, (RJ4, TJ4, 4), dJ5_init_d00df_35, rfl, Nat.le_of_ble_eq_true rfl, kq_813, rfl⟩
theorem fJ5_append_cf1ce_16 : am_Fg M_J5_append_cf1ce 16 9 3 := ⟨79, (RJ4, TJ4, 4), dJ5_append_cf1ce_16, rfl, Nat.le_of_ble_eq_true rfl, kq_815⟩
theorem fJ5_append_cf1ce_26 : am_Fg M_J5_append_cf1ce 26 9 3 := ⟨79, (RJ4, TJ4, 4), dJ5_append_cf1ce_26, rfl, Nat.le_of_ble_eq_true rfl, kq_815⟩
theorem fJ5_append_cf1ce_35 : am_Fg M_J5_append_cf1ce 35 9 3 := ⟨79, (RJ4, TJ4, 4), dJ5_append_cf1ce_35, rfl, Nat.le_of_ble_eq_true rfl, kq_815⟩
theorem fJ5_append_cf1ce_40 : am_Fp M_J5_append_cf1ce 40 9 3 := ⟨79, (RJ4, TJ4, 4), dJ5_append_cf1ce_40, rfl, Nat.le_of_ble_eq_true rfl, kq_815, rfl⟩
theorem fJ5_ensureCapacityInternal_d00df_1 : am_Fg M_J5_ensureCapacityInternal_d00df 1 9 0 := ⟨15, (RJ4, TJ4, 4), dJ5_ensureCapacityInternal_d00df_1, rfl, Nat.le_of_ble_eq_true rfl, kq_812⟩
theorem fJ5_ensureCapacityInternal_d00df_6 : am_Fg M_J5_ensureCapacityInternal_d00df 6 9 1 := ⟨22, (RJ4, TJ4, 4), dJ5_ensureCapacityInternal_d00df_6, rfl, Nat.le_of_ble_eq_true rfl, kq_813⟩
theorem fJ5_ensureCapacityInternal_d00df_19 : am_Fg M_J5_ensureCapacityInternal_d00df 19 9 0 := ⟨15, (RJ4, TJ4, 4), dJ5_ensureCapacityInternal_d00df_19, rfl, Nat.le_of_ble_eq_true rfl, kq_812⟩
theorem fJ5_ensureCapacityInternal_d00df_28 : am_Fg M_J5_ensureCapacityInternal_d00df 28 9 1 := ⟨22, (RJ4, TJ4, 4), dJ5_ensureCapacityInternal_d00df_28, rfl, Nat.le_of_ble_eq_true rfl, kq_813⟩
theorem fJ5_ensureCapacityInternal_d00df_35 : am_Fp M_J5_ensureCapacityInternal_d00df 35 9 0 := ⟨15, (RJ4, TJ4, 4), dJ5_ensureCapacityInternal_d00df_35, rfl, Nat.le_of_ble_eq_true rfl, kq_812, rfl⟩
theorem fJ5_newCapacity_0f7a4_1 : am_Fg M_J5_newCapacity_0f7a4 1 9 0 := ⟨15, (RJ4, TJ4, 4), dJ5_newCapacity_0f7a4_1, rfl, Nat.le_of_ble_eq_true rfl, kq_812⟩
theorem fJ5_newCapacity_0f7a4_8 : am_Fg M_J5_newCapacity_0f7a4 8 9 1 := ⟨22, (RJ4, TJ4, 4), dJ5_newCapacity_0f7a4_8, rfl, Nat.le_of_ble_eq_true rfl, kq_813⟩
theorem fJ5_newCapacity_0f7a4_24 : am_Fg M_J5_newCapacity_0f7a4 24 9 1 := ⟨22, (RJ4, TJ4, 4), dJ5_newCapacity_0f7a4_24, rfl, Nat.le_of_ble_eq_true rfl, kq_813⟩
theorem fJ5_newCapacity_0f7a4_54 : am_Fg M_J5_newCapacity_0f7a4 54 9 1 := ⟨22, (RJ4, TJ4, 4), dJ5_newCapacity_0f7a4_54, rfl, Nat.le_of_ble_eq_true rfl, kq_813⟩
theorem fJ5_putStringAt_47b60_7 : am_Fg M_J5_putStringAt_47b60 7 9 0 := ⟨15, (RJ4, TJ4, 4), dJ5_putStringAt_47b60_7, rfl, Nat.le_of_ble_eq_true rfl, kq_812⟩
theorem fJ5_putStringAt_47b60_12 : am_Fg M_J5_putStringAt_47b60 12 9 1 := ⟨22, (RJ4, TJ4, 4), dJ5_putStringAt_47b60_12, rfl, Nat.le_of_ble_eq_true rfl, kq_813⟩
theorem fJ5_inflateIfNeededFor_a7421_7 : am_Fg M_J5_inflateIfNeededFor_a7421 7 9 1 := ⟨22, (RJ4, TJ4, 4), dJ5_inflateIfNeededFor_a7421_7, rfl, Nat.le_of_ble_eq_true rfl, kq_813⟩
theorem fJ0_getBytes_840e7_9 : am_Fg M_J0_getBytes_840e7 9 8 0 := ⟨9, (RJ0, TJ0, 4), dJ0_getBytes_840e7_9, rfl, Nat.le_of_ble_eq_true rfl, kq_967⟩
theorem fJ0_getBytes_840e7_18 : am_Fg M_J0_getBytes_840e7 18 8 0 := ⟨9, (RJ0, TJ0, 4), dJ0_getBytes_840e7_18, rfl, Nat.le_of_ble_eq_true rfl, kq_967⟩
theorem fJ0_getBytes_840e7_29 : am_Fg M_J0_getBytes_840e7 29 8 0 := ⟨9, (RJ0, TJ0, 4), dJ0_getBytes_840e7_29, rfl, Nat.le_of_ble_eq_true rfl, kq_967⟩
theorem fJ0_getBytes_840e7_36 : am_Fg M_J0_getBytes_840e7 36 8 0 := ⟨9, (RJ0, TJ0, 4), dJ0_getBytes_840e7_36, rfl, Nat.le_of_ble_eq_true rfl, kq_967⟩
theorem fJ5_append_c97b9_1 : am_Fg M_J5_append_c97b9 1 9 3 := ⟨79, (RJ4, TJ4, 4), dJ5_append_c97b9_1, rfl, Nat.le_of_ble_eq_true rfl, kq_815⟩
theorem fJ5_append_c97b9_27 : am_Fg M_J5_append_c97b9 27 9 0 := ⟨15, (RJ4, TJ4, 4), dJ5_append_c97b9_27, rfl, Nat.le_of_ble_eq_true rfl, kq_812⟩
theorem fJ5_append_c97b9_41 : am_Fg M_J5_append_c97b9 41 9 0 := ⟨15, (RJ4, TJ4, 4), dJ5_append_c97b9_41, rfl, Nat.le_of_ble_eq_true rfl, kq_812⟩
theorem fJ5_append_c97b9_50 : am_Fp M_J5_append_c97b9 50 9 3 := ⟨79, (RJ4, TJ4, 4), dJ5_append_c97b9_50, rfl, Nat.le_of_ble_eq_true rfl, kq_815, rfl⟩
theorem fJ0_init_db425_24 : am_Ff M_J0_init_db425 24 8 1 := ⟨15, (RJ0, TJ0, 4), dJ0_init_db425_24, rfl, Nat.le_of_ble_eq_true rfl, kq_968, rfl, rfl⟩
theorem fJ0_init_db425_35 : am_Ff M_J0_init_db425 35 8 0 := ⟨9, (RJ0, TJ0, 4), dJ0_init_db425_35, rfl, Nat.le_of_ble_eq_true rfl, kq_967, rfl, rfl⟩
theorem fJ0_init_db425_62 : am_Ff M_J0_init_db425 62 8 0 := ⟨9, (RJ0, TJ0, 4), dJ0_init_db425_62, rfl, Nat.le_of_ble_eq_true rfl, kq_967, rfl, rfl⟩
theorem fJ0_init_db425_67 : am_Fg M_J0_init_db425 67 8 0 := ⟨9, (RJ0, TJ0, 4), dJ0_init_db425_67, rfl, Nat.le_of_ble_eq_true rfl, kq_967⟩
theorem fJ0_init_db425_75 : am_Ff M_J0_init_db425 75 8 1 := ⟨15, (RJ0, TJ0, 4), dJ0_init_db425_75, rfl, Nat.le_of_ble_eq_true rfl, kq_968, rfl, rfl⟩
theorem fJ0_init_db425_81 : am_Ff M_J0_init_db425 81 8 1 := ⟨15, (RJ0, TJ0, 4), dJ0_init_db425_81, rfl, Nat.le_of_ble_eq_true rfl, kq_968, rfl, rfl⟩
theorem fJ0_init_db425_94 : am_Ff M_J0_init_db425 94 8 0 := ⟨9, (RJ0, TJ0, 4), dJ0_init_db425_94, rfl, Nat.le_of_ble_eq_true rfl, kq_967, rfl, rfl⟩
theorem fJ5_getValue_6d5f1_1 : am_Fg M_J5_getValue_6d5f1 1 9 0 := ⟨15, (RJ4, TJ4, 4), dJ5_getValue_6d5f1_1, rfl, Nat.le_of_ble_eq_true rfl, kq_812⟩
theorem fJ5_length_8abf5_1 : am_Fg M_J5_length_8abf5 1 9 3 := ⟨79, (RJ4, TJ4, 4), dJ5_length_8abf5_1, rfl, Nat.le_of_ble_eq_true rfl, kq_815⟩
theorem fJ5_isLatin1_aae02_7 : am_Fg M_J5_isLatin1_aae02 7 9 1 := ⟨22, (RJ4, TJ4, 4), dJ5_isLatin1_aae02_7, rfl, Nat.le_of_ble_eq_true rfl, kq_813⟩
def M_JO_init : AMeth := ((⟨"java/lang/Object", "<init>", "()V"⟩ : MethodName), object_method_1_code, 1, none, 0, 0)
theorem dJO_init_0 : decode object_method_1_code 0 = .ok (.return_, 1) := by decide +kernel
theorem fJ4_init_da8c8_3 : g_Ci M_J4_init_da8c8 3 M_J5_init_d00df 1 := ⟨1, dJ4_init_da8c8_3, kq_800, kq_801, rfl, rfl, ok_J5_init_d00df⟩
theorem fJ4_append_15ec4_2 : g_Cu M_J4_append_15ec4 2 M_J5_append_cf1ce 1 := ⟨29, dJ4_append_15ec4_2, kq_829, kq_1234, kq_824, kq_830, by decide, ok_J5_append_cf1ce⟩
theorem fJ4_append_bf812_2 : g_Cu M_J4_append_bf812 2 M_J5_append_c97b9 1 := ⟨53, dJ4_append_bf812_2, kq_1015, kq_1241, kq_824, kq_1016, by decide, ok_J5_append_c97b9⟩
theorem fJ5_append_cf1ce_10 : g_Cw M_J5_append_cf1ce 10 "java/lang/String" M_J_len 0 := ⟨32, dJ5_append_cf1ce_10, kq_885, kq_413, kq_414, ok_J_len⟩
theorem fJ5_append_cf1ce_21 : g_Cw M_J5_append_cf1ce 21 "java/lang/StringBuilder" M_J5_ensureCapacityInternal_d00df 1 := ⟨100, dJ5_append_cf1ce_21, kq_836, kq_838, (tw_ex 0 rfl rfl), ok_J5_ensureCapacityInternal_d00df⟩
theorem fJ5_append_cf1ce_30 : g_Cw M_J5_append_cf1ce 30 "java/lang/StringBuilder" M_J5_putStringAt_47b60 2 := ⟨208, dJ5_append_cf1ce_30, kq_886, kq_888, (tw_ex 2 rfl rfl), ok_J5_putStringAt_47b60⟩
theorem fJ5_ensureCapacityInternal_d00df_24 : g_Cw M_J5_ensureCapacityInternal_d00df 24 "java/lang/StringBuilder" M_J5_newCapacity_0f7a4 1 := ⟨104, dJ5_ensureCapacityInternal_d00df_24, kq_840, kq_842, (tw_ex 1 rfl rfl), ok_J5_newCapacity_0f7a4⟩
theorem fJ5_ensureCapacityInternal_d00df_32 : g_Cs M_J5_ensureCapacityInternal_d00df 32 M_J7_copyOf_9075b 2 := ⟨108, dJ5_ensureCapacityInternal_d00df_32, kq_853, kq_854, ok_J7_copyOf_9075b⟩
theorem fJ5_newCapacity_0f7a4_29 : g_Cs M_J5_newCapacity_0f7a4 29 M_J8_newLength_cabcc 3 := ⟨114, dJ5_newCapacity_0f7a4_29, kq_844, kq_845, ok_J8_newLength_cabcc⟩
theorem fJ8_newLength_cabcc_3 : am_Cm M_J8_newLength_cabcc 3 Lib.Math.max.name Lib.Math.max.code 2 .int := ⟨194, dJ8_newLength_cabcc_3, kq_847, kq_542, kq_56, kq_543, Nat.le_of_ble_eq_true rfl, Nat.le_of_ble_eq_true rfl⟩
theorem fJ7_copyOf_9075b_25 : am_Cm M_J7_copyOf_9075b 25 Lib.Math.min.name Lib.Math.min.code 2 .int := ⟨304, dJ7_copyOf_9075b_25, kq_863, kq_233, kq_56, kq_234, Nat.le_of_ble_eq_true rfl, Nat.le_of_ble_eq_true rfl⟩
theorem fJ7_copyOf_9075b_28 : g_Cc M_J7_copyOf_9075b 28 := ⟨150, dJ7_copyOf_9075b_28, kq_864, kq_611, kq_610, kq_64⟩
theorem fJ5_putStringAt_47b60_2 : g_Cw M_J5_putStringAt_47b60 2 "java/lang/StringBuilder" M_J5_inflateIfNeededFor_a7421 1 := ⟨397, dJ5_putStringAt_47b60_2, kq_890, kq_892, (tw_ex 3 rfl rfl), ok_J5_inflateIfNeededFor_a7421⟩
theorem fJ5_putStringAt_47b60_15 : g_Cw M_J5_putStringAt_47b60 15 "java/lang/String" M_J0_getBytes_840e7 3 := ⟨399, dJ5_putStringAt_47b60_15, kq_914, kq_915, kq_916, ok_J0_getBytes_840e7⟩
theorem fJ5_inflateIfNeededFor_a7421_11 : g_Cw M_J5_inflateIfNeededFor_a7421 11 "java/lang/String" M_J_coder 0 := ⟨40, dJ5_inflateIfNeededFor_a7421_11, kq_894, kq_417, kq_418, ok_J_coder⟩
theorem fJ0_getBytes_840e7_1 : g_Cw M_J0_getBytes_840e7 1 "java/lang/String" M_J_coder 0 := ⟨335, dJ0_getBytes_840e7_1, kq_416, kq_417, kq_418, ok_J_coder⟩
theorem fJ0_getBytes_840e7_22 : g_Cc M_J0_getBytes_840e7 22 := ⟨212, dJ0_getBytes_840e7_22, kq_918, kq_611, kq_610, kq_64⟩
theorem fJ5_append_c97b9_7 : g_Cs M_J5_append_c97b9 7 M_J6_stringSize_0f7a4 1 := ⟨245, dJ5_append_c97b9_7, kq_1018, kq_1019, ok_J6_stringSize_0f7a4⟩
theorem fJ5_append_c97b9_14 : g_Cw M_J5_append_c97b9 14 "java/lang/StringBuilder" M_J5_ensureCapacityInternal_d00df 1 := ⟨100, dJ5_append_c97b9_14, kq_836, kq_838, (tw_ex 0 rfl rfl), ok_J5_ensureCapacityInternal_d00df⟩
theorem fJ5_append_c97b9_18 : g_Cw M_J5_append_c97b9 18 "java/lang/StringBuilder" M_J5_isLatin1_aae02 0 := ⟨83, dJ5_append_c97b9_18, kq_865, kq_866, kq_868, ok_J5_isLatin1_aae02⟩
theorem fJ5_append_c97b9_30 : g_Cs M_J5_append_c97b9 30 M_J6_getChars_ba4f3 3 := ⟨248, dJ5_append_c97b9_30, kq_1021, kq_1022, ok_J6_getChars_ba4f3⟩
theorem fJ4_toString_0e30d_5 : g_Ci M_J4_toString_0e30d 5 M_J0_init_81219 1 := ⟨137, dJ4_toString_0e30d_5, kq_927, kq_928, rfl, rfl, ok_J0_init_81219⟩
theorem fJ0_init_81219_3 : g_Ci M_J0_init_81219 3 M_J0_init_db425 2 := ⟨489, dJ0_init_81219_3, kq_930, kq_931, rfl, rfl, ok_J0_init_db425⟩
theorem fJ0_init_db425_5 : g_Cw M_J0_init_db425 5 "java/lang/StringBuilder" M_J5_getValue_6d5f1 0 := ⟨552, dJ0_init_db425_5, kq_934, kq_935, kq_937, ok_J5_getValue_6d5f1⟩
theorem fJ0_init_db425_16 : g_Cw M_J0_init_db425 16 "java/lang/StringBuilder" M_J5_isLatin1_aae02 0 := ⟨1047, dJ0_init_db425_16, kq_947, kq_866, kq_868, ok_J5_isLatin1_aae02⟩
theorem fJ0_init_db425_32 : g_Cs M_J0_init_db425 32 M_J7_copyOfRange_39247 3 := ⟨54, dJ0_init_db425_32, kq_948, kq_949, ok_J7_copyOfRange_39247⟩
theorem fJ0_init_db425_10 : g_Co M_J0_init_db425 10 "java/lang/StringBuilder" yJ5_length_8abf5 M_J4_length_8abf5 0 := ⟨549, dJ0_init_db425_10, kq_939, kq_941, kq_940, kq_942, kq_943, ok_J4_length_8abf5, ⟨by decide, by decide, by decide +kernel⟩, _, _, _, kq_946⟩
theorem fJ4_length_8abf5_1 : g_Cu M_J4_length_8abf5 1 M_J5_length_8abf5 0 := ⟨343, dJ4_length_8abf5_1, kq_945, kq_941, kq_824, kq_940, by decide, ok_J5_length_8abf5⟩
theorem fJ7_copyOfRange_39247_13 : g_Cs M_J7_copyOfRange_39247 13 M_J7_copyOfRangeByte_39247 3 := ⟨339, dJ7_copyOfRange_39247_13, kq_951, kq_952, ok_J7_copyOfRangeByte_39247⟩
theorem fJ7_copyOfRangeByte_39247_2 : g_Cs M_J7_copyOfRangeByte_39247 2 M_J7_checkLength_df160 2 := ⟨343, dJ7_copyOfRangeByte_39247_2, kq_954, kq_955, ok_J7_checkLength_df160⟩
theorem fJ7_copyOfRangeByte_39247_24 : am_Cm M_J7_copyOfRangeByte_39247 24 Lib.Math.min.name Lib.Math.min.code 2 .int := ⟨304, dJ7_copyOfRangeByte_39247_24, kq_863, kq_233, kq_56, kq_234, Nat.le_of_ble_eq_true rfl, Nat.le_of_ble_eq_true rfl⟩
theorem fJ7_copyOfRangeByte_39247_27 : g_Cc M_J7_copyOfRangeByte_39247 27 := ⟨150, dJ7_copyOfRangeByte_39247_27, kq_864, kq_611, kq_610, kq_64⟩
