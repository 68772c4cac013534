/-! ===== The law's text(), put(): its calls of builders and strings ===== -/
set_option maxRecDepth 20000 in
theorem kt_423 : (Cond.instanceMethod ({ cls := "java/lang/String", name := "charAt", desc := "(I)C" } : MethodName)) ∈ TW := tw_in 423 (by decide +kernel) rfl
set_option maxRecDepth 20000 in
theorem kt_424 : (Cond.selects "java/lang/String" ({ cls := "java/lang/String", name := "charAt", desc := "(I)C" } : MethodName) ({ cls := "java/lang/String", name := "charAt", desc := "(I)C" } : MethodName)) ∈ TW := tw_in 424 (by decide +kernel) rfl
set_option maxRecDepth 20000 in
theorem kt_794 : (Cond.methodLink "BeamSetterLaw" (8 : Nat) ({ cls := "java/lang/String", name := "length", desc := "()I" } : MethodName)) ∈ TW := tw_in 794 (by decide +kernel) rfl
set_option maxRecDepth 20000 in
theorem kt_795 : (Cond.classLink "BeamSetterLaw" (14 : Nat) "java/lang/StringBuilder") ∈ TW := tw_in 795 (by decide +kernel) rfl
set_option maxRecDepth 20000 in
theorem kt_796 : (Cond.instantiable "java/lang/StringBuilder" (4 : Nat)) ∈ TW := tw_in 796 (by decide +kernel) rfl
set_option maxRecDepth 20000 in
theorem kt_797 : (Cond.methodLink "BeamSetterLaw" (16 : Nat) ({ cls := "java/lang/StringBuilder", name := "<init>", desc := "()V" } : MethodName)) ∈ TW := tw_in 797 (by decide +kernel) rfl
set_option maxRecDepth 20000 in
theorem kt_798 : (Cond.instanceMethod ({ cls := "java/lang/StringBuilder", name := "<init>", desc := "()V" } : MethodName)) ∈ TW := tw_in 798 (by decide +kernel) rfl
set_option maxRecDepth 20000 in
theorem kt_825 : (Cond.methodLink "BeamSetterLaw" (17 : Nat) ({ cls := "java/lang/StringBuilder", name := "append", desc := "(Ljava/lang/String;)Ljava/lang/StringBuilder;" } : MethodName)) ∈ TW := tw_in 825 (by decide +kernel) rfl
set_option maxRecDepth 20000 in
theorem kt_826 : (Cond.instanceMethod ({ cls := "java/lang/StringBuilder", name := "append", desc := "(Ljava/lang/String;)Ljava/lang/StringBuilder;" } : MethodName)) ∈ TW := tw_in 826 (by decide +kernel) rfl
set_option maxRecDepth 20000 in
theorem kt_827 : (Cond.selects "java/lang/StringBuilder" ({ cls := "java/lang/StringBuilder", name := "append", desc := "(Ljava/lang/String;)Ljava/lang/StringBuilder;" } : MethodName) ({ cls := "java/lang/StringBuilder", name := "append", desc := "(Ljava/lang/String;)Ljava/lang/StringBuilder;" } : MethodName)) ∈ TW := tw_in 827 (by decide +kernel) rfl
set_option maxRecDepth 20000 in
theorem kt_921 : (Cond.methodLink "BeamSetterLaw" (23 : Nat) ({ cls := "java/lang/StringBuilder", name := "toString", desc := "()Ljava/lang/String;" } : MethodName)) ∈ TW := tw_in 921 (by decide +kernel) rfl
set_option maxRecDepth 20000 in
theorem kt_922 : (Cond.instanceMethod ({ cls := "java/lang/StringBuilder", name := "toString", desc := "()Ljava/lang/String;" } : MethodName)) ∈ TW := tw_in 922 (by decide +kernel) rfl
set_option maxRecDepth 20000 in
theorem kt_923 : (Cond.selects "java/lang/StringBuilder" ({ cls := "java/lang/StringBuilder", name := "toString", desc := "()Ljava/lang/String;" } : MethodName) ({ cls := "java/lang/StringBuilder", name := "toString", desc := "()Ljava/lang/String;" } : MethodName)) ∈ TW := tw_in 923 (by decide +kernel) rfl
set_option maxRecDepth 20000 in
theorem kt_978 : (Cond.methodLink "BeamSetterLaw" (27 : Nat) ({ cls := "java/lang/String", name := "charAt", desc := "(I)C" } : MethodName)) ∈ TW := tw_in 978 (by decide +kernel) rfl
set_option maxRecDepth 20000 in
theorem kt_1011 : (Cond.methodLink "BeamSetterLaw" (64 : Nat) ({ cls := "java/lang/StringBuilder", name := "append", desc := "(I)Ljava/lang/StringBuilder;" } : MethodName)) ∈ TW := tw_in 1011 (by decide +kernel) rfl
set_option maxRecDepth 20000 in
theorem kt_1012 : (Cond.instanceMethod ({ cls := "java/lang/StringBuilder", name := "append", desc := "(I)Ljava/lang/StringBuilder;" } : MethodName)) ∈ TW := tw_in 1012 (by decide +kernel) rfl
set_option maxRecDepth 20000 in
theorem kt_1013 : (Cond.selects "java/lang/StringBuilder" ({ cls := "java/lang/StringBuilder", name := "append", desc := "(I)Ljava/lang/StringBuilder;" } : MethodName) ({ cls := "java/lang/StringBuilder", name := "append", desc := "(I)Ljava/lang/StringBuilder;" } : MethodName)) ∈ TW := tw_in 1013 (by decide +kernel) rfl
theorem fL_text_0 : am_Fn M_L_text 0 9 := ⟨14, (RJ4, TJ4, 4), dL_text_0, rfl, kt_795, kt_796, kq_59, by decide +kernel⟩
theorem fL_text_77 : am_Fn M_L_text 77 9 := ⟨14, (RJ4, TJ4, 4), dL_text_77, rfl, kt_795, kt_796, kq_59, by decide +kernel⟩
theorem fL_text_4 : g_Ci M_L_text 4 M_J4_init_da8c8 0 := ⟨16, dL_text_4, kt_797, kt_798, rfl, rfl, ok_J4_init_da8c8⟩
theorem fL_text_81 : g_Ci M_L_text 81 M_J4_init_da8c8 0 := ⟨16, dL_text_81, kt_797, kt_798, rfl, rfl, ok_J4_init_da8c8⟩
theorem fL_text_9 : g_Cw M_L_text 9 "java/lang/StringBuilder" M_J4_append_15ec4 1 := ⟨17, dL_text_9, kt_825, kt_826, kt_827, ok_J4_append_15ec4⟩
theorem fL_text_21 : g_Cw M_L_text 21 "java/lang/StringBuilder" M_J4_append_15ec4 1 := ⟨17, dL_text_21, kt_825, kt_826, kt_827, ok_J4_append_15ec4⟩
theorem fL_text_34 : g_Cw M_L_text 34 "java/lang/StringBuilder" M_J4_append_15ec4 1 := ⟨17, dL_text_34, kt_825, kt_826, kt_827, ok_J4_append_15ec4⟩
theorem fL_text_47 : g_Cw M_L_text 47 "java/lang/StringBuilder" M_J4_append_15ec4 1 := ⟨17, dL_text_47, kt_825, kt_826, kt_827, ok_J4_append_15ec4⟩
theorem fL_text_60 : g_Cw M_L_text 60 "java/lang/StringBuilder" M_J4_append_15ec4 1 := ⟨17, dL_text_60, kt_825, kt_826, kt_827, ok_J4_append_15ec4⟩
theorem fL_text_85 : g_Cw M_L_text 85 "java/lang/StringBuilder" M_J4_append_15ec4 1 := ⟨17, dL_text_85, kt_825, kt_826, kt_827, ok_J4_append_15ec4⟩
theorem fL_text_90 : g_Cw M_L_text 90 "java/lang/StringBuilder" M_J4_append_15ec4 1 := ⟨17, dL_text_90, kt_825, kt_826, kt_827, ok_J4_append_15ec4⟩
theorem fL_text_105 : g_Cw M_L_text 105 "java/lang/StringBuilder" M_J4_append_15ec4 1 := ⟨17, dL_text_105, kt_825, kt_826, kt_827, ok_J4_append_15ec4⟩
theorem fL_text_123 : g_Cw M_L_text 123 "java/lang/StringBuilder" M_J4_append_15ec4 1 := ⟨17, dL_text_123, kt_825, kt_826, kt_827, ok_J4_append_15ec4⟩
theorem fL_text_139 : g_Cw M_L_text 139 "java/lang/StringBuilder" M_J4_append_15ec4 1 := ⟨17, dL_text_139, kt_825, kt_826, kt_827, ok_J4_append_15ec4⟩
theorem fL_text_16 : g_Cw M_L_text 16 "java/lang/StringBuilder" M_J4_append_bf812 1 := ⟨64, dL_text_16, kt_1011, kt_1012, kt_1013, ok_J4_append_bf812⟩
theorem fL_text_29 : g_Cw M_L_text 29 "java/lang/StringBuilder" M_J4_append_bf812 1 := ⟨64, dL_text_29, kt_1011, kt_1012, kt_1013, ok_J4_append_bf812⟩
theorem fL_text_42 : g_Cw M_L_text 42 "java/lang/StringBuilder" M_J4_append_bf812 1 := ⟨64, dL_text_42, kt_1011, kt_1012, kt_1013, ok_J4_append_bf812⟩
theorem fL_text_55 : g_Cw M_L_text 55 "java/lang/StringBuilder" M_J4_append_bf812 1 := ⟨64, dL_text_55, kt_1011, kt_1012, kt_1013, ok_J4_append_bf812⟩
theorem fL_text_100 : g_Cw M_L_text 100 "java/lang/StringBuilder" M_J4_append_bf812 1 := ⟨64, dL_text_100, kt_1011, kt_1012, kt_1013, ok_J4_append_bf812⟩
theorem fL_text_134 : g_Cw M_L_text 134 "java/lang/StringBuilder" M_J4_append_bf812 1 := ⟨64, dL_text_134, kt_1011, kt_1012, kt_1013, ok_J4_append_bf812⟩
theorem fL_text_63 : g_Cw M_L_text 63 "java/lang/StringBuilder" M_J4_toString_0e30d 0 := ⟨23, dL_text_63, kt_921, kt_922, kt_923, ok_J4_toString_0e30d⟩
theorem fL_text_142 : g_Cw M_L_text 142 "java/lang/StringBuilder" M_J4_toString_0e30d 0 := ⟨23, dL_text_142, kt_921, kt_922, kt_923, ok_J4_toString_0e30d⟩
theorem fL_put_12 : am_Fn M_L_put 12 9 := ⟨14, (RJ4, TJ4, 4), dL_put_12, rfl, kt_795, kt_796, kq_59, by decide +kernel⟩
theorem fL_put_16 : g_Ci M_L_put 16 M_J4_init_da8c8 0 := ⟨16, dL_put_16, kt_797, kt_798, rfl, rfl, ok_J4_init_da8c8⟩
theorem fL_put_20 : g_Cw M_L_put 20 "java/lang/StringBuilder" M_J4_append_15ec4 1 := ⟨17, dL_put_20, kt_825, kt_826, kt_827, ok_J4_append_15ec4⟩
theorem fL_put_25 : g_Cw M_L_put 25 "java/lang/StringBuilder" M_J4_append_15ec4 1 := ⟨17, dL_put_25, kt_825, kt_826, kt_827, ok_J4_append_15ec4⟩
theorem fL_put_28 : g_Cw M_L_put 28 "java/lang/StringBuilder" M_J4_toString_0e30d 0 := ⟨23, dL_put_28, kt_921, kt_922, kt_923, ok_J4_toString_0e30d⟩
theorem fL_put_3 : g_Cw M_L_put 3 "java/lang/String" M_J_len 0 := ⟨8, dL_put_3, kt_794, kq_413, kq_414, ok_J_len⟩
theorem fL_put_39 : g_Cw M_L_put 39 "java/lang/String" M_J_len 0 := ⟨8, dL_put_39, kt_794, kq_413, kq_414, ok_J_len⟩
theorem fL_put_73 : g_Cw M_L_put 73 "java/lang/String" M_J_ca 1 := ⟨27, dL_put_73, kt_978, kt_423, kt_424, ok_J_ca⟩
theorem fL_law_25 : g_Cw M_L_law 25 "java/lang/String" M_J_len 0 := ⟨8, dL_law_25, kt_794, kq_413, kq_414, ok_J_len⟩
