set_option maxRecDepth 20000 in
theorem k_1055 : (Cond.static ({ cls := "BeamSetterLaw", name := "judged", desc := "([I[I[I[III)[J" } : MethodName)) ∈ TW := tw_in 1055 (by decide +kernel) rfl
set_option maxRecDepth 20000 in
theorem k_1056 : (Cond.code ({ cls := "BeamSetterLaw", name := "judged", desc := "([I[I[I[III)[J" } : MethodName) method_14_code (25 : Nat) (some (FieldType.array FieldType.long))) ∈ TW := List.mem_filter.mpr ⟨List.mem_append_left _ (List.mem_append_right _ (List.mem_append_right _ (List.mem_append_right _ (List.mem_append_right _ (List.mem_append_right _ (List.mem_append_left _ (List.mem_of_getElem? (i := 48) rfl))))))), rfl⟩
set_option maxRecDepth 20000 in
theorem k_1057 : (Cond.constantLong "BeamSetterLaw" (97 : Nat) (2 : Int64)) ∈ TW := tw_in 1057 (by decide +kernel) rfl
set_option maxRecDepth 20000 in
theorem k_1058 : (Cond.constantLong "BeamSetterLaw" (99 : Nat) (44 : Int64)) ∈ TW := tw_in 1058 (by decide +kernel) rfl
set_option maxRecDepth 20000 in
theorem k_1059 : (Cond.methodLink "BeamSetterLaw" (101 : Nat) ({ cls := "BeamSetterLaw", name := "isKneed", desc := "([I)Z" } : MethodName)) ∈ TW := tw_in 1059 (by decide +kernel) rfl
set_option maxRecDepth 20000 in
theorem k_1060 : (Cond.static ({ cls := "BeamSetterLaw", name := "isKneed", desc := "([I)Z" } : MethodName)) ∈ TW := tw_in 1060 (by decide +kernel) rfl
set_option maxRecDepth 20000 in
theorem k_1061 : (Cond.code ({ cls := "BeamSetterLaw", name := "isKneed", desc := "([I)Z" } : MethodName) method_13_code (5 : Nat) (some FieldType.boolean)) ∈ TW := tw_in 1061 (by decide +kernel) rfl
set_option maxRecDepth 20000 in
theorem k_1062 : (Cond.methodLink "BeamSetterLaw" (105 : Nat) ({ cls := "java/lang/Integer", name := "signum", desc := "(I)I" } : MethodName)) ∈ TW := tw_in 1062 (by decide +kernel) rfl
set_option maxRecDepth 20000 in
theorem k_1063 : (Cond.static ({ cls := "java/lang/Integer", name := "signum", desc := "(I)I" } : MethodName)) ∈ TW := tw_in 1063 (by decide +kernel) rfl
set_option maxRecDepth 20000 in
theorem k_1064 : (Cond.code ({ cls := "java/lang/Integer", name := "signum", desc := "(I)I" } : MethodName) prog_19_method_56_code (1 : Nat) (some FieldType.int)) ∈ TW := tw_in 1064 (by decide +kernel) rfl
set_option maxRecDepth 20000 in
theorem k_1065 : (Cond.methodLink "BeamSetterLaw" (110 : Nat) ({ cls := "java/lang/Math", name := "floorMod", desc := "(II)I" } : MethodName)) ∈ TW := tw_in 1065 (by decide +kernel) rfl
set_option maxRecDepth 20000 in
theorem k_1066 : (Cond.static ({ cls := "java/lang/Math", name := "floorMod", desc := "(II)I" } : MethodName)) ∈ TW := tw_in 1066 (by decide +kernel) rfl
set_option maxRecDepth 20000 in
theorem k_1067 : (Cond.code ({ cls := "java/lang/Math", name := "floorMod", desc := "(II)I" } : MethodName) prog_20_method_50_code (3 : Nat) (some FieldType.int)) ∈ TW := tw_in 1067 (by decide +kernel) rfl
set_option maxRecDepth 20000 in
theorem k_1068 : (Cond.constantLong "BeamSetterLaw" (113 : Nat) (25 : Int64)) ∈ TW := tw_in 1068 (by decide +kernel) rfl
set_option maxRecDepth 20000 in
theorem k_1069 : (Cond.constantLong "BeamSetterLaw" (115 : Nat) (8 : Int64)) ∈ TW := tw_in 1069 (by decide +kernel) rfl
set_option maxRecDepth 20000 in
theorem k_1070 : (Cond.methodLink "BeamSetterLaw" (125 : Nat) ({ cls := "BeamSetterLaw", name := "isAhead", desc := "([JII[JIII)Z" } : MethodName)) ∈ TW := tw_in 1070 (by decide +kernel) rfl
set_option maxRecDepth 20000 in
theorem k_1071 : (Cond.static ({ cls := "BeamSetterLaw", name := "isAhead", desc := "([JII[JIII)Z" } : MethodName)) ∈ TW := tw_in 1071 (by decide +kernel) rfl
set_option maxRecDepth 20000 in
theorem k_1072 : (Cond.code ({ cls := "BeamSetterLaw", name := "isAhead", desc := "([JII[JIII)Z" } : MethodName) method_15_code (11 : Nat) (some FieldType.boolean)) ∈ TW := tw_in 1072 (by decide +kernel) rfl
set_option maxRecDepth 20000 in
theorem k_1073 : (Cond.methodLink "BeamSetterLaw" (129 : Nat) ({ cls := "BeamSetter", name := "direction", desc := "(I)I" } : MethodName)) ∈ TW := tw_in 1073 (by decide +kernel) rfl
set_option maxRecDepth 20000 in
theorem k_1074 : (Cond.instanceMethod ({ cls := "BeamSetter", name := "direction", desc := "(I)I" } : MethodName)) ∈ TW := tw_in 1074 (by decide +kernel) rfl
set_option maxRecDepth 20000 in
theorem k_1075 : (Cond.selects "BeamSetter" ({ cls := "BeamSetter", name := "direction", desc := "(I)I" } : MethodName) ({ cls := "BeamSetter", name := "direction", desc := "(I)I" } : MethodName)) ∈ TW := tw_in 1075 (by decide +kernel) rfl
set_option maxRecDepth 20000 in
theorem k_1076 : (Cond.code ({ cls := "BeamSetter", name := "direction", desc := "(I)I" } : MethodName) prog_1_method_7_code (2 : Nat) (some FieldType.int)) ∈ TW := tw_in 1076 (by decide +kernel) rfl
set_option maxRecDepth 20000 in
theorem k_1077 : (Cond.methodLink "BeamSetter" (151 : Nat) ({ cls := "BeamSetter", name := "loadAround", desc := "(I)I" } : MethodName)) ∈ TW := tw_in 1077 (by decide +kernel) rfl
set_option maxRecDepth 20000 in
theorem k_1079 : (Cond.instanceMethod ({ cls := "BeamSetter", name := "loadAround", desc := "(I)I" } : MethodName)) ∈ TW := tw_in 1079 (by decide +kernel) rfl
set_option maxRecDepth 20000 in
theorem k_1080 : (Cond.code ({ cls := "BeamSetter", name := "loadAround", desc := "(I)I" } : MethodName) prog_1_method_47_code (3 : Nat) (some FieldType.int)) ∈ TW := tw_in 1080 (by decide +kernel) rfl
set_option maxRecDepth 20000 in
theorem k_1081 : (Cond.methodLink "BeamSetterLaw" (134 : Nat) ({ cls := "BeamSetter", name := "group", desc := "(II)I" } : MethodName)) ∈ TW := tw_in 1081 (by decide +kernel) rfl
set_option maxRecDepth 20000 in
theorem k_1082 : (Cond.instanceMethod ({ cls := "BeamSetter", name := "group", desc := "(II)I" } : MethodName)) ∈ TW := tw_in 1082 (by decide +kernel) rfl
set_option maxRecDepth 20000 in
theorem k_1083 : (Cond.selects "BeamSetter" ({ cls := "BeamSetter", name := "group", desc := "(II)I" } : MethodName) ({ cls := "BeamSetter", name := "group", desc := "(II)I" } : MethodName)) ∈ TW := tw_in 1083 (by decide +kernel) rfl
set_option maxRecDepth 20000 in
theorem k_1084 : (Cond.code ({ cls := "BeamSetter", name := "group", desc := "(II)I" } : MethodName) prog_1_method_10_code (3 : Nat) (some FieldType.int)) ∈ TW := tw_in 1084 (by decide +kernel) rfl
set_option maxRecDepth 20000 in
theorem k_1151 : (Cond.methodLink "BeamSetter" (190 : Nat) ({ cls := "BeamSetter$Group", name := "mostBeams", desc := "()I" } : MethodName)) ∈ TW := tw_in 1151 (by decide +kernel) rfl
set_option maxRecDepth 20000 in
theorem k_1152 : (Cond.instanceMethod ({ cls := "BeamSetter$Group", name := "mostBeams", desc := "()I" } : MethodName)) ∈ TW := tw_in 1152 (by decide +kernel) rfl
set_option maxRecDepth 20000 in
theorem k_1153 : (Cond.selects "BeamSetter$Group" ({ cls := "BeamSetter$Group", name := "mostBeams", desc := "()I" } : MethodName) ({ cls := "BeamSetter$Group", name := "mostBeams", desc := "()I" } : MethodName)) ∈ TW := tw_in 1153 (by decide +kernel) rfl
set_option maxRecDepth 20000 in
theorem k_1154 : (Cond.code ({ cls := "BeamSetter$Group", name := "mostBeams", desc := "()I" } : MethodName) prog_2_method_21_code (3 : Nat) (some FieldType.int)) ∈ TW := tw_in 1154 (by decide +kernel) rfl
set_option maxRecDepth 20000 in
theorem k_1155 : (Cond.methodLink "BeamSetter" (193 : Nat) ({ cls := "BeamSetter$Group", name := "gather", desc := "()I" } : MethodName)) ∈ TW := tw_in 1155 (by decide +kernel) rfl
set_option maxRecDepth 20000 in
theorem k_1156 : (Cond.instanceMethod ({ cls := "BeamSetter$Group", name := "gather", desc := "()I" } : MethodName)) ∈ TW := tw_in 1156 (by decide +kernel) rfl
set_option maxRecDepth 20000 in
theorem k_1157 : (Cond.selects "BeamSetter$Group" ({ cls := "BeamSetter$Group", name := "gather", desc := "()I" } : MethodName) ({ cls := "BeamSetter$Group", name := "gather", desc := "()I" } : MethodName)) ∈ TW := tw_in 1157 (by decide +kernel) rfl
set_option maxRecDepth 20000 in
theorem k_1158 : (Cond.code ({ cls := "BeamSetter$Group", name := "gather", desc := "()I" } : MethodName) prog_2_method_36_code (4 : Nat) (some FieldType.int)) ∈ TW := tw_in 1158 (by decide +kernel) rfl
set_option maxRecDepth 20000 in
theorem k_1159 : (Cond.methodLink "BeamSetter" (196 : Nat) ({ cls := "BeamSetter$Group", name := "howManyUp", desc := "()I" } : MethodName)) ∈ TW := tw_in 1159 (by decide +kernel) rfl
set_option maxRecDepth 20000 in
theorem k_1160 : (Cond.instanceMethod ({ cls := "BeamSetter$Group", name := "howManyUp", desc := "()I" } : MethodName)) ∈ TW := tw_in 1160 (by decide +kernel) rfl
set_option maxRecDepth 20000 in
theorem k_1161 : (Cond.selects "BeamSetter$Group" ({ cls := "BeamSetter$Group", name := "howManyUp", desc := "()I" } : MethodName) ({ cls := "BeamSetter$Group", name := "howManyUp", desc := "()I" } : MethodName)) ∈ TW := tw_in 1161 (by decide +kernel) rfl
set_option maxRecDepth 20000 in
theorem k_1162 : (Cond.code ({ cls := "BeamSetter$Group", name := "howManyUp", desc := "()I" } : MethodName) prog_2_method_22_code (3 : Nat) (some FieldType.int)) ∈ TW := tw_in 1162 (by decide +kernel) rfl
set_option maxRecDepth 20000 in
theorem k_1179 : (Cond.constant "BeamSetterLaw" (140 : Nat) (-1000000 : Int32)) ∈ TW := tw_in 1179 (by decide +kernel) rfl
set_option maxRecDepth 20000 in
theorem k_1180 : (Cond.methodLink "BeamSetterLaw" (141 : Nat) ({ cls := "BeamSetter", name := "total", desc := "(I)I" } : MethodName)) ∈ TW := tw_in 1180 (by decide +kernel) rfl
set_option maxRecDepth 20000 in
theorem k_1181 : (Cond.instanceMethod ({ cls := "BeamSetter", name := "total", desc := "(I)I" } : MethodName)) ∈ TW := tw_in 1181 (by decide +kernel) rfl
set_option maxRecDepth 20000 in
theorem k_1182 : (Cond.selects "BeamSetter" ({ cls := "BeamSetter", name := "total", desc := "(I)I" } : MethodName) ({ cls := "BeamSetter", name := "total", desc := "(I)I" } : MethodName)) ∈ TW := tw_in 1182 (by decide +kernel) rfl
set_option maxRecDepth 20000 in
theorem k_1183 : (Cond.code ({ cls := "BeamSetter", name := "total", desc := "(I)I" } : MethodName) prog_1_method_20_code (2 : Nat) (some FieldType.int)) ∈ TW := tw_in 1183 (by decide +kernel) rfl
set_option maxRecDepth 20000 in
theorem k_1184 : (Cond.methodLink "BeamSetter" (291 : Nat) ({ cls := "BeamSetter$Totals", name := "isWhat", desc := "(I)Z" } : MethodName)) ∈ TW := tw_in 1184 (by decide +kernel) rfl
set_option maxRecDepth 20000 in
theorem k_1185 : (Cond.static ({ cls := "BeamSetter$Totals", name := "isWhat", desc := "(I)Z" } : MethodName)) ∈ TW := tw_in 1185 (by decide +kernel) rfl
set_option maxRecDepth 20000 in
theorem k_1186 : (Cond.code ({ cls := "BeamSetter$Totals", name := "isWhat", desc := "(I)Z" } : MethodName) prog_8_method_2_code (1 : Nat) (some FieldType.boolean)) ∈ TW := tw_in 1186 (by decide +kernel) rfl
set_option maxRecDepth 20000 in
theorem k_1187 : (Cond.methodLink "BeamSetter" (297 : Nat) ({ cls := "BeamSetter$Totals", name := "take", desc := "(LBeamSetter$Piece;[IILBeamSetter$Group;)V" } : MethodName)) ∈ TW := tw_in 1187 (by decide +kernel) rfl
set_option maxRecDepth 20000 in
theorem k_1188 : (Cond.instanceMethod ({ cls := "BeamSetter$Totals", name := "take", desc := "(LBeamSetter$Piece;[IILBeamSetter$Group;)V" } : MethodName)) ∈ TW := tw_in 1188 (by decide +kernel) rfl
set_option maxRecDepth 20000 in
theorem k_1189 : (Cond.selects "BeamSetter$Totals" ({ cls := "BeamSetter$Totals", name := "take", desc := "(LBeamSetter$Piece;[IILBeamSetter$Group;)V" } : MethodName) ({ cls := "BeamSetter$Totals", name := "take", desc := "(LBeamSetter$Piece;[IILBeamSetter$Group;)V" } : MethodName)) ∈ TW := tw_in 1189 (by decide +kernel) rfl
set_option maxRecDepth 20000 in
theorem k_1190 : (Cond.code ({ cls := "BeamSetter$Totals", name := "take", desc := "(LBeamSetter$Piece;[IILBeamSetter$Group;)V" } : MethodName) prog_8_method_3_code (10 : Nat) (none : Option FieldType)) ∈ TW := tw_in 1190 (by decide +kernel) rfl
set_option maxRecDepth 20000 in
theorem k_1191 : (Cond.methodLink "BeamSetter$Totals" (36 : Nat) ({ cls := "BeamSetter$Group", name := "load", desc := "(LBeamSetter$Piece;[IIII)V" } : MethodName)) ∈ TW := tw_in 1191 (by decide +kernel) rfl
set_option maxRecDepth 20000 in
theorem k_1192 : (Cond.methodLink "BeamSetter$Totals" (45 : Nat) ({ cls := "BeamSetter$Group", name := "findBest", desc := "()J" } : MethodName)) ∈ TW := tw_in 1192 (by decide +kernel) rfl
set_option maxRecDepth 20000 in
theorem k_1193 : (Cond.constantLong "BeamSetter$Totals" (49 : Nat) (9223372036854775807 : Int64)) ∈ TW := tw_in 1193 (by decide +kernel) rfl
set_option maxRecDepth 20000 in
theorem k_1194 : (Cond.methodLink "BeamSetter$Totals" (51 : Nat) ({ cls := "BeamSetter$Group", name := "uglinessOf", desc := "(J)I" } : MethodName)) ∈ TW := tw_in 1194 (by decide +kernel) rfl
set_option maxRecDepth 20000 in
theorem k_1195 : (Cond.methodLink "BeamSetter$Totals" (55 : Nat) ({ cls := "java/lang/Math", name := "max", desc := "(II)I" } : MethodName)) ∈ TW := tw_in 1195 (by decide +kernel) rfl
set_option maxRecDepth 20000 in
theorem k_1196 : (Cond.methodLink "BeamSetter" (301 : Nat) ({ cls := "BeamSetter$Totals", name := "tell", desc := "(I)I" } : MethodName)) ∈ TW := tw_in 1196 (by decide +kernel) rfl
set_option maxRecDepth 20000 in
theorem k_1197 : (Cond.instanceMethod ({ cls := "BeamSetter$Totals", name := "tell", desc := "(I)I" } : MethodName)) ∈ TW := tw_in 1197 (by decide +kernel) rfl
set_option maxRecDepth 20000 in
theorem k_1198 : (Cond.selects "BeamSetter$Totals" ({ cls := "BeamSetter$Totals", name := "tell", desc := "(I)I" } : MethodName) ({ cls := "BeamSetter$Totals", name := "tell", desc := "(I)I" } : MethodName)) ∈ TW := tw_in 1198 (by decide +kernel) rfl
set_option maxRecDepth 20000 in
theorem k_1199 : (Cond.code ({ cls := "BeamSetter$Totals", name := "tell", desc := "(I)I" } : MethodName) prog_8_method_4_code (2 : Nat) (some FieldType.int)) ∈ TW := tw_in 1199 (by decide +kernel) rfl
set_option maxRecDepth 20000 in
theorem k_1200 : (Cond.methodLink "BeamSetterLaw" (144 : Nat) ({ cls := "BeamSetter", name := "ugliness", desc := "(IIII)I" } : MethodName)) ∈ TW := tw_in 1200 (by decide +kernel) rfl
set_option maxRecDepth 20000 in
theorem k_1201 : (Cond.instanceMethod ({ cls := "BeamSetter", name := "ugliness", desc := "(IIII)I" } : MethodName)) ∈ TW := tw_in 1201 (by decide +kernel) rfl
set_option maxRecDepth 20000 in
theorem k_1202 : (Cond.selects "BeamSetter" ({ cls := "BeamSetter", name := "ugliness", desc := "(IIII)I" } : MethodName) ({ cls := "BeamSetter", name := "ugliness", desc := "(IIII)I" } : MethodName)) ∈ TW := tw_in 1202 (by decide +kernel) rfl
set_option maxRecDepth 20000 in
theorem k_1203 : (Cond.code ({ cls := "BeamSetter", name := "ugliness", desc := "(IIII)I" } : MethodName) prog_1_method_13_code (5 : Nat) (some FieldType.int)) ∈ TW := tw_in 1203 (by decide +kernel) rfl
set_option maxRecDepth 20000 in
theorem k_1204 : (Cond.methodLink "BeamSetter" (205 : Nat) ({ cls := "BeamSetter$Group", name := "isSetting", desc := "(II)Z" } : MethodName)) ∈ TW := tw_in 1204 (by decide +kernel) rfl
set_option maxRecDepth 20000 in
theorem k_1205 : (Cond.static ({ cls := "BeamSetter$Group", name := "isSetting", desc := "(II)Z" } : MethodName)) ∈ TW := tw_in 1205 (by decide +kernel) rfl
set_option maxRecDepth 20000 in
theorem k_1206 : (Cond.code ({ cls := "BeamSetter$Group", name := "isSetting", desc := "(II)Z" } : MethodName) prog_2_method_10_code (2 : Nat) (some FieldType.boolean)) ∈ TW := tw_in 1206 (by decide +kernel) rfl
set_option maxRecDepth 20000 in
theorem k_1207 : (Cond.methodLink "BeamSetter" (209 : Nat) ({ cls := "BeamSetter$Group", name := "allows", desc := "(II)Z" } : MethodName)) ∈ TW := tw_in 1207 (by decide +kernel) rfl
set_option maxRecDepth 20000 in
theorem k_1208 : (Cond.instanceMethod ({ cls := "BeamSetter$Group", name := "allows", desc := "(II)Z" } : MethodName)) ∈ TW := tw_in 1208 (by decide +kernel) rfl
set_option maxRecDepth 20000 in
theorem k_1209 : (Cond.selects "BeamSetter$Group" ({ cls := "BeamSetter$Group", name := "allows", desc := "(II)Z" } : MethodName) ({ cls := "BeamSetter$Group", name := "allows", desc := "(II)Z" } : MethodName)) ∈ TW := tw_in 1209 (by decide +kernel) rfl
set_option maxRecDepth 20000 in
theorem k_1210 : (Cond.code ({ cls := "BeamSetter$Group", name := "allows", desc := "(II)Z" } : MethodName) prog_2_method_12_code (3 : Nat) (some FieldType.boolean)) ∈ TW := tw_in 1210 (by decide +kernel) rfl
set_option maxRecDepth 20000 in
theorem k_1211 : (Cond.methodLink "BeamSetter" (212 : Nat) ({ cls := "BeamSetter$Group", name := "tellSetting", desc := "(III)I" } : MethodName)) ∈ TW := tw_in 1211 (by decide +kernel) rfl
set_option maxRecDepth 20000 in
theorem k_1212 : (Cond.constantLong "BeamSetterLaw" (148 : Nat) (-2 : Int64)) ∈ TW := tw_in 1212 (by decide +kernel) rfl
set_option maxRecDepth 20000 in
theorem k_1213 : (Cond.methodLink "BeamSetterLaw" (150 : Nat) ({ cls := "BeamSetter", name := "rank", desc := "(III)I" } : MethodName)) ∈ TW := tw_in 1213 (by decide +kernel) rfl
set_option maxRecDepth 20000 in
theorem k_1214 : (Cond.instanceMethod ({ cls := "BeamSetter", name := "rank", desc := "(III)I" } : MethodName)) ∈ TW := tw_in 1214 (by decide +kernel) rfl
set_option maxRecDepth 20000 in
theorem k_1215 : (Cond.selects "BeamSetter" ({ cls := "BeamSetter", name := "rank", desc := "(III)I" } : MethodName) ({ cls := "BeamSetter", name := "rank", desc := "(III)I" } : MethodName)) ∈ TW := tw_in 1215 (by decide +kernel) rfl
set_option maxRecDepth 20000 in
theorem k_1216 : (Cond.code ({ cls := "BeamSetter", name := "rank", desc := "(III)I" } : MethodName) prog_1_method_16_code (4 : Nat) (some FieldType.int)) ∈ TW := tw_in 1216 (by decide +kernel) rfl
set_option maxRecDepth 20000 in
theorem k_1217 : (Cond.methodLink "BeamSetter" (230 : Nat) ({ cls := "BeamSetter$Group", name := "keyOfSetting", desc := "(II)J" } : MethodName)) ∈ TW := tw_in 1217 (by decide +kernel) rfl
set_option maxRecDepth 20000 in
theorem k_1218 : (Cond.instanceMethod ({ cls := "BeamSetter$Group", name := "keyOfSetting", desc := "(II)J" } : MethodName)) ∈ TW := tw_in 1218 (by decide +kernel) rfl
set_option maxRecDepth 20000 in
theorem k_1219 : (Cond.selects "BeamSetter$Group" ({ cls := "BeamSetter$Group", name := "keyOfSetting", desc := "(II)J" } : MethodName) ({ cls := "BeamSetter$Group", name := "keyOfSetting", desc := "(II)J" } : MethodName)) ∈ TW := tw_in 1219 (by decide +kernel) rfl
set_option maxRecDepth 20000 in
theorem k_1220 : (Cond.code ({ cls := "BeamSetter$Group", name := "keyOfSetting", desc := "(II)J" } : MethodName) prog_2_method_24_code (3 : Nat) (some FieldType.long)) ∈ TW := tw_in 1220 (by decide +kernel) rfl
set_option maxRecDepth 20000 in
theorem k_1221 : (Cond.methodLink "BeamSetter" (234 : Nat) ({ cls := "BeamSetter$Group", name := "rankOf", desc := "(J)I" } : MethodName)) ∈ TW := tw_in 1221 (by decide +kernel) rfl
set_option maxRecDepth 20000 in
theorem k_1222 : (Cond.instanceMethod ({ cls := "BeamSetter$Group", name := "rankOf", desc := "(J)I" } : MethodName)) ∈ TW := tw_in 1222 (by decide +kernel) rfl
set_option maxRecDepth 20000 in
theorem k_1223 : (Cond.selects "BeamSetter$Group" ({ cls := "BeamSetter$Group", name := "rankOf", desc := "(J)I" } : MethodName) ({ cls := "BeamSetter$Group", name := "rankOf", desc := "(J)I" } : MethodName)) ∈ TW := tw_in 1223 (by decide +kernel) rfl
set_option maxRecDepth 20000 in
theorem k_1224 : (Cond.code ({ cls := "BeamSetter$Group", name := "rankOf", desc := "(J)I" } : MethodName) prog_2_method_37_code (6 : Nat) (some FieldType.int)) ∈ TW := tw_in 1224 (by decide +kernel) rfl
set_option maxRecDepth 20000 in
theorem k_1225 : (Cond.methodLink "BeamSetter$Group" (174 : Nat) ({ cls := "BeamSetter$Group", name := "gather", desc := "()I" } : MethodName)) ∈ TW := tw_in 1225 (by decide +kernel) rfl
set_option maxRecDepth 20000 in
theorem k_1226 : (Cond.methodLink "BeamSetterLaw" (154 : Nat) ({ cls := "BeamSetter", name := "ranked", desc := "(III)I" } : MethodName)) ∈ TW := tw_in 1226 (by decide +kernel) rfl
set_option maxRecDepth 20000 in
theorem k_1227 : (Cond.instanceMethod ({ cls := "BeamSetter", name := "ranked", desc := "(III)I" } : MethodName)) ∈ TW := tw_in 1227 (by decide +kernel) rfl
set_option maxRecDepth 20000 in
theorem k_1228 : (Cond.selects "BeamSetter" ({ cls := "BeamSetter", name := "ranked", desc := "(III)I" } : MethodName) ({ cls := "BeamSetter", name := "ranked", desc := "(III)I" } : MethodName)) ∈ TW := tw_in 1228 (by decide +kernel) rfl
set_option maxRecDepth 20000 in
theorem k_1229 : (Cond.code ({ cls := "BeamSetter", name := "ranked", desc := "(III)I" } : MethodName) prog_1_method_15_code (4 : Nat) (some FieldType.int)) ∈ TW := tw_in 1229 (by decide +kernel) rfl
set_option maxRecDepth 20000 in
theorem k_1230 : (Cond.methodLink "BeamSetter" (219 : Nat) ({ cls := "BeamSetter$Group", name := "sortKeys", desc := "()V" } : MethodName)) ∈ TW := tw_in 1230 (by decide +kernel) rfl
set_option maxRecDepth 20000 in
theorem k_1231 : (Cond.instanceMethod ({ cls := "BeamSetter$Group", name := "sortKeys", desc := "()V" } : MethodName)) ∈ TW := tw_in 1231 (by decide +kernel) rfl
set_option maxRecDepth 20000 in
theorem k_1232 : (Cond.selects "BeamSetter$Group" ({ cls := "BeamSetter$Group", name := "sortKeys", desc := "()V" } : MethodName) ({ cls := "BeamSetter$Group", name := "sortKeys", desc := "()V" } : MethodName)) ∈ TW := tw_in 1232 (by decide +kernel) rfl
set_option maxRecDepth 20000 in
theorem k_1233 : (Cond.code ({ cls := "BeamSetter$Group", name := "sortKeys", desc := "()V" } : MethodName) prog_2_method_38_code (6 : Nat) (none : Option FieldType)) ∈ TW := tw_in 1233 (by decide +kernel) rfl
