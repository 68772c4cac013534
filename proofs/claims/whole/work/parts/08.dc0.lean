theorem dX8_init_0 : decode cX8_init 0 = .ok (.aload_n 0, 1) := by decide +kernel
theorem dX8_init_1 : decode cX8_init 1 = .ok (.invokespecial 1, 3) := by decide +kernel
theorem dX8_init_4 : decode cX8_init 4 = .ok (.aload_n 0, 1) := by decide +kernel
theorem dX8_init_5 : decode cX8_init 5 = .ok (.iconst 4, 1) := by decide +kernel
theorem dX8_init_6 : decode cX8_init 6 = .ok (.putfield 7, 3) := by decide +kernel
theorem dX8_init_9 : decode cX8_init 9 = .ok (.aload_n 0, 1) := by decide +kernel
theorem dX8_init_10 : decode cX8_init 10 = .ok (.iconst 4, 1) := by decide +kernel
theorem dX8_init_11 : decode cX8_init 11 = .ok (.putfield 13, 3) := by decide +kernel
theorem dX8_init_14 : decode cX8_init 14 = .ok (.aload_n 0, 1) := by decide +kernel
theorem dX8_init_15 : decode cX8_init 15 = .ok (.bipush 6, 2) := by decide +kernel
theorem dX8_init_17 : decode cX8_init 17 = .ok (.newarray .int, 2) := by decide +kernel
theorem dX8_init_19 : decode cX8_init 19 = .ok (.putfield 16, 3) := by decide +kernel
theorem dX8_init_22 : decode cX8_init 22 = .ok (.aload_n 0, 1) := by decide +kernel
theorem dX8_init_23 : decode cX8_init 23 = .ok (.bipush 9, 2) := by decide +kernel
theorem dX8_init_25 : decode cX8_init 25 = .ok (.putfield 20, 3) := by decide +kernel
theorem dX8_init_28 : decode cX8_init 28 = .ok (.aload_n 0, 1) := by decide +kernel
theorem dX8_init_29 : decode cX8_init 29 = .ok (.iconst 4, 1) := by decide +kernel
theorem dX8_init_30 : decode cX8_init 30 = .ok (.newarray .int, 2) := by decide +kernel
theorem dX8_init_32 : decode cX8_init 32 = .ok (.dup, 1) := by decide +kernel
theorem dX8_init_33 : decode cX8_init 33 = .ok (.iconst 0, 1) := by decide +kernel
theorem dX8_init_34 : decode cX8_init 34 = .ok (.bipush 24, 2) := by decide +kernel
theorem dX8_init_36 : decode cX8_init 36 = .ok (.iastore, 1) := by decide +kernel
theorem dX8_init_37 : decode cX8_init 37 = .ok (.dup, 1) := by decide +kernel
theorem dX8_init_38 : decode cX8_init 38 = .ok (.iconst 1, 1) := by decide +kernel
theorem dX8_init_39 : decode cX8_init 39 = .ok (.bipush 16, 2) := by decide +kernel
theorem dX8_init_41 : decode cX8_init 41 = .ok (.iastore, 1) := by decide +kernel
theorem dX8_init_42 : decode cX8_init 42 = .ok (.dup, 1) := by decide +kernel
theorem dX8_init_43 : decode cX8_init 43 = .ok (.iconst 2, 1) := by decide +kernel
theorem dX8_init_44 : decode cX8_init 44 = .ok (.bipush 12, 2) := by decide +kernel
theorem dX8_init_46 : decode cX8_init 46 = .ok (.iastore, 1) := by decide +kernel
theorem dX8_init_47 : decode cX8_init 47 = .ok (.dup, 1) := by decide +kernel
theorem dX8_init_48 : decode cX8_init 48 = .ok (.iconst 3, 1) := by decide +kernel
theorem dX8_init_49 : decode cX8_init 49 = .ok (.bipush 9, 2) := by decide +kernel
theorem dX8_init_51 : decode cX8_init 51 = .ok (.iastore, 1) := by decide +kernel
theorem dX8_init_52 : decode cX8_init 52 = .ok (.putfield 23, 3) := by decide +kernel
theorem dX8_init_55 : decode cX8_init 55 = .ok (.aload_n 0, 1) := by decide +kernel
theorem dX8_init_56 : decode cX8_init 56 = .ok (.bipush 64, 2) := by decide +kernel
theorem dX8_init_58 : decode cX8_init 58 = .ok (.newarray .int, 2) := by decide +kernel
theorem dX8_init_60 : decode cX8_init 60 = .ok (.putfield 26, 3) := by decide +kernel
theorem dX8_init_63 : decode cX8_init 63 = .ok (.aload_n 0, 1) := by decide +kernel
theorem dX8_init_64 : decode cX8_init 64 = .ok (.bipush 64, 2) := by decide +kernel
theorem dX8_init_66 : decode cX8_init 66 = .ok (.newarray .boolean, 2) := by decide +kernel
theorem dX8_init_68 : decode cX8_init 68 = .ok (.putfield 29, 3) := by decide +kernel
theorem dX8_init_71 : decode cX8_init 71 = .ok (.aload_n 0, 1) := by decide +kernel
theorem dX8_init_72 : decode cX8_init 72 = .ok (.bipush 64, 2) := by decide +kernel
theorem dX8_init_74 : decode cX8_init 74 = .ok (.newarray .int, 2) := by decide +kernel
theorem dX8_init_76 : decode cX8_init 76 = .ok (.putfield 33, 3) := by decide +kernel
theorem dX8_init_79 : decode cX8_init 79 = .ok (.aload_n 0, 1) := by decide +kernel
theorem dX8_init_80 : decode cX8_init 80 = .ok (.bipush 64, 2) := by decide +kernel
theorem dX8_init_82 : decode cX8_init 82 = .ok (.newarray .int, 2) := by decide +kernel
theorem dX8_init_84 : decode cX8_init 84 = .ok (.putfield 36, 3) := by decide +kernel
theorem dX8_init_87 : decode cX8_init 87 = .ok (.aload_n 0, 1) := by decide +kernel
theorem dX8_init_88 : decode cX8_init 88 = .ok (.bipush 64, 2) := by decide +kernel
theorem dX8_init_90 : decode cX8_init 90 = .ok (.newarray .int, 2) := by decide +kernel
theorem dX8_init_92 : decode cX8_init 92 = .ok (.putfield 39, 3) := by decide +kernel
theorem dX8_init_95 : decode cX8_init 95 = .ok (.aload_n 0, 1) := by decide +kernel
theorem dX8_init_96 : decode cX8_init 96 = .ok (.bipush 64, 2) := by decide +kernel
theorem dX8_init_98 : decode cX8_init 98 = .ok (.newarray .int, 2) := by decide +kernel
theorem dX8_init_100 : decode cX8_init 100 = .ok (.putfield 42, 3) := by decide +kernel
theorem dX8_init_103 : decode cX8_init 103 = .ok (.aload_n 0, 1) := by decide +kernel
theorem dX8_init_104 : decode cX8_init 104 = .ok (.bipush 33, 2) := by decide +kernel
theorem dX8_init_106 : decode cX8_init 106 = .ok (.newarray .int, 2) := by decide +kernel
theorem dX8_init_108 : decode cX8_init 108 = .ok (.putfield 45, 3) := by decide +kernel
theorem dX8_init_111 : decode cX8_init 111 = .ok (.aload_n 0, 1) := by decide +kernel
theorem dX8_init_112 : decode cX8_init 112 = .ok (.bipush 33, 2) := by decide +kernel
theorem dX8_init_114 : decode cX8_init 114 = .ok (.newarray .int, 2) := by decide +kernel
theorem dX8_init_116 : decode cX8_init 116 = .ok (.putfield 48, 3) := by decide +kernel
theorem dX8_init_119 : decode cX8_init 119 = .ok (.aload_n 0, 1) := by decide +kernel
theorem dX8_init_120 : decode cX8_init 120 = .ok (.bipush 64, 2) := by decide +kernel
theorem dX8_init_122 : decode cX8_init 122 = .ok (.newarray .int, 2) := by decide +kernel
theorem dX8_init_124 : decode cX8_init 124 = .ok (.putfield 51, 3) := by decide +kernel
theorem dX8_init_127 : decode cX8_init 127 = .ok (.aload_n 0, 1) := by decide +kernel
theorem dX8_init_128 : decode cX8_init 128 = .ok (.bipush 9, 2) := by decide +kernel
theorem dX8_init_130 : decode cX8_init 130 = .ok (.putfield 54, 3) := by decide +kernel
theorem dX8_init_133 : decode cX8_init 133 = .ok (.aload_n 0, 1) := by decide +kernel
theorem dX8_init_134 : decode cX8_init 134 = .ok (.bipush 64, 2) := by decide +kernel
theorem dX8_init_136 : decode cX8_init 136 = .ok (.newarray .int, 2) := by decide +kernel
theorem dX8_init_138 : decode cX8_init 138 = .ok (.putfield 57, 3) := by decide +kernel
theorem dX8_init_141 : decode cX8_init 141 = .ok (.aload_n 0, 1) := by decide +kernel
theorem dX8_init_142 : decode cX8_init 142 = .ok (.sipush 2100, 3) := by decide +kernel
theorem dX8_init_145 : decode cX8_init 145 = .ok (.newarray .int, 2) := by decide +kernel
theorem dX8_init_147 : decode cX8_init 147 = .ok (.putfield 60, 3) := by decide +kernel
theorem dX8_init_150 : decode cX8_init 150 = .ok (.aload_n 0, 1) := by decide +kernel
theorem dX8_init_151 : decode cX8_init 151 = .ok (.sipush 2100, 3) := by decide +kernel
theorem dX8_init_154 : decode cX8_init 154 = .ok (.newarray .int, 2) := by decide +kernel
theorem dX8_init_156 : decode cX8_init 156 = .ok (.putfield 63, 3) := by decide +kernel
theorem dX8_init_159 : decode cX8_init 159 = .ok (.aload_n 0, 1) := by decide +kernel
theorem dX8_init_160 : decode cX8_init 160 = .ok (.sipush 2100, 3) := by decide +kernel
theorem dX8_init_163 : decode cX8_init 163 = .ok (.newarray .int, 2) := by decide +kernel
theorem dX8_init_165 : decode cX8_init 165 = .ok (.putfield 66, 3) := by decide +kernel
theorem dX8_init_168 : decode cX8_init 168 = .ok (.aload_n 0, 1) := by decide +kernel
theorem dX8_init_169 : decode cX8_init 169 = .ok (.sipush 2100, 3) := by decide +kernel
theorem dX8_init_172 : decode cX8_init 172 = .ok (.newarray .int, 2) := by decide +kernel
theorem dX8_init_174 : decode cX8_init 174 = .ok (.putfield 69, 3) := by decide +kernel
theorem dX8_init_177 : decode cX8_init 177 = .ok (.aload_n 0, 1) := by decide +kernel
theorem dX8_init_178 : decode cX8_init 178 = .ok (.sipush 900, 3) := by decide +kernel
theorem dX8_init_181 : decode cX8_init 181 = .ok (.newarray .byte, 2) := by decide +kernel
theorem dX8_init_183 : decode cX8_init 183 = .ok (.putfield 72, 3) := by decide +kernel
theorem dX8_init_186 : decode cX8_init 186 = .ok (.aload_n 0, 1) := by decide +kernel
theorem dX8_init_187 : decode cX8_init 187 = .ok (.iconst (-1), 1) := by decide +kernel
theorem dX8_init_188 : decode cX8_init 188 = .ok (.putfield 76, 3) := by decide +kernel
theorem dX8_init_191 : decode cX8_init 191 = .ok (.aload_n 0, 1) := by decide +kernel
theorem dX8_init_192 : decode cX8_init 192 = .ok (.bipush 6, 2) := by decide +kernel
theorem dX8_init_194 : decode cX8_init 194 = .ok (.newarray .int, 2) := by decide +kernel
theorem dX8_init_196 : decode cX8_init 196 = .ok (.putfield 79, 3) := by decide +kernel
theorem dX8_init_199 : decode cX8_init 199 = .ok (.aload_n 0, 1) := by decide +kernel
theorem dX8_init_200 : decode cX8_init 200 = .ok (.iconst 4, 1) := by decide +kernel
theorem dX8_init_201 : decode cX8_init 201 = .ok (.newarray .int, 2) := by decide +kernel
theorem dX8_init_203 : decode cX8_init 203 = .ok (.putfield 82, 3) := by decide +kernel
theorem dX8_init_206 : decode cX8_init 206 = .ok (.aload_n 0, 1) := by decide +kernel
theorem dX8_init_207 : decode cX8_init 207 = .ok (.bipush 64, 2) := by decide +kernel
theorem dX8_init_209 : decode cX8_init 209 = .ok (.newarray .int, 2) := by decide +kernel
theorem dX8_init_211 : decode cX8_init 211 = .ok (.putfield 85, 3) := by decide +kernel
theorem dX8_init_214 : decode cX8_init 214 = .ok (.aload_n 0, 1) := by decide +kernel
theorem dX8_init_215 : decode cX8_init 215 = .ok (.bipush 64, 2) := by decide +kernel
theorem dX8_init_217 : decode cX8_init 217 = .ok (.newarray .boolean, 2) := by decide +kernel
theorem dX8_init_219 : decode cX8_init 219 = .ok (.putfield 88, 3) := by decide +kernel
theorem dX8_init_222 : decode cX8_init 222 = .ok (.aload_n 0, 1) := by decide +kernel
theorem dX8_init_223 : decode cX8_init 223 = .ok (.bipush 64, 2) := by decide +kernel
theorem dX8_init_225 : decode cX8_init 225 = .ok (.newarray .int, 2) := by decide +kernel
theorem dX8_init_227 : decode cX8_init 227 = .ok (.putfield 91, 3) := by decide +kernel
theorem dX8_init_230 : decode cX8_init 230 = .ok (.aload_n 0, 1) := by decide +kernel
theorem dX8_init_231 : decode cX8_init 231 = .ok (.iconst 4, 1) := by decide +kernel
theorem dX8_init_232 : decode cX8_init 232 = .ok (.newarray .boolean, 2) := by decide +kernel
theorem dX8_init_234 : decode cX8_init 234 = .ok (.putfield 94, 3) := by decide +kernel
theorem dX8_init_237 : decode cX8_init 237 = .ok (.aload_n 0, 1) := by decide +kernel
theorem dX8_init_238 : decode cX8_init 238 = .ok (.bipush 20, 2) := by decide +kernel
theorem dX8_init_240 : decode cX8_init 240 = .ok (.newarray .int, 2) := by decide +kernel
theorem dX8_init_242 : decode cX8_init 242 = .ok (.putfield 97, 3) := by decide +kernel
theorem dX8_init_245 : decode cX8_init 245 = .ok (.aload_n 0, 1) := by decide +kernel
theorem dX8_init_246 : decode cX8_init 246 = .ok (.bipush 20, 2) := by decide +kernel
theorem dX8_init_248 : decode cX8_init 248 = .ok (.newarray .int, 2) := by decide +kernel
theorem dX8_init_250 : decode cX8_init 250 = .ok (.putfield 100, 3) := by decide +kernel
theorem dX8_init_253 : decode cX8_init 253 = .ok (.aload_n 0, 1) := by decide +kernel
theorem dX8_init_254 : decode cX8_init 254 = .ok (.sipush 3993, 3) := by decide +kernel
theorem dX8_init_257 : decode cX8_init 257 = .ok (.newarray .int, 2) := by decide +kernel
theorem dX8_init_259 : decode cX8_init 259 = .ok (.putfield 103, 3) := by decide +kernel
theorem dX8_init_262 : decode cX8_init 262 = .ok (.aload_n 0, 1) := by decide +kernel
theorem dX8_init_263 : decode cX8_init 263 = .ok (.bipush 32, 2) := by decide +kernel
theorem dX8_init_265 : decode cX8_init 265 = .ok (.newarray .int, 2) := by decide +kernel
theorem dX8_init_267 : decode cX8_init 267 = .ok (.putfield 106, 3) := by decide +kernel
theorem dX8_init_270 : decode cX8_init 270 = .ok (.aload_n 0, 1) := by decide +kernel
theorem dX8_init_271 : decode cX8_init 271 = .ok (.bipush 32, 2) := by decide +kernel
theorem dX8_init_273 : decode cX8_init 273 = .ok (.newarray .int, 2) := by decide +kernel
theorem dX8_init_275 : decode cX8_init 275 = .ok (.putfield 109, 3) := by decide +kernel
theorem dX8_init_278 : decode cX8_init 278 = .ok (.return_, 1) := by decide +kernel
theorem dX8_thrown_0 : decode cX8_thrown 0 = .ok (.aload_n 0, 1) := by decide +kernel
theorem dX8_thrown_1 : decode cX8_thrown 1 = .ok (.getfield 112, 3) := by decide +kernel
theorem dX8_thrown_4 : decode cX8_thrown 4 = .ok (.ireturn, 1) := by decide +kernel
theorem dX8_isIn_0 : decode cX8_isIn 0 = .ok (.iload_n 0, 1) := by decide +kernel
theorem dX8_isIn_1 : decode cX8_isIn 1 = .ok (.iload_n 1, 1) := by decide +kernel
theorem dX8_isIn_2 : decode cX8_isIn 2 = .ok (.if_icmp .lt 12, 3) := by decide +kernel
theorem dX8_isIn_5 : decode cX8_isIn 5 = .ok (.iload_n 0, 1) := by decide +kernel
theorem dX8_isIn_6 : decode cX8_isIn 6 = .ok (.iload_n 2, 1) := by decide +kernel
theorem dX8_isIn_7 : decode cX8_isIn 7 = .ok (.if_icmp .gt 7, 3) := by decide +kernel
theorem dX8_isIn_10 : decode cX8_isIn 10 = .ok (.iconst 1, 1) := by decide +kernel
theorem dX8_isIn_11 : decode cX8_isIn 11 = .ok (.goto 4, 3) := by decide +kernel
theorem dX8_isIn_14 : decode cX8_isIn 14 = .ok (.iconst 0, 1) := by decide +kernel
theorem dX8_isIn_15 : decode cX8_isIn 15 = .ok (.ireturn, 1) := by decide +kernel
theorem dX8_failsWith_0 : decode cX8_failsWith 0 = .ok (.aload_n 0, 1) := by decide +kernel
theorem dX8_failsWith_1 : decode cX8_failsWith 1 = .ok (.iload_n 1, 1) := by decide +kernel
theorem dX8_failsWith_2 : decode cX8_failsWith 2 = .ok (.putfield 112, 3) := by decide +kernel
theorem dX8_failsWith_5 : decode cX8_failsWith 5 = .ok (.iconst 0, 1) := by decide +kernel
theorem dX8_failsWith_6 : decode cX8_failsWith 6 = .ok (.ireturn, 1) := by decide +kernel
theorem dX8_far_0 : decode cX8_far 0 = .ok (.iload_n 0, 1) := by decide +kernel
theorem dX8_far_1 : decode cX8_far 1 = .ok (.ifCond .ge 8, 3) := by decide +kernel
theorem dX8_far_4 : decode cX8_far 4 = .ok (.iload_n 0, 1) := by decide +kernel
theorem dX8_far_5 : decode cX8_far 5 = .ok (.ineg, 1) := by decide +kernel
theorem dX8_far_6 : decode cX8_far 6 = .ok (.goto 4, 3) := by decide +kernel
theorem dX8_far_9 : decode cX8_far 9 = .ok (.iload_n 0, 1) := by decide +kernel
theorem dX8_far_10 : decode cX8_far 10 = .ok (.ireturn, 1) := by decide +kernel
theorem dX8_longOf_0 : decode cX8_longOf 0 = .ok (.bipush 8, 2) := by decide +kernel
theorem dX8_longOf_2 : decode cX8_longOf 2 = .ok (.iload_n 0, 1) := by decide +kernel
theorem dX8_longOf_3 : decode cX8_longOf 3 = .ok (.ishr, 1) := by decide +kernel
theorem dX8_longOf_4 : decode cX8_longOf 4 = .ok (.ireturn, 1) := by decide +kernel
theorem dX8_beamsOf_0 : decode cX8_beamsOf 0 = .ok (.iload_n 0, 1) := by decide +kernel
theorem dX8_beamsOf_1 : decode cX8_beamsOf 1 = .ok (.ireturn, 1) := by decide +kernel
theorem dX8_measureOf_0 : decode cX8_measureOf 0 = .ok (.iload_n 0, 1) := by decide +kernel
theorem dX8_measureOf_1 : decode cX8_measureOf 1 = .ok (.bipush 32, 2) := by decide +kernel
theorem dX8_measureOf_3 : decode cX8_measureOf 3 = .ok (.imul, 1) := by decide +kernel
theorem dX8_measureOf_4 : decode cX8_measureOf 4 = .ok (.iload_n 1, 1) := by decide +kernel
theorem dX8_measureOf_5 : decode cX8_measureOf 5 = .ok (.idiv, 1) := by decide +kernel
theorem dX8_measureOf_6 : decode cX8_measureOf 6 = .ok (.ireturn, 1) := by decide +kernel
theorem dX8_measure_0 : decode cX8_measure 0 = .ok (.aload_n 0, 1) := by decide +kernel
theorem dX8_measure_1 : decode cX8_measure 1 = .ok (.getfield 7, 3) := by decide +kernel
theorem dX8_measure_4 : decode cX8_measure 4 = .ok (.aload_n 0, 1) := by decide +kernel
theorem dX8_measure_5 : decode cX8_measure 5 = .ok (.getfield 13, 3) := by decide +kernel
theorem dX8_measure_8 : decode cX8_measure 8 = .ok (.invokestatic 115, 3) := by decide +kernel
theorem dX8_measure_11 : decode cX8_measure 11 = .ok (.ireturn, 1) := by decide +kernel
theorem dX8_beat_0 : decode cX8_beat 0 = .ok (.bipush 32, 2) := by decide +kernel
theorem dX8_beat_2 : decode cX8_beat 2 = .ok (.aload_n 0, 1) := by decide +kernel
theorem dX8_beat_3 : decode cX8_beat 3 = .ok (.getfield 13, 3) := by decide +kernel
theorem dX8_beat_6 : decode cX8_beat 6 = .ok (.idiv, 1) := by decide +kernel
theorem dX8_beat_7 : decode cX8_beat 7 = .ok (.ireturn, 1) := by decide +kernel
theorem dX8_partAt_0 : decode cX8_partAt 0 = .ok (.aload_n 0, 1) := by decide +kernel
theorem dX8_partAt_1 : decode cX8_partAt 1 = .ok (.getfield 119, 3) := by decide +kernel
theorem dX8_partAt_4 : decode cX8_partAt 4 = .ok (.ifCond .ne 34, 3) := by decide +kernel
theorem dX8_partAt_7 : decode cX8_partAt 7 = .ok (.iload_n 1, 1) := by decide +kernel
theorem dX8_partAt_8 : decode cX8_partAt 8 = .ok (.aload_n 0, 1) := by decide +kernel
theorem dX8_partAt_9 : decode cX8_partAt 9 = .ok (.invokevirtual 122, 3) := by decide +kernel
theorem dX8_partAt_12 : decode cX8_partAt 12 = .ok (.idiv, 1) := by decide +kernel
theorem dX8_partAt_13 : decode cX8_partAt 13 = .ok (.aload_n 0, 1) := by decide +kernel
theorem dX8_partAt_14 : decode cX8_partAt 14 = .ok (.getfield 13, 3) := by decide +kernel
theorem dX8_partAt_17 : decode cX8_partAt 17 = .ok (.bipush 8, 2) := by decide +kernel
theorem dX8_partAt_19 : decode cX8_partAt 19 = .ok (.if_icmp .ne 16, 3) := by decide +kernel
theorem dX8_partAt_22 : decode cX8_partAt 22 = .ok (.aload_n 0, 1) := by decide +kernel
theorem dX8_partAt_23 : decode cX8_partAt 23 = .ok (.getfield 7, 3) := by decide +kernel
theorem dX8_partAt_26 : decode cX8_partAt 26 = .ok (.iconst 3, 1) := by decide +kernel
theorem dX8_partAt_27 : decode cX8_partAt 27 = .ok (.irem, 1) := by decide +kernel
theorem dX8_partAt_28 : decode cX8_partAt 28 = .ok (.ifCond .ne 7, 3) := by decide +kernel
theorem dX8_partAt_31 : decode cX8_partAt 31 = .ok (.iconst 3, 1) := by decide +kernel
theorem dX8_partAt_32 : decode cX8_partAt 32 = .ok (.goto 4, 3) := by decide +kernel
theorem dX8_partAt_35 : decode cX8_partAt 35 = .ok (.iconst 1, 1) := by decide +kernel
theorem dX8_partAt_36 : decode cX8_partAt 36 = .ok (.idiv, 1) := by decide +kernel
theorem dX8_partAt_37 : decode cX8_partAt 37 = .ok (.ireturn, 1) := by decide +kernel
theorem dX8_partAt_38 : decode cX8_partAt 38 = .ok (.iconst 0, 1) := by decide +kernel
theorem dX8_partAt_39 : decode cX8_partAt 39 = .ok (.istore_n 2, 1) := by decide +kernel
theorem dX8_partAt_40 : decode cX8_partAt 40 = .ok (.iconst 0, 1) := by decide +kernel
theorem dX8_partAt_41 : decode cX8_partAt 41 = .ok (.istore_n 3, 1) := by decide +kernel
theorem dX8_partAt_42 : decode cX8_partAt 42 = .ok (.iload_n 3, 1) := by decide +kernel
theorem dX8_partAt_43 : decode cX8_partAt 43 = .ok (.aload_n 0, 1) := by decide +kernel
theorem dX8_partAt_44 : decode cX8_partAt 44 = .ok (.getfield 119, 3) := by decide +kernel
theorem dX8_partAt_47 : decode cX8_partAt 47 = .ok (.iconst 1, 1) := by decide +kernel
theorem dX8_partAt_48 : decode cX8_partAt 48 = .ok (.isub, 1) := by decide +kernel
theorem dX8_partAt_49 : decode cX8_partAt 49 = .ok (.if_icmp .ge 35, 3) := by decide +kernel
theorem dX8_partAt_52 : decode cX8_partAt 52 = .ok (.iload_n 1, 1) := by decide +kernel
theorem dX8_partAt_53 : decode cX8_partAt 53 = .ok (.aload_n 0, 1) := by decide +kernel
theorem dX8_partAt_54 : decode cX8_partAt 54 = .ok (.invokevirtual 122, 3) := by decide +kernel
theorem dX8_partAt_57 : decode cX8_partAt 57 = .ok (.iload_n 2, 1) := by decide +kernel
theorem dX8_partAt_58 : decode cX8_partAt 58 = .ok (.aload_n 0, 1) := by decide +kernel
theorem dX8_partAt_59 : decode cX8_partAt 59 = .ok (.getfield 16, 3) := by decide +kernel
theorem dX8_partAt_62 : decode cX8_partAt 62 = .ok (.iload_n 3, 1) := by decide +kernel
theorem dX8_partAt_63 : decode cX8_partAt 63 = .ok (.iaload, 1) := by decide +kernel
theorem dX8_partAt_64 : decode cX8_partAt 64 = .ok (.iadd, 1) := by decide +kernel
theorem dX8_partAt_65 : decode cX8_partAt 65 = .ok (.imul, 1) := by decide +kernel
theorem dX8_partAt_66 : decode cX8_partAt 66 = .ok (.if_icmp .lt 18, 3) := by decide +kernel
theorem dX8_partAt_69 : decode cX8_partAt 69 = .ok (.iload_n 2, 1) := by decide +kernel
theorem dX8_partAt_70 : decode cX8_partAt 70 = .ok (.aload_n 0, 1) := by decide +kernel
theorem dX8_partAt_71 : decode cX8_partAt 71 = .ok (.getfield 16, 3) := by decide +kernel
theorem dX8_partAt_74 : decode cX8_partAt 74 = .ok (.iload_n 3, 1) := by decide +kernel
theorem dX8_partAt_75 : decode cX8_partAt 75 = .ok (.iaload, 1) := by decide +kernel
theorem dX8_partAt_76 : decode cX8_partAt 76 = .ok (.iadd, 1) := by decide +kernel
theorem dX8_partAt_77 : decode cX8_partAt 77 = .ok (.istore_n 2, 1) := by decide +kernel
theorem dX8_partAt_78 : decode cX8_partAt 78 = .ok (.iinc 3 1, 3) := by decide +kernel
theorem dX8_partAt_81 : decode cX8_partAt 81 = .ok (.goto (-39), 3) := by decide +kernel
theorem dX8_partAt_84 : decode cX8_partAt 84 = .ok (.iload_n 3, 1) := by decide +kernel
theorem dX8_partAt_85 : decode cX8_partAt 85 = .ok (.ireturn, 1) := by decide +kernel
theorem dX8_whichPart_0 : decode cX8_whichPart 0 = .ok (.aload_n 0, 1) := by decide +kernel
theorem dX8_whichPart_1 : decode cX8_whichPart 1 = .ok (.getfield 36, 3) := by decide +kernel
theorem dX8_whichPart_4 : decode cX8_whichPart 4 = .ok (.iload_n 1, 1) := by decide +kernel
theorem dX8_whichPart_5 : decode cX8_whichPart 5 = .ok (.iaload, 1) := by decide +kernel
theorem dX8_whichPart_6 : decode cX8_whichPart 6 = .ok (.aload_n 0, 1) := by decide +kernel
theorem dX8_whichPart_7 : decode cX8_whichPart 7 = .ok (.invokevirtual 126, 3) := by decide +kernel
theorem dX8_whichPart_10 : decode cX8_whichPart 10 = .ok (.irem, 1) := by decide +kernel
theorem dX8_whichPart_11 : decode cX8_whichPart 11 = .ok (.istore_n 3, 1) := by decide +kernel
theorem dX8_whichPart_12 : decode cX8_whichPart 12 = .ok (.iload_n 2, 1) := by decide +kernel
theorem dX8_whichPart_13 : decode cX8_whichPart 13 = .ok (.ifCond .ne 11, 3) := by decide +kernel
theorem dX8_whichPart_16 : decode cX8_whichPart 16 = .ok (.aload_n 0, 1) := by decide +kernel
theorem dX8_whichPart_17 : decode cX8_whichPart 17 = .ok (.iload_n 3, 1) := by decide +kernel
theorem dX8_whichPart_18 : decode cX8_whichPart 18 = .ok (.invokevirtual 129, 3) := by decide +kernel
theorem dX8_whichPart_21 : decode cX8_whichPart 21 = .ok (.goto 11, 3) := by decide +kernel
theorem dX8_whichPart_24 : decode cX8_whichPart 24 = .ok (.iload_n 3, 1) := by decide +kernel
theorem dX8_whichPart_25 : decode cX8_whichPart 25 = .ok (.aload_n 0, 1) := by decide +kernel
theorem dX8_whichPart_26 : decode cX8_whichPart 26 = .ok (.invokevirtual 122, 3) := by decide +kernel
theorem dX8_whichPart_29 : decode cX8_whichPart 29 = .ok (.idiv, 1) := by decide +kernel
theorem dX8_whichPart_30 : decode cX8_whichPart 30 = .ok (.iload_n 2, 1) := by decide +kernel
theorem dX8_whichPart_31 : decode cX8_whichPart 31 = .ok (.idiv, 1) := by decide +kernel
theorem dX8_whichPart_32 : decode cX8_whichPart 32 = .ok (.istore 4, 2) := by decide +kernel
theorem dX8_whichPart_34 : decode cX8_whichPart 34 = .ok (.bipush 100, 2) := by decide +kernel
theorem dX8_whichPart_36 : decode cX8_whichPart 36 = .ok (.aload_n 0, 1) := by decide +kernel
theorem dX8_whichPart_37 : decode cX8_whichPart 37 = .ok (.getfield 36, 3) := by decide +kernel
theorem dX8_whichPart_40 : decode cX8_whichPart 40 = .ok (.iload_n 1, 1) := by decide +kernel
theorem dX8_whichPart_41 : decode cX8_whichPart 41 = .ok (.iaload, 1) := by decide +kernel
theorem dX8_whichPart_42 : decode cX8_whichPart 42 = .ok (.aload_n 0, 1) := by decide +kernel
theorem dX8_whichPart_43 : decode cX8_whichPart 43 = .ok (.invokevirtual 126, 3) := by decide +kernel
theorem dX8_whichPart_46 : decode cX8_whichPart 46 = .ok (.idiv, 1) := by decide +kernel
theorem dX8_whichPart_47 : decode cX8_whichPart 47 = .ok (.imul, 1) := by decide +kernel
theorem dX8_whichPart_48 : decode cX8_whichPart 48 = .ok (.iload 4, 2) := by decide +kernel
theorem dX8_whichPart_50 : decode cX8_whichPart 50 = .ok (.iadd, 1) := by decide +kernel
theorem dX8_whichPart_51 : decode cX8_whichPart 51 = .ok (.ireturn, 1) := by decide +kernel
theorem dX8_isBeamed_0 : decode cX8_isBeamed 0 = .ok (.aload_n 0, 1) := by decide +kernel
theorem dX8_isBeamed_1 : decode cX8_isBeamed 1 = .ok (.getfield 29, 3) := by decide +kernel
theorem dX8_isBeamed_4 : decode cX8_isBeamed 4 = .ok (.iload_n 1, 1) := by decide +kernel
theorem dX8_isBeamed_5 : decode cX8_isBeamed 5 = .ok (.baload, 1) := by decide +kernel
theorem dX8_isBeamed_6 : decode cX8_isBeamed 6 = .ok (.ifCond .eq 16, 3) := by decide +kernel
theorem dX8_isBeamed_9 : decode cX8_isBeamed 9 = .ok (.aload_n 0, 1) := by decide +kernel
theorem dX8_isBeamed_10 : decode cX8_isBeamed 10 = .ok (.getfield 26, 3) := by decide +kernel
theorem dX8_isBeamed_13 : decode cX8_isBeamed 13 = .ok (.iload_n 1, 1) := by decide +kernel
theorem dX8_isBeamed_14 : decode cX8_isBeamed 14 = .ok (.iaload, 1) := by decide +kernel
theorem dX8_isBeamed_15 : decode cX8_isBeamed 15 = .ok (.ifCond .le 7, 3) := by decide +kernel
theorem dX8_isBeamed_18 : decode cX8_isBeamed 18 = .ok (.iconst 1, 1) := by decide +kernel
theorem dX8_isBeamed_19 : decode cX8_isBeamed 19 = .ok (.goto 4, 3) := by decide +kernel
theorem dX8_isBeamed_22 : decode cX8_isBeamed 22 = .ok (.iconst 0, 1) := by decide +kernel
theorem dX8_isBeamed_23 : decode cX8_isBeamed 23 = .ok (.ireturn, 1) := by decide +kernel
theorem dX8_endOf_0 : decode cX8_endOf 0 = .ok (.iload_n 1, 1) := by decide +kernel
theorem dX8_endOf_1 : decode cX8_endOf 1 = .ok (.iconst 1, 1) := by decide +kernel
theorem dX8_endOf_2 : decode cX8_endOf 2 = .ok (.iadd, 1) := by decide +kernel
theorem dX8_endOf_3 : decode cX8_endOf 3 = .ok (.istore_n 3, 1) := by decide +kernel
theorem dX8_endOf_4 : decode cX8_endOf 4 = .ok (.iload_n 3, 1) := by decide +kernel
theorem dX8_endOf_5 : decode cX8_endOf 5 = .ok (.aload_n 0, 1) := by decide +kernel
theorem dX8_endOf_6 : decode cX8_endOf 6 = .ok (.getfield 133, 3) := by decide +kernel
theorem dX8_endOf_9 : decode cX8_endOf 9 = .ok (.if_icmp .ge 32, 3) := by decide +kernel
theorem dX8_endOf_12 : decode cX8_endOf 12 = .ok (.aload_n 0, 1) := by decide +kernel
theorem dX8_endOf_13 : decode cX8_endOf 13 = .ok (.iload_n 3, 1) := by decide +kernel
theorem dX8_endOf_14 : decode cX8_endOf 14 = .ok (.invokevirtual 136, 3) := by decide +kernel
theorem dX8_endOf_17 : decode cX8_endOf 17 = .ok (.ifCond .eq 24, 3) := by decide +kernel
theorem dX8_endOf_20 : decode cX8_endOf 20 = .ok (.aload_n 0, 1) := by decide +kernel
theorem dX8_endOf_21 : decode cX8_endOf 21 = .ok (.iload_n 3, 1) := by decide +kernel
theorem dX8_endOf_22 : decode cX8_endOf 22 = .ok (.iload_n 2, 1) := by decide +kernel
theorem dX8_endOf_23 : decode cX8_endOf 23 = .ok (.invokevirtual 140, 3) := by decide +kernel
theorem dX8_endOf_26 : decode cX8_endOf 26 = .ok (.aload_n 0, 1) := by decide +kernel
theorem dX8_endOf_27 : decode cX8_endOf 27 = .ok (.iload_n 1, 1) := by decide +kernel
theorem dX8_endOf_28 : decode cX8_endOf 28 = .ok (.iload_n 2, 1) := by decide +kernel
theorem dX8_endOf_29 : decode cX8_endOf 29 = .ok (.invokevirtual 140, 3) := by decide +kernel
theorem dX8_endOf_32 : decode cX8_endOf 32 = .ok (.if_icmp .ne 9, 3) := by decide +kernel
theorem dX8_endOf_35 : decode cX8_endOf 35 = .ok (.iinc 3 1, 3) := by decide +kernel
theorem dX8_endOf_38 : decode cX8_endOf 38 = .ok (.goto (-34), 3) := by decide +kernel
theorem dX8_endOf_41 : decode cX8_endOf 41 = .ok (.iload_n 3, 1) := by decide +kernel
theorem dX8_endOf_42 : decode cX8_endOf 42 = .ok (.ireturn, 1) := by decide +kernel
theorem dX8_groupsBy_0 : decode cX8_groupsBy 0 = .ok (.iconst 0, 1) := by decide +kernel
theorem dX8_groupsBy_1 : decode cX8_groupsBy 1 = .ok (.istore_n 2, 1) := by decide +kernel
theorem dX8_groupsBy_2 : decode cX8_groupsBy 2 = .ok (.iconst 0, 1) := by decide +kernel
theorem dX8_groupsBy_3 : decode cX8_groupsBy 3 = .ok (.istore_n 3, 1) := by decide +kernel
theorem dX8_groupsBy_4 : decode cX8_groupsBy 4 = .ok (.iload_n 3, 1) := by decide +kernel
theorem dX8_groupsBy_5 : decode cX8_groupsBy 5 = .ok (.aload_n 0, 1) := by decide +kernel
theorem dX8_groupsBy_6 : decode cX8_groupsBy 6 = .ok (.getfield 133, 3) := by decide +kernel
theorem dX8_groupsBy_9 : decode cX8_groupsBy 9 = .ok (.if_icmp .ge 47, 3) := by decide +kernel
theorem dX8_groupsBy_12 : decode cX8_groupsBy 12 = .ok (.aload_n 0, 1) := by decide +kernel
theorem dX8_groupsBy_13 : decode cX8_groupsBy 13 = .ok (.iload_n 3, 1) := by decide +kernel
theorem dX8_groupsBy_14 : decode cX8_groupsBy 14 = .ok (.invokevirtual 136, 3) := by decide +kernel
theorem dX8_groupsBy_17 : decode cX8_groupsBy 17 = .ok (.ifCond .eq 12, 3) := by decide +kernel
theorem dX8_groupsBy_20 : decode cX8_groupsBy 20 = .ok (.aload_n 0, 1) := by decide +kernel
theorem dX8_groupsBy_21 : decode cX8_groupsBy 21 = .ok (.iload_n 3, 1) := by decide +kernel
theorem dX8_groupsBy_22 : decode cX8_groupsBy 22 = .ok (.iload_n 1, 1) := by decide +kernel
theorem dX8_groupsBy_23 : decode cX8_groupsBy 23 = .ok (.invokevirtual 143, 3) := by decide +kernel
theorem dX8_groupsBy_26 : decode cX8_groupsBy 26 = .ok (.goto 6, 3) := by decide +kernel
theorem dX8_groupsBy_29 : decode cX8_groupsBy 29 = .ok (.iload_n 3, 1) := by decide +kernel
theorem dX8_groupsBy_30 : decode cX8_groupsBy 30 = .ok (.iconst 1, 1) := by decide +kernel
theorem dX8_groupsBy_31 : decode cX8_groupsBy 31 = .ok (.iadd, 1) := by decide +kernel
theorem dX8_groupsBy_32 : decode cX8_groupsBy 32 = .ok (.istore 4, 2) := by decide +kernel
theorem dX8_groupsBy_34 : decode cX8_groupsBy 34 = .ok (.iload_n 2, 1) := by decide +kernel
theorem dX8_groupsBy_35 : decode cX8_groupsBy 35 = .ok (.iload 4, 2) := by decide +kernel
theorem dX8_groupsBy_37 : decode cX8_groupsBy 37 = .ok (.iload_n 3, 1) := by decide +kernel
theorem dX8_groupsBy_38 : decode cX8_groupsBy 38 = .ok (.isub, 1) := by decide +kernel
theorem dX8_groupsBy_39 : decode cX8_groupsBy 39 = .ok (.iconst 1, 1) := by decide +kernel
theorem dX8_groupsBy_40 : decode cX8_groupsBy 40 = .ok (.if_icmp .le 7, 3) := by decide +kernel
theorem dX8_groupsBy_43 : decode cX8_groupsBy 43 = .ok (.iconst 1, 1) := by decide +kernel
theorem dX8_groupsBy_44 : decode cX8_groupsBy 44 = .ok (.goto 4, 3) := by decide +kernel
theorem dX8_groupsBy_47 : decode cX8_groupsBy 47 = .ok (.iconst 0, 1) := by decide +kernel
theorem dX8_groupsBy_48 : decode cX8_groupsBy 48 = .ok (.iadd, 1) := by decide +kernel
theorem dX8_groupsBy_49 : decode cX8_groupsBy 49 = .ok (.istore_n 2, 1) := by decide +kernel
theorem dX8_groupsBy_50 : decode cX8_groupsBy 50 = .ok (.iload 4, 2) := by decide +kernel
theorem dX8_groupsBy_52 : decode cX8_groupsBy 52 = .ok (.istore_n 3, 1) := by decide +kernel
theorem dX8_groupsBy_53 : decode cX8_groupsBy 53 = .ok (.goto (-49), 3) := by decide +kernel
theorem dX8_groupsBy_56 : decode cX8_groupsBy 56 = .ok (.iload_n 2, 1) := by decide +kernel
theorem dX8_groupsBy_57 : decode cX8_groupsBy 57 = .ok (.ireturn, 1) := by decide +kernel
theorem dX8_laysAll_0 : decode cX8_laysAll 0 = .ok (.iconst 0, 1) := by decide +kernel
theorem dX8_laysAll_1 : decode cX8_laysAll 1 = .ok (.istore_n 1, 1) := by decide +kernel
theorem dX8_laysAll_2 : decode cX8_laysAll 2 = .ok (.iconst 0, 1) := by decide +kernel
theorem dX8_laysAll_3 : decode cX8_laysAll 3 = .ok (.istore_n 2, 1) := by decide +kernel
theorem dX8_laysAll_4 : decode cX8_laysAll 4 = .ok (.iconst 0, 1) := by decide +kernel
theorem dX8_laysAll_5 : decode cX8_laysAll 5 = .ok (.istore_n 3, 1) := by decide +kernel
theorem dX8_laysAll_6 : decode cX8_laysAll 6 = .ok (.iload_n 3, 1) := by decide +kernel
theorem dX8_laysAll_7 : decode cX8_laysAll 7 = .ok (.aload_n 0, 1) := by decide +kernel
theorem dX8_laysAll_8 : decode cX8_laysAll 8 = .ok (.getfield 133, 3) := by decide +kernel
theorem dX8_laysAll_11 : decode cX8_laysAll 11 = .ok (.if_icmp .ge 57, 3) := by decide +kernel
theorem dX8_laysAll_14 : decode cX8_laysAll 14 = .ok (.aload_n 0, 1) := by decide +kernel
theorem dX8_laysAll_15 : decode cX8_laysAll 15 = .ok (.getfield 36, 3) := by decide +kernel
theorem dX8_laysAll_18 : decode cX8_laysAll 18 = .ok (.iload_n 3, 1) := by decide +kernel
theorem dX8_laysAll_19 : decode cX8_laysAll 19 = .ok (.iload_n 1, 1) := by decide +kernel
theorem dX8_laysAll_20 : decode cX8_laysAll 20 = .ok (.iastore, 1) := by decide +kernel
theorem dX8_laysAll_21 : decode cX8_laysAll 21 = .ok (.aload_n 0, 1) := by decide +kernel
theorem dX8_laysAll_22 : decode cX8_laysAll 22 = .ok (.getfield 39, 3) := by decide +kernel
theorem dX8_laysAll_25 : decode cX8_laysAll 25 = .ok (.iload_n 3, 1) := by decide +kernel
theorem dX8_laysAll_26 : decode cX8_laysAll 26 = .ok (.iload_n 2, 1) := by decide +kernel
theorem dX8_laysAll_27 : decode cX8_laysAll 27 = .ok (.iastore, 1) := by decide +kernel
theorem dX8_laysAll_28 : decode cX8_laysAll 28 = .ok (.iload_n 1, 1) := by decide +kernel
theorem dX8_laysAll_29 : decode cX8_laysAll 29 = .ok (.aload_n 0, 1) := by decide +kernel
theorem dX8_laysAll_30 : decode cX8_laysAll 30 = .ok (.getfield 26, 3) := by decide +kernel
theorem dX8_laysAll_33 : decode cX8_laysAll 33 = .ok (.iload_n 3, 1) := by decide +kernel
theorem dX8_laysAll_34 : decode cX8_laysAll 34 = .ok (.iaload, 1) := by decide +kernel
theorem dX8_laysAll_35 : decode cX8_laysAll 35 = .ok (.invokestatic 146, 3) := by decide +kernel
theorem dX8_laysAll_38 : decode cX8_laysAll 38 = .ok (.iadd, 1) := by decide +kernel
theorem dX8_laysAll_39 : decode cX8_laysAll 39 = .ok (.istore_n 1, 1) := by decide +kernel
theorem dX8_laysAll_40 : decode cX8_laysAll 40 = .ok (.iload_n 2, 1) := by decide +kernel
theorem dX8_laysAll_41 : decode cX8_laysAll 41 = .ok (.aload_n 0, 1) := by decide +kernel
theorem dX8_laysAll_42 : decode cX8_laysAll 42 = .ok (.getfield 23, 3) := by decide +kernel
theorem dX8_laysAll_45 : decode cX8_laysAll 45 = .ok (.aload_n 0, 1) := by decide +kernel
theorem dX8_laysAll_46 : decode cX8_laysAll 46 = .ok (.getfield 26, 3) := by decide +kernel
theorem dX8_laysAll_49 : decode cX8_laysAll 49 = .ok (.iload_n 3, 1) := by decide +kernel
theorem dX8_laysAll_50 : decode cX8_laysAll 50 = .ok (.iaload, 1) := by decide +kernel
theorem dX8_laysAll_51 : decode cX8_laysAll 51 = .ok (.iaload, 1) := by decide +kernel
theorem dX8_laysAll_52 : decode cX8_laysAll 52 = .ok (.iadd, 1) := by decide +kernel
theorem dX8_laysAll_53 : decode cX8_laysAll 53 = .ok (.istore_n 2, 1) := by decide +kernel
theorem dX8_laysAll_54 : decode cX8_laysAll 54 = .ok (.aload_n 0, 1) := by decide +kernel
theorem dX8_laysAll_55 : decode cX8_laysAll 55 = .ok (.getfield 42, 3) := by decide +kernel
theorem dX8_laysAll_58 : decode cX8_laysAll 58 = .ok (.iload_n 3, 1) := by decide +kernel
theorem dX8_laysAll_59 : decode cX8_laysAll 59 = .ok (.bipush (-2), 2) := by decide +kernel
theorem dX8_laysAll_61 : decode cX8_laysAll 61 = .ok (.iastore, 1) := by decide +kernel
theorem dX8_laysAll_62 : decode cX8_laysAll 62 = .ok (.iinc 3 1, 3) := by decide +kernel
theorem dX8_laysAll_65 : decode cX8_laysAll 65 = .ok (.goto (-59), 3) := by decide +kernel
theorem dX8_laysAll_68 : decode cX8_laysAll 68 = .ok (.aload_n 0, 1) := by decide +kernel
theorem dX8_laysAll_69 : decode cX8_laysAll 69 = .ok (.iconst 0, 1) := by decide +kernel
theorem dX8_laysAll_70 : decode cX8_laysAll 70 = .ok (.putfield 149, 3) := by decide +kernel
theorem dX8_laysAll_73 : decode cX8_laysAll 73 = .ok (.iconst 0, 1) := by decide +kernel
theorem dX8_laysAll_74 : decode cX8_laysAll 74 = .ok (.istore_n 3, 1) := by decide +kernel
theorem dX8_laysAll_75 : decode cX8_laysAll 75 = .ok (.iload_n 3, 1) := by decide +kernel
theorem dX8_laysAll_76 : decode cX8_laysAll 76 = .ok (.aload_n 0, 1) := by decide +kernel
theorem dX8_laysAll_77 : decode cX8_laysAll 77 = .ok (.getfield 133, 3) := by decide +kernel
theorem dX8_laysAll_80 : decode cX8_laysAll 80 = .ok (.if_icmp .ge 99, 3) := by decide +kernel
theorem dX8_laysAll_83 : decode cX8_laysAll 83 = .ok (.aload_n 0, 1) := by decide +kernel
theorem dX8_laysAll_84 : decode cX8_laysAll 84 = .ok (.iload_n 3, 1) := by decide +kernel
theorem dX8_laysAll_85 : decode cX8_laysAll 85 = .ok (.invokevirtual 136, 3) := by decide +kernel
theorem dX8_laysAll_88 : decode cX8_laysAll 88 = .ok (.ifCond .eq 12, 3) := by decide +kernel
theorem dX8_laysAll_91 : decode cX8_laysAll 91 = .ok (.aload_n 0, 1) := by decide +kernel
theorem dX8_laysAll_92 : decode cX8_laysAll 92 = .ok (.iload_n 3, 1) := by decide +kernel
theorem dX8_laysAll_93 : decode cX8_laysAll 93 = .ok (.iconst 0, 1) := by decide +kernel
theorem dX8_laysAll_94 : decode cX8_laysAll 94 = .ok (.invokevirtual 143, 3) := by decide +kernel
theorem dX8_laysAll_97 : decode cX8_laysAll 97 = .ok (.goto 6, 3) := by decide +kernel
theorem dX8_laysAll_100 : decode cX8_laysAll 100 = .ok (.iload_n 3, 1) := by decide +kernel
theorem dX8_laysAll_101 : decode cX8_laysAll 101 = .ok (.iconst 1, 1) := by decide +kernel
theorem dX8_laysAll_102 : decode cX8_laysAll 102 = .ok (.iadd, 1) := by decide +kernel
theorem dX8_laysAll_103 : decode cX8_laysAll 103 = .ok (.istore 4, 2) := by decide +kernel
theorem dX8_laysAll_105 : decode cX8_laysAll 105 = .ok (.iload 4, 2) := by decide +kernel
theorem dX8_laysAll_107 : decode cX8_laysAll 107 = .ok (.iload_n 3, 1) := by decide +kernel
theorem dX8_laysAll_108 : decode cX8_laysAll 108 = .ok (.isub, 1) := by decide +kernel
theorem dX8_laysAll_109 : decode cX8_laysAll 109 = .ok (.iconst 1, 1) := by decide +kernel
theorem dX8_laysAll_110 : decode cX8_laysAll 110 = .ok (.if_icmp .le 63, 3) := by decide +kernel
theorem dX8_laysAll_113 : decode cX8_laysAll 113 = .ok (.aload_n 0, 1) := by decide +kernel
theorem dX8_laysAll_114 : decode cX8_laysAll 114 = .ok (.getfield 45, 3) := by decide +kernel
theorem dX8_laysAll_117 : decode cX8_laysAll 117 = .ok (.aload_n 0, 1) := by decide +kernel
theorem dX8_laysAll_118 : decode cX8_laysAll 118 = .ok (.getfield 149, 3) := by decide +kernel
theorem dX8_laysAll_121 : decode cX8_laysAll 121 = .ok (.iload_n 3, 1) := by decide +kernel
theorem dX8_laysAll_122 : decode cX8_laysAll 122 = .ok (.iastore, 1) := by decide +kernel
theorem dX8_laysAll_123 : decode cX8_laysAll 123 = .ok (.aload_n 0, 1) := by decide +kernel
theorem dX8_laysAll_124 : decode cX8_laysAll 124 = .ok (.getfield 48, 3) := by decide +kernel
theorem dX8_laysAll_127 : decode cX8_laysAll 127 = .ok (.aload_n 0, 1) := by decide +kernel
theorem dX8_laysAll_128 : decode cX8_laysAll 128 = .ok (.getfield 149, 3) := by decide +kernel
theorem dX8_laysAll_131 : decode cX8_laysAll 131 = .ok (.iload 4, 2) := by decide +kernel
theorem dX8_laysAll_133 : decode cX8_laysAll 133 = .ok (.iload_n 3, 1) := by decide +kernel
theorem dX8_laysAll_134 : decode cX8_laysAll 134 = .ok (.isub, 1) := by decide +kernel
theorem dX8_laysAll_135 : decode cX8_laysAll 135 = .ok (.iastore, 1) := by decide +kernel
theorem dX8_laysAll_136 : decode cX8_laysAll 136 = .ok (.iload_n 3, 1) := by decide +kernel
theorem dX8_laysAll_137 : decode cX8_laysAll 137 = .ok (.istore 5, 2) := by decide +kernel
theorem dX8_laysAll_139 : decode cX8_laysAll 139 = .ok (.iload 5, 2) := by decide +kernel
theorem dX8_laysAll_141 : decode cX8_laysAll 141 = .ok (.iload 4, 2) := by decide +kernel
theorem dX8_laysAll_143 : decode cX8_laysAll 143 = .ok (.if_icmp .ge 20, 3) := by decide +kernel
theorem dX8_laysAll_146 : decode cX8_laysAll 146 = .ok (.aload_n 0, 1) := by decide +kernel
theorem dX8_laysAll_147 : decode cX8_laysAll 147 = .ok (.getfield 42, 3) := by decide +kernel
theorem dX8_laysAll_150 : decode cX8_laysAll 150 = .ok (.iload 5, 2) := by decide +kernel
theorem dX8_laysAll_152 : decode cX8_laysAll 152 = .ok (.aload_n 0, 1) := by decide +kernel
theorem dX8_laysAll_153 : decode cX8_laysAll 153 = .ok (.getfield 149, 3) := by decide +kernel
theorem dX8_laysAll_156 : decode cX8_laysAll 156 = .ok (.iastore, 1) := by decide +kernel
theorem dX8_laysAll_157 : decode cX8_laysAll 157 = .ok (.iinc 5 1, 3) := by decide +kernel
theorem dX8_laysAll_160 : decode cX8_laysAll 160 = .ok (.goto (-21), 3) := by decide +kernel
theorem dX8_laysAll_163 : decode cX8_laysAll 163 = .ok (.aload_n 0, 1) := by decide +kernel
theorem dX8_laysAll_164 : decode cX8_laysAll 164 = .ok (.dup, 1) := by decide +kernel
theorem dX8_laysAll_165 : decode cX8_laysAll 165 = .ok (.getfield 149, 3) := by decide +kernel
theorem dX8_laysAll_168 : decode cX8_laysAll 168 = .ok (.iconst 1, 1) := by decide +kernel
theorem dX8_laysAll_169 : decode cX8_laysAll 169 = .ok (.iadd, 1) := by decide +kernel
theorem dX8_laysAll_170 : decode cX8_laysAll 170 = .ok (.putfield 149, 3) := by decide +kernel
theorem dX8_laysAll_173 : decode cX8_laysAll 173 = .ok (.iload 4, 2) := by decide +kernel
theorem dX8_laysAll_175 : decode cX8_laysAll 175 = .ok (.istore_n 3, 1) := by decide +kernel
theorem dX8_laysAll_176 : decode cX8_laysAll 176 = .ok (.goto (-101), 3) := by decide +kernel
theorem dX8_laysAll_179 : decode cX8_laysAll 179 = .ok (.return_, 1) := by decide +kernel
theorem dX8_thinksPlainly_0 : decode cX8_thinksPlainly 0 = .ok (.iconst 0, 1) := by decide +kernel
theorem dX8_thinksPlainly_1 : decode cX8_thinksPlainly 1 = .ok (.istore_n 1, 1) := by decide +kernel
theorem dX8_thinksPlainly_2 : decode cX8_thinksPlainly 2 = .ok (.iload_n 1, 1) := by decide +kernel
theorem dX8_thinksPlainly_3 : decode cX8_thinksPlainly 3 = .ok (.bipush 64, 2) := by decide +kernel
theorem dX8_thinksPlainly_5 : decode cX8_thinksPlainly 5 = .ok (.if_icmp .ge 21, 3) := by decide +kernel
theorem dX8_thinksPlainly_8 : decode cX8_thinksPlainly 8 = .ok (.aload_n 0, 1) := by decide +kernel
theorem dX8_thinksPlainly_9 : decode cX8_thinksPlainly 9 = .ok (.getfield 51, 3) := by decide +kernel
theorem dX8_thinksPlainly_12 : decode cX8_thinksPlainly 12 = .ok (.iload_n 1, 1) := by decide +kernel
theorem dX8_thinksPlainly_13 : decode cX8_thinksPlainly 13 = .ok (.aload_n 0, 1) := by decide +kernel
theorem dX8_thinksPlainly_14 : decode cX8_thinksPlainly 14 = .ok (.getfield 33, 3) := by decide +kernel
theorem dX8_thinksPlainly_17 : decode cX8_thinksPlainly 17 = .ok (.iload_n 1, 1) := by decide +kernel
theorem dX8_thinksPlainly_18 : decode cX8_thinksPlainly 18 = .ok (.iaload, 1) := by decide +kernel
theorem dX8_thinksPlainly_19 : decode cX8_thinksPlainly 19 = .ok (.iastore, 1) := by decide +kernel
theorem dX8_thinksPlainly_20 : decode cX8_thinksPlainly 20 = .ok (.iinc 1 1, 3) := by decide +kernel
theorem dX8_thinksPlainly_23 : decode cX8_thinksPlainly 23 = .ok (.goto (-21), 3) := by decide +kernel
theorem dX8_thinksPlainly_26 : decode cX8_thinksPlainly 26 = .ok (.aload_n 0, 1) := by decide +kernel
theorem dX8_thinksPlainly_27 : decode cX8_thinksPlainly 27 = .ok (.aload_n 0, 1) := by decide +kernel
theorem dX8_thinksPlainly_28 : decode cX8_thinksPlainly 28 = .ok (.getfield 20, 3) := by decide +kernel
theorem dX8_thinksPlainly_31 : decode cX8_thinksPlainly 31 = .ok (.putfield 54, 3) := by decide +kernel
theorem dX8_thinksPlainly_34 : decode cX8_thinksPlainly 34 = .ok (.return_, 1) := by decide +kernel
theorem dX8_hasAt_0 : decode cX8_hasAt 0 = .ok (.iconst 0, 1) := by decide +kernel
theorem dX8_hasAt_1 : decode cX8_hasAt 1 = .ok (.istore_n 3, 1) := by decide +kernel
theorem dX8_hasAt_2 : decode cX8_hasAt 2 = .ok (.iconst 0, 1) := by decide +kernel
theorem dX8_hasAt_3 : decode cX8_hasAt 3 = .ok (.istore 4, 2) := by decide +kernel
theorem dX8_hasAt_5 : decode cX8_hasAt 5 = .ok (.iload 4, 2) := by decide +kernel
theorem dX8_hasAt_7 : decode cX8_hasAt 7 = .ok (.aload_n 0, 1) := by decide +kernel
theorem dX8_hasAt_8 : decode cX8_hasAt 8 = .ok (.getfield 48, 3) := by decide +kernel
theorem dX8_hasAt_11 : decode cX8_hasAt 11 = .ok (.iload_n 1, 1) := by decide +kernel
theorem dX8_hasAt_12 : decode cX8_hasAt 12 = .ok (.iaload, 1) := by decide +kernel
theorem dX8_hasAt_13 : decode cX8_hasAt 13 = .ok (.if_icmp .ge 37, 3) := by decide +kernel
theorem dX8_hasAt_16 : decode cX8_hasAt 16 = .ok (.iload_n 3, 1) := by decide +kernel
theorem dX8_hasAt_17 : decode cX8_hasAt 17 = .ok (.ifCond .ne 21, 3) := by decide +kernel
theorem dX8_hasAt_20 : decode cX8_hasAt 20 = .ok (.aload_n 0, 1) := by decide +kernel
theorem dX8_hasAt_21 : decode cX8_hasAt 21 = .ok (.getfield 51, 3) := by decide +kernel
theorem dX8_hasAt_24 : decode cX8_hasAt 24 = .ok (.aload_n 0, 1) := by decide +kernel
theorem dX8_hasAt_25 : decode cX8_hasAt 25 = .ok (.getfield 45, 3) := by decide +kernel
theorem dX8_hasAt_28 : decode cX8_hasAt 28 = .ok (.iload_n 1, 1) := by decide +kernel
theorem dX8_hasAt_29 : decode cX8_hasAt 29 = .ok (.iaload, 1) := by decide +kernel
theorem dX8_hasAt_30 : decode cX8_hasAt 30 = .ok (.iload 4, 2) := by decide +kernel
theorem dX8_hasAt_32 : decode cX8_hasAt 32 = .ok (.iadd, 1) := by decide +kernel
theorem dX8_hasAt_33 : decode cX8_hasAt 33 = .ok (.iaload, 1) := by decide +kernel
theorem dX8_hasAt_34 : decode cX8_hasAt 34 = .ok (.iload_n 2, 1) := by decide +kernel
theorem dX8_hasAt_35 : decode cX8_hasAt 35 = .ok (.if_icmp .ne 7, 3) := by decide +kernel
theorem dX8_hasAt_38 : decode cX8_hasAt 38 = .ok (.iconst 1, 1) := by decide +kernel
theorem dX8_hasAt_39 : decode cX8_hasAt 39 = .ok (.goto 4, 3) := by decide +kernel
theorem dX8_hasAt_42 : decode cX8_hasAt 42 = .ok (.iconst 0, 1) := by decide +kernel
theorem dX8_hasAt_43 : decode cX8_hasAt 43 = .ok (.istore_n 3, 1) := by decide +kernel
theorem dX8_hasAt_44 : decode cX8_hasAt 44 = .ok (.iinc 4 1, 3) := by decide +kernel
theorem dX8_hasAt_47 : decode cX8_hasAt 47 = .ok (.goto (-42), 3) := by decide +kernel
theorem dX8_hasAt_50 : decode cX8_hasAt 50 = .ok (.iload_n 3, 1) := by decide +kernel
theorem dX8_hasAt_51 : decode cX8_hasAt 51 = .ok (.ireturn, 1) := by decide +kernel
theorem dX8_gapBelow_0 : decode cX8_gapBelow 0 = .ok (.bipush 99, 2) := by decide +kernel
theorem dX8_gapBelow_2 : decode cX8_gapBelow 2 = .ok (.istore_n 2, 1) := by decide +kernel
theorem dX8_gapBelow_3 : decode cX8_gapBelow 3 = .ok (.iconst 0, 1) := by decide +kernel
theorem dX8_gapBelow_4 : decode cX8_gapBelow 4 = .ok (.istore_n 3, 1) := by decide +kernel
theorem dX8_gapBelow_5 : decode cX8_gapBelow 5 = .ok (.iconst 0, 1) := by decide +kernel
theorem dX8_gapBelow_6 : decode cX8_gapBelow 6 = .ok (.istore 4, 2) := by decide +kernel
theorem dX8_gapBelow_8 : decode cX8_gapBelow 8 = .ok (.bipush 99, 2) := by decide +kernel
theorem dX8_gapBelow_10 : decode cX8_gapBelow 10 = .ok (.istore 5, 2) := by decide +kernel
theorem dX8_gapBelow_12 : decode cX8_gapBelow 12 = .ok (.bipush (-12), 2) := by decide +kernel
theorem dX8_gapBelow_14 : decode cX8_gapBelow 14 = .ok (.istore 6, 2) := by decide +kernel
theorem dX8_gapBelow_16 : decode cX8_gapBelow 16 = .ok (.iload 6, 2) := by decide +kernel
theorem dX8_gapBelow_18 : decode cX8_gapBelow 18 = .ok (.bipush 12, 2) := by decide +kernel
theorem dX8_gapBelow_20 : decode cX8_gapBelow 20 = .ok (.if_icmp .gt 92, 3) := by decide +kernel
theorem dX8_gapBelow_23 : decode cX8_gapBelow 23 = .ok (.aload_n 0, 1) := by decide +kernel
theorem dX8_gapBelow_24 : decode cX8_gapBelow 24 = .ok (.iload_n 1, 1) := by decide +kernel
theorem dX8_gapBelow_25 : decode cX8_gapBelow 25 = .ok (.iload 6, 2) := by decide +kernel
theorem dX8_gapBelow_27 : decode cX8_gapBelow 27 = .ok (.invokevirtual 152, 3) := by decide +kernel
theorem dX8_gapBelow_30 : decode cX8_gapBelow 30 = .ok (.ifCond .ne 6, 3) := by decide +kernel
theorem dX8_gapBelow_33 : decode cX8_gapBelow 33 = .ok (.goto 73, 3) := by decide +kernel
theorem dX8_gapBelow_36 : decode cX8_gapBelow 36 = .ok (.iload 5, 2) := by decide +kernel
theorem dX8_gapBelow_38 : decode cX8_gapBelow 38 = .ok (.bipush 99, 2) := by decide +kernel
theorem dX8_gapBelow_40 : decode cX8_gapBelow 40 = .ok (.if_icmp .ne 7, 3) := by decide +kernel
theorem dX8_gapBelow_43 : decode cX8_gapBelow 43 = .ok (.iconst 0, 1) := by decide +kernel
theorem dX8_gapBelow_44 : decode cX8_gapBelow 44 = .ok (.goto 8, 3) := by decide +kernel
theorem dX8_gapBelow_47 : decode cX8_gapBelow 47 = .ok (.iload 6, 2) := by decide +kernel
theorem dX8_gapBelow_49 : decode cX8_gapBelow 49 = .ok (.iload 5, 2) := by decide +kernel
theorem dX8_gapBelow_51 : decode cX8_gapBelow 51 = .ok (.isub, 1) := by decide +kernel
theorem dX8_gapBelow_52 : decode cX8_gapBelow 52 = .ok (.istore 7, 2) := by decide +kernel
theorem dX8_gapBelow_54 : decode cX8_gapBelow 54 = .ok (.iload 6, 2) := by decide +kernel
theorem dX8_gapBelow_56 : decode cX8_gapBelow 56 = .ok (.iload 5, 2) := by decide +kernel
theorem dX8_gapBelow_58 : decode cX8_gapBelow 58 = .ok (.iadd, 1) := by decide +kernel
theorem dX8_gapBelow_59 : decode cX8_gapBelow 59 = .ok (.invokestatic 156, 3) := by decide +kernel
theorem dX8_gapBelow_62 : decode cX8_gapBelow 62 = .ok (.istore 8, 2) := by decide +kernel
theorem dX8_gapBelow_64 : decode cX8_gapBelow 64 = .ok (.iload 7, 2) := by decide +kernel
theorem dX8_gapBelow_66 : decode cX8_gapBelow 66 = .ok (.aload_n 0, 1) := by decide +kernel
theorem dX8_gapBelow_67 : decode cX8_gapBelow 67 = .ok (.getfield 54, 3) := by decide +kernel
theorem dX8_gapBelow_70 : decode cX8_gapBelow 70 = .ok (.if_icmp .lt 32, 3) := by decide +kernel
theorem dX8_gapBelow_73 : decode cX8_gapBelow 73 = .ok (.iload 7, 2) := by decide +kernel
theorem dX8_gapBelow_75 : decode cX8_gapBelow 75 = .ok (.iload_n 3, 1) := by decide +kernel
theorem dX8_gapBelow_76 : decode cX8_gapBelow 76 = .ok (.if_icmp .gt 16, 3) := by decide +kernel
theorem dX8_gapBelow_79 : decode cX8_gapBelow 79 = .ok (.iload 7, 2) := by decide +kernel
theorem dX8_gapBelow_81 : decode cX8_gapBelow 81 = .ok (.iload_n 3, 1) := by decide +kernel
theorem dX8_gapBelow_82 : decode cX8_gapBelow 82 = .ok (.if_icmp .ne 20, 3) := by decide +kernel
theorem dX8_gapBelow_85 : decode cX8_gapBelow 85 = .ok (.iload 8, 2) := by decide +kernel
theorem dX8_gapBelow_87 : decode cX8_gapBelow 87 = .ok (.iload 4, 2) := by decide +kernel
theorem dX8_gapBelow_89 : decode cX8_gapBelow 89 = .ok (.if_icmp .ge 13, 3) := by decide +kernel
theorem dX8_gapBelow_92 : decode cX8_gapBelow 92 = .ok (.iload 5, 2) := by decide +kernel
theorem dX8_gapBelow_94 : decode cX8_gapBelow 94 = .ok (.istore_n 2, 1) := by decide +kernel
theorem dX8_gapBelow_95 : decode cX8_gapBelow 95 = .ok (.iload 7, 2) := by decide +kernel
theorem dX8_gapBelow_97 : decode cX8_gapBelow 97 = .ok (.istore_n 3, 1) := by decide +kernel
theorem dX8_gapBelow_98 : decode cX8_gapBelow 98 = .ok (.iload 8, 2) := by decide +kernel
theorem dX8_gapBelow_100 : decode cX8_gapBelow 100 = .ok (.istore 4, 2) := by decide +kernel
theorem dX8_gapBelow_102 : decode cX8_gapBelow 102 = .ok (.iload 6, 2) := by decide +kernel
theorem dX8_gapBelow_104 : decode cX8_gapBelow 104 = .ok (.istore 5, 2) := by decide +kernel
theorem dX8_gapBelow_106 : decode cX8_gapBelow 106 = .ok (.iinc 6 1, 3) := by decide +kernel
theorem dX8_gapBelow_109 : decode cX8_gapBelow 109 = .ok (.goto (-93), 3) := by decide +kernel
theorem dX8_gapBelow_112 : decode cX8_gapBelow 112 = .ok (.iload_n 2, 1) := by decide +kernel
theorem dX8_gapBelow_113 : decode cX8_gapBelow 113 = .ok (.ireturn, 1) := by decide +kernel
theorem dX8_plainWay_0 : decode cX8_plainWay 0 = .ok (.iconst 0, 1) := by decide +kernel
theorem dX8_plainWay_1 : decode cX8_plainWay 1 = .ok (.istore_n 2, 1) := by decide +kernel
theorem dX8_plainWay_2 : decode cX8_plainWay 2 = .ok (.iconst 0, 1) := by decide +kernel
theorem dX8_plainWay_3 : decode cX8_plainWay 3 = .ok (.istore_n 3, 1) := by decide +kernel
theorem dX8_plainWay_4 : decode cX8_plainWay 4 = .ok (.iconst 0, 1) := by decide +kernel
theorem dX8_plainWay_5 : decode cX8_plainWay 5 = .ok (.istore 4, 2) := by decide +kernel
theorem dX8_plainWay_7 : decode cX8_plainWay 7 = .ok (.iconst 0, 1) := by decide +kernel
theorem dX8_plainWay_8 : decode cX8_plainWay 8 = .ok (.istore 5, 2) := by decide +kernel
theorem dX8_plainWay_10 : decode cX8_plainWay 10 = .ok (.iload 5, 2) := by decide +kernel
theorem dX8_plainWay_12 : decode cX8_plainWay 12 = .ok (.aload_n 0, 1) := by decide +kernel
theorem dX8_plainWay_13 : decode cX8_plainWay 13 = .ok (.getfield 48, 3) := by decide +kernel
theorem dX8_plainWay_16 : decode cX8_plainWay 16 = .ok (.iload_n 1, 1) := by decide +kernel
theorem dX8_plainWay_17 : decode cX8_plainWay 17 = .ok (.iaload, 1) := by decide +kernel
theorem dX8_plainWay_18 : decode cX8_plainWay 18 = .ok (.if_icmp .ge 60, 3) := by decide +kernel
theorem dX8_plainWay_21 : decode cX8_plainWay 21 = .ok (.aload_n 0, 1) := by decide +kernel
theorem dX8_plainWay_22 : decode cX8_plainWay 22 = .ok (.getfield 51, 3) := by decide +kernel
theorem dX8_plainWay_25 : decode cX8_plainWay 25 = .ok (.aload_n 0, 1) := by decide +kernel
theorem dX8_plainWay_26 : decode cX8_plainWay 26 = .ok (.getfield 45, 3) := by decide +kernel
theorem dX8_plainWay_29 : decode cX8_plainWay 29 = .ok (.iload_n 1, 1) := by decide +kernel
theorem dX8_plainWay_30 : decode cX8_plainWay 30 = .ok (.iaload, 1) := by decide +kernel
theorem dX8_plainWay_31 : decode cX8_plainWay 31 = .ok (.iload 5, 2) := by decide +kernel
theorem dX8_plainWay_33 : decode cX8_plainWay 33 = .ok (.iadd, 1) := by decide +kernel
theorem dX8_plainWay_34 : decode cX8_plainWay 34 = .ok (.iaload, 1) := by decide +kernel
theorem dX8_plainWay_35 : decode cX8_plainWay 35 = .ok (.istore 6, 2) := by decide +kernel
theorem dX8_plainWay_37 : decode cX8_plainWay 37 = .ok (.iload 6, 2) := by decide +kernel
theorem dX8_plainWay_39 : decode cX8_plainWay 39 = .ok (.iload_n 2, 1) := by decide +kernel
theorem dX8_plainWay_40 : decode cX8_plainWay 40 = .ok (.if_icmp .le 8, 3) := by decide +kernel
theorem dX8_plainWay_43 : decode cX8_plainWay 43 = .ok (.iload 6, 2) := by decide +kernel
theorem dX8_plainWay_45 : decode cX8_plainWay 45 = .ok (.goto 4, 3) := by decide +kernel
theorem dX8_plainWay_48 : decode cX8_plainWay 48 = .ok (.iload_n 2, 1) := by decide +kernel
theorem dX8_plainWay_49 : decode cX8_plainWay 49 = .ok (.istore_n 2, 1) := by decide +kernel
theorem dX8_plainWay_50 : decode cX8_plainWay 50 = .ok (.iload 6, 2) := by decide +kernel
theorem dX8_plainWay_52 : decode cX8_plainWay 52 = .ok (.ineg, 1) := by decide +kernel
theorem dX8_plainWay_53 : decode cX8_plainWay 53 = .ok (.iload_n 3, 1) := by decide +kernel
theorem dX8_plainWay_54 : decode cX8_plainWay 54 = .ok (.if_icmp .le 9, 3) := by decide +kernel
theorem dX8_plainWay_57 : decode cX8_plainWay 57 = .ok (.iload 6, 2) := by decide +kernel
theorem dX8_plainWay_59 : decode cX8_plainWay 59 = .ok (.ineg, 1) := by decide +kernel
theorem dX8_plainWay_60 : decode cX8_plainWay 60 = .ok (.goto 4, 3) := by decide +kernel
theorem dX8_plainWay_63 : decode cX8_plainWay 63 = .ok (.iload_n 3, 1) := by decide +kernel
theorem dX8_plainWay_64 : decode cX8_plainWay 64 = .ok (.istore_n 3, 1) := by decide +kernel
theorem dX8_plainWay_65 : decode cX8_plainWay 65 = .ok (.iload 4, 2) := by decide +kernel
theorem dX8_plainWay_67 : decode cX8_plainWay 67 = .ok (.iload 6, 2) := by decide +kernel
theorem dX8_plainWay_69 : decode cX8_plainWay 69 = .ok (.iadd, 1) := by decide +kernel
theorem dX8_plainWay_70 : decode cX8_plainWay 70 = .ok (.istore 4, 2) := by decide +kernel
theorem dX8_plainWay_72 : decode cX8_plainWay 72 = .ok (.iinc 5 1, 3) := by decide +kernel
theorem dX8_plainWay_75 : decode cX8_plainWay 75 = .ok (.goto (-65), 3) := by decide +kernel
theorem dX8_plainWay_78 : decode cX8_plainWay 78 = .ok (.iload_n 2, 1) := by decide +kernel
theorem dX8_plainWay_79 : decode cX8_plainWay 79 = .ok (.iload_n 3, 1) := by decide +kernel
theorem dX8_plainWay_80 : decode cX8_plainWay 80 = .ok (.if_icmp .eq 14, 3) := by decide +kernel
theorem dX8_plainWay_83 : decode cX8_plainWay 83 = .ok (.iload_n 2, 1) := by decide +kernel
theorem dX8_plainWay_84 : decode cX8_plainWay 84 = .ok (.iload_n 3, 1) := by decide +kernel
theorem dX8_plainWay_85 : decode cX8_plainWay 85 = .ok (.if_icmp .le 7, 3) := by decide +kernel
theorem dX8_plainWay_88 : decode cX8_plainWay 88 = .ok (.iconst (-1), 1) := by decide +kernel
theorem dX8_plainWay_89 : decode cX8_plainWay 89 = .ok (.goto 4, 3) := by decide +kernel
theorem dX8_plainWay_92 : decode cX8_plainWay 92 = .ok (.iconst 1, 1) := by decide +kernel
theorem dX8_plainWay_93 : decode cX8_plainWay 93 = .ok (.ireturn, 1) := by decide +kernel
theorem dX8_plainWay_94 : decode cX8_plainWay 94 = .ok (.iload 4, 2) := by decide +kernel
theorem dX8_plainWay_96 : decode cX8_plainWay 96 = .ok (.ifCond .eq 14, 3) := by decide +kernel
theorem dX8_plainWay_99 : decode cX8_plainWay 99 = .ok (.iload 4, 2) := by decide +kernel
theorem dX8_plainWay_101 : decode cX8_plainWay 101 = .ok (.ifCond .le 7, 3) := by decide +kernel
theorem dX8_plainWay_104 : decode cX8_plainWay 104 = .ok (.iconst (-1), 1) := by decide +kernel
theorem dX8_plainWay_105 : decode cX8_plainWay 105 = .ok (.goto 4, 3) := by decide +kernel
theorem dX8_plainWay_108 : decode cX8_plainWay 108 = .ok (.iconst 1, 1) := by decide +kernel
theorem dX8_plainWay_109 : decode cX8_plainWay 109 = .ok (.ireturn, 1) := by decide +kernel
theorem dX8_plainWay_110 : decode cX8_plainWay 110 = .ok (.aload_n 0, 1) := by decide +kernel
theorem dX8_plainWay_111 : decode cX8_plainWay 111 = .ok (.getfield 51, 3) := by decide +kernel
theorem dX8_plainWay_114 : decode cX8_plainWay 114 = .ok (.aload_n 0, 1) := by decide +kernel
theorem dX8_plainWay_115 : decode cX8_plainWay 115 = .ok (.getfield 45, 3) := by decide +kernel
theorem dX8_plainWay_118 : decode cX8_plainWay 118 = .ok (.iload_n 1, 1) := by decide +kernel
theorem dX8_plainWay_119 : decode cX8_plainWay 119 = .ok (.iaload, 1) := by decide +kernel
theorem dX8_plainWay_120 : decode cX8_plainWay 120 = .ok (.iaload, 1) := by decide +kernel
theorem dX8_plainWay_121 : decode cX8_plainWay 121 = .ok (.ifCond .lt 7, 3) := by decide +kernel
theorem dX8_plainWay_124 : decode cX8_plainWay 124 = .ok (.iconst (-1), 1) := by decide +kernel
theorem dX8_plainWay_125 : decode cX8_plainWay 125 = .ok (.goto 4, 3) := by decide +kernel
theorem dX8_plainWay_128 : decode cX8_plainWay 128 = .ok (.iconst 1, 1) := by decide +kernel
theorem dX8_plainWay_129 : decode cX8_plainWay 129 = .ok (.ireturn, 1) := by decide +kernel
theorem dX8_laysWays_0 : decode cX8_laysWays 0 = .ok (.aload_n 0, 1) := by decide +kernel
theorem dX8_laysWays_1 : decode cX8_laysWays 1 = .ok (.iload_n 1, 1) := by decide +kernel
theorem dX8_laysWays_2 : decode cX8_laysWays 2 = .ok (.invokevirtual 159, 3) := by decide +kernel
theorem dX8_laysWays_5 : decode cX8_laysWays 5 = .ok (.istore_n 2, 1) := by decide +kernel
theorem dX8_laysWays_6 : decode cX8_laysWays 6 = .ok (.aload_n 0, 1) := by decide +kernel
theorem dX8_laysWays_7 : decode cX8_laysWays 7 = .ok (.iload_n 2, 1) := by decide +kernel
theorem dX8_laysWays_8 : decode cX8_laysWays 8 = .ok (.bipush 99, 2) := by decide +kernel
theorem dX8_laysWays_10 : decode cX8_laysWays 10 = .ok (.if_icmp .eq 7, 3) := by decide +kernel
theorem dX8_laysWays_13 : decode cX8_laysWays 13 = .ok (.iconst 1, 1) := by decide +kernel
theorem dX8_laysWays_14 : decode cX8_laysWays 14 = .ok (.goto 4, 3) := by decide +kernel
theorem dX8_laysWays_17 : decode cX8_laysWays 17 = .ok (.iconst 0, 1) := by decide +kernel
theorem dX8_laysWays_18 : decode cX8_laysWays 18 = .ok (.putfield 162, 3) := by decide +kernel
theorem dX8_laysWays_21 : decode cX8_laysWays 21 = .ok (.aload_n 0, 1) := by decide +kernel
theorem dX8_laysWays_22 : decode cX8_laysWays 22 = .ok (.getfield 162, 3) := by decide +kernel
theorem dX8_laysWays_25 : decode cX8_laysWays 25 = .ok (.ifCond .eq 7, 3) := by decide +kernel
theorem dX8_laysWays_28 : decode cX8_laysWays 28 = .ok (.iconst 0, 1) := by decide +kernel
theorem dX8_laysWays_29 : decode cX8_laysWays 29 = .ok (.goto 8, 3) := by decide +kernel
theorem dX8_laysWays_32 : decode cX8_laysWays 32 = .ok (.aload_n 0, 1) := by decide +kernel
theorem dX8_laysWays_33 : decode cX8_laysWays 33 = .ok (.iload_n 1, 1) := by decide +kernel
theorem dX8_laysWays_34 : decode cX8_laysWays 34 = .ok (.invokevirtual 166, 3) := by decide +kernel
theorem dX8_laysWays_37 : decode cX8_laysWays 37 = .ok (.istore_n 3, 1) := by decide +kernel
theorem dX8_laysWays_38 : decode cX8_laysWays 38 = .ok (.iconst 0, 1) := by decide +kernel
theorem dX8_laysWays_39 : decode cX8_laysWays 39 = .ok (.istore 4, 2) := by decide +kernel
theorem dX8_laysWays_41 : decode cX8_laysWays 41 = .ok (.iload 4, 2) := by decide +kernel
theorem dX8_laysWays_43 : decode cX8_laysWays 43 = .ok (.aload_n 0, 1) := by decide +kernel
theorem dX8_laysWays_44 : decode cX8_laysWays 44 = .ok (.getfield 48, 3) := by decide +kernel
theorem dX8_laysWays_47 : decode cX8_laysWays 47 = .ok (.iload_n 1, 1) := by decide +kernel
theorem dX8_laysWays_48 : decode cX8_laysWays 48 = .ok (.iaload, 1) := by decide +kernel
theorem dX8_laysWays_49 : decode cX8_laysWays 49 = .ok (.if_icmp .ge 54, 3) := by decide +kernel
theorem dX8_laysWays_52 : decode cX8_laysWays 52 = .ok (.aload_n 0, 1) := by decide +kernel
theorem dX8_laysWays_53 : decode cX8_laysWays 53 = .ok (.getfield 45, 3) := by decide +kernel
theorem dX8_laysWays_56 : decode cX8_laysWays 56 = .ok (.iload_n 1, 1) := by decide +kernel
theorem dX8_laysWays_57 : decode cX8_laysWays 57 = .ok (.iaload, 1) := by decide +kernel
theorem dX8_laysWays_58 : decode cX8_laysWays 58 = .ok (.iload 4, 2) := by decide +kernel
theorem dX8_laysWays_60 : decode cX8_laysWays 60 = .ok (.iadd, 1) := by decide +kernel
theorem dX8_laysWays_61 : decode cX8_laysWays 61 = .ok (.istore 5, 2) := by decide +kernel
theorem dX8_laysWays_63 : decode cX8_laysWays 63 = .ok (.aload_n 0, 1) := by decide +kernel
theorem dX8_laysWays_64 : decode cX8_laysWays 64 = .ok (.getfield 57, 3) := by decide +kernel
theorem dX8_laysWays_67 : decode cX8_laysWays 67 = .ok (.iload 5, 2) := by decide +kernel
theorem dX8_laysWays_69 : decode cX8_laysWays 69 = .ok (.aload_n 0, 1) := by decide +kernel
theorem dX8_laysWays_70 : decode cX8_laysWays 70 = .ok (.getfield 162, 3) := by decide +kernel
theorem dX8_laysWays_73 : decode cX8_laysWays 73 = .ok (.ifCond .ne 7, 3) := by decide +kernel
theorem dX8_laysWays_76 : decode cX8_laysWays 76 = .ok (.iload_n 3, 1) := by decide +kernel
theorem dX8_laysWays_77 : decode cX8_laysWays 77 = .ok (.goto 19, 3) := by decide +kernel
theorem dX8_laysWays_80 : decode cX8_laysWays 80 = .ok (.aload_n 0, 1) := by decide +kernel
theorem dX8_laysWays_81 : decode cX8_laysWays 81 = .ok (.getfield 51, 3) := by decide +kernel
theorem dX8_laysWays_84 : decode cX8_laysWays 84 = .ok (.iload 5, 2) := by decide +kernel
theorem dX8_laysWays_86 : decode cX8_laysWays 86 = .ok (.iaload, 1) := by decide +kernel
theorem dX8_laysWays_87 : decode cX8_laysWays 87 = .ok (.iload_n 2, 1) := by decide +kernel
theorem dX8_laysWays_88 : decode cX8_laysWays 88 = .ok (.if_icmp .le 7, 3) := by decide +kernel
theorem dX8_laysWays_91 : decode cX8_laysWays 91 = .ok (.iconst (-1), 1) := by decide +kernel
theorem dX8_laysWays_92 : decode cX8_laysWays 92 = .ok (.goto 4, 3) := by decide +kernel
theorem dX8_laysWays_95 : decode cX8_laysWays 95 = .ok (.iconst 1, 1) := by decide +kernel
theorem dX8_laysWays_96 : decode cX8_laysWays 96 = .ok (.iastore, 1) := by decide +kernel
theorem dX8_laysWays_97 : decode cX8_laysWays 97 = .ok (.iinc 4 1, 3) := by decide +kernel
theorem dX8_laysWays_100 : decode cX8_laysWays 100 = .ok (.goto (-59), 3) := by decide +kernel
theorem dX8_laysWays_103 : decode cX8_laysWays 103 = .ok (.return_, 1) := by decide +kernel
theorem dX8_opens_0 : decode cX8_opens 0 = .ok (.aload_n 0, 1) := by decide +kernel
theorem dX8_opens_1 : decode cX8_opens 1 = .ok (.iload_n 1, 1) := by decide +kernel
theorem dX8_opens_2 : decode cX8_opens 2 = .ok (.invokevirtual 169, 3) := by decide +kernel
theorem dX8_opens_5 : decode cX8_opens 5 = .ok (.aload_n 0, 1) := by decide +kernel
theorem dX8_opens_6 : decode cX8_opens 6 = .ok (.aload_n 0, 1) := by decide +kernel
theorem dX8_opens_7 : decode cX8_opens 7 = .ok (.getfield 45, 3) := by decide +kernel
theorem dX8_opens_10 : decode cX8_opens 10 = .ok (.iload_n 1, 1) := by decide +kernel
theorem dX8_opens_11 : decode cX8_opens 11 = .ok (.iaload, 1) := by decide +kernel
theorem dX8_opens_12 : decode cX8_opens 12 = .ok (.putfield 173, 3) := by decide +kernel
theorem dX8_opens_15 : decode cX8_opens 15 = .ok (.aload_n 0, 1) := by decide +kernel
theorem dX8_opens_16 : decode cX8_opens 16 = .ok (.aload_n 0, 1) := by decide +kernel
theorem dX8_opens_17 : decode cX8_opens 17 = .ok (.getfield 173, 3) := by decide +kernel
theorem dX8_opens_20 : decode cX8_opens 20 = .ok (.aload_n 0, 1) := by decide +kernel
theorem dX8_opens_21 : decode cX8_opens 21 = .ok (.getfield 48, 3) := by decide +kernel
theorem dX8_opens_24 : decode cX8_opens 24 = .ok (.iload_n 1, 1) := by decide +kernel
theorem dX8_opens_25 : decode cX8_opens 25 = .ok (.iaload, 1) := by decide +kernel
theorem dX8_opens_26 : decode cX8_opens 26 = .ok (.iadd, 1) := by decide +kernel
theorem dX8_opens_27 : decode cX8_opens 27 = .ok (.iconst 1, 1) := by decide +kernel
theorem dX8_opens_28 : decode cX8_opens 28 = .ok (.isub, 1) := by decide +kernel
theorem dX8_opens_29 : decode cX8_opens 29 = .ok (.putfield 176, 3) := by decide +kernel
theorem dX8_opens_32 : decode cX8_opens 32 = .ok (.aload_n 0, 1) := by decide +kernel
theorem dX8_opens_33 : decode cX8_opens 33 = .ok (.aload_n 0, 1) := by decide +kernel
theorem dX8_opens_34 : decode cX8_opens 34 = .ok (.getfield 39, 3) := by decide +kernel
theorem dX8_opens_37 : decode cX8_opens 37 = .ok (.aload_n 0, 1) := by decide +kernel
theorem dX8_opens_38 : decode cX8_opens 38 = .ok (.getfield 176, 3) := by decide +kernel
theorem dX8_opens_41 : decode cX8_opens 41 = .ok (.iaload, 1) := by decide +kernel
theorem dX8_opens_42 : decode cX8_opens 42 = .ok (.aload_n 0, 1) := by decide +kernel
theorem dX8_opens_43 : decode cX8_opens 43 = .ok (.getfield 39, 3) := by decide +kernel
theorem dX8_opens_46 : decode cX8_opens 46 = .ok (.aload_n 0, 1) := by decide +kernel
theorem dX8_opens_47 : decode cX8_opens 47 = .ok (.getfield 173, 3) := by decide +kernel
theorem dX8_opens_50 : decode cX8_opens 50 = .ok (.iaload, 1) := by decide +kernel
theorem dX8_opens_51 : decode cX8_opens 51 = .ok (.isub, 1) := by decide +kernel
theorem dX8_opens_52 : decode cX8_opens 52 = .ok (.putfield 179, 3) := by decide +kernel
theorem dX8_opens_55 : decode cX8_opens 55 = .ok (.return_, 1) := by decide +kernel
theorem dX8_heightAt_0 : decode cX8_heightAt 0 = .ok (.aload_n 0, 1) := by decide +kernel
theorem dX8_heightAt_1 : decode cX8_heightAt 1 = .ok (.getfield 39, 3) := by decide +kernel
theorem dX8_heightAt_4 : decode cX8_heightAt 4 = .ok (.iload_n 1, 1) := by decide +kernel
theorem dX8_heightAt_5 : decode cX8_heightAt 5 = .ok (.iaload, 1) := by decide +kernel
theorem dX8_heightAt_6 : decode cX8_heightAt 6 = .ok (.aload_n 0, 1) := by decide +kernel
theorem dX8_heightAt_7 : decode cX8_heightAt 7 = .ok (.getfield 39, 3) := by decide +kernel
theorem dX8_heightAt_10 : decode cX8_heightAt 10 = .ok (.aload_n 0, 1) := by decide +kernel
theorem dX8_heightAt_11 : decode cX8_heightAt 11 = .ok (.getfield 173, 3) := by decide +kernel
theorem dX8_heightAt_14 : decode cX8_heightAt 14 = .ok (.iaload, 1) := by decide +kernel
theorem dX8_heightAt_15 : decode cX8_heightAt 15 = .ok (.isub, 1) := by decide +kernel
theorem dX8_heightAt_16 : decode cX8_heightAt 16 = .ok (.istore 4, 2) := by decide +kernel
theorem dX8_heightAt_18 : decode cX8_heightAt 18 = .ok (.iload_n 2, 1) := by decide +kernel
theorem dX8_heightAt_19 : decode cX8_heightAt 19 = .ok (.aload_n 0, 1) := by decide +kernel
theorem dX8_heightAt_20 : decode cX8_heightAt 20 = .ok (.getfield 179, 3) := by decide +kernel
theorem dX8_heightAt_23 : decode cX8_heightAt 23 = .ok (.iload 4, 2) := by decide +kernel
theorem dX8_heightAt_25 : decode cX8_heightAt 25 = .ok (.isub, 1) := by decide +kernel
theorem dX8_heightAt_26 : decode cX8_heightAt 26 = .ok (.imul, 1) := by decide +kernel
theorem dX8_heightAt_27 : decode cX8_heightAt 27 = .ok (.iload_n 3, 1) := by decide +kernel
theorem dX8_heightAt_28 : decode cX8_heightAt 28 = .ok (.iload 4, 2) := by decide +kernel
theorem dX8_heightAt_30 : decode cX8_heightAt 30 = .ok (.imul, 1) := by decide +kernel
theorem dX8_heightAt_31 : decode cX8_heightAt 31 = .ok (.iadd, 1) := by decide +kernel
theorem dX8_heightAt_32 : decode cX8_heightAt 32 = .ok (.ireturn, 1) := by decide +kernel
theorem dX8_lengthAt_0 : decode cX8_lengthAt 0 = .ok (.aload_n 0, 1) := by decide +kernel
theorem dX8_lengthAt_1 : decode cX8_lengthAt 1 = .ok (.iload_n 1, 1) := by decide +kernel
theorem dX8_lengthAt_2 : decode cX8_lengthAt 2 = .ok (.iload_n 2, 1) := by decide +kernel
theorem dX8_lengthAt_3 : decode cX8_lengthAt 3 = .ok (.iload_n 3, 1) := by decide +kernel
theorem dX8_lengthAt_4 : decode cX8_lengthAt 4 = .ok (.invokevirtual 182, 3) := by decide +kernel
theorem dX8_lengthAt_7 : decode cX8_lengthAt 7 = .ok (.iconst 2, 1) := by decide +kernel
theorem dX8_lengthAt_8 : decode cX8_lengthAt 8 = .ok (.aload_n 0, 1) := by decide +kernel
theorem dX8_lengthAt_9 : decode cX8_lengthAt 9 = .ok (.getfield 51, 3) := by decide +kernel
theorem dX8_lengthAt_12 : decode cX8_lengthAt 12 = .ok (.iload_n 1, 1) := by decide +kernel
theorem dX8_lengthAt_13 : decode cX8_lengthAt 13 = .ok (.iaload, 1) := by decide +kernel
theorem dX8_lengthAt_14 : decode cX8_lengthAt 14 = .ok (.imul, 1) := by decide +kernel
theorem dX8_lengthAt_15 : decode cX8_lengthAt 15 = .ok (.aload_n 0, 1) := by decide +kernel
theorem dX8_lengthAt_16 : decode cX8_lengthAt 16 = .ok (.getfield 179, 3) := by decide +kernel
theorem dX8_lengthAt_19 : decode cX8_lengthAt 19 = .ok (.imul, 1) := by decide +kernel
theorem dX8_lengthAt_20 : decode cX8_lengthAt 20 = .ok (.isub, 1) := by decide +kernel
theorem dX8_lengthAt_21 : decode cX8_lengthAt 21 = .ok (.istore 4, 2) := by decide +kernel
theorem dX8_lengthAt_23 : decode cX8_lengthAt 23 = .ok (.aload_n 0, 1) := by decide +kernel
theorem dX8_lengthAt_24 : decode cX8_lengthAt 24 = .ok (.getfield 57, 3) := by decide +kernel
theorem dX8_lengthAt_27 : decode cX8_lengthAt 27 = .ok (.iload_n 1, 1) := by decide +kernel
theorem dX8_lengthAt_28 : decode cX8_lengthAt 28 = .ok (.iaload, 1) := by decide +kernel
theorem dX8_lengthAt_29 : decode cX8_lengthAt 29 = .ok (.ifCond .le 8, 3) := by decide +kernel
theorem dX8_lengthAt_32 : decode cX8_lengthAt 32 = .ok (.iload 4, 2) := by decide +kernel
theorem dX8_lengthAt_34 : decode cX8_lengthAt 34 = .ok (.goto 6, 3) := by decide +kernel
theorem dX8_lengthAt_37 : decode cX8_lengthAt 37 = .ok (.iload 4, 2) := by decide +kernel
theorem dX8_lengthAt_39 : decode cX8_lengthAt 39 = .ok (.ineg, 1) := by decide +kernel
theorem dX8_lengthAt_40 : decode cX8_lengthAt 40 = .ok (.ireturn, 1) := by decide +kernel
theorem dX8_idealOf_0 : decode cX8_idealOf 0 = .ok (.aload_n 0, 1) := by decide +kernel
theorem dX8_idealOf_1 : decode cX8_idealOf 1 = .ok (.getfield 26, 3) := by decide +kernel
theorem dX8_idealOf_4 : decode cX8_idealOf 4 = .ok (.iload_n 1, 1) := by decide +kernel
theorem dX8_idealOf_5 : decode cX8_idealOf 5 = .ok (.iaload, 1) := by decide +kernel
theorem dX8_idealOf_6 : decode cX8_idealOf 6 = .ok (.iconst 1, 1) := by decide +kernel
theorem dX8_idealOf_7 : decode cX8_idealOf 7 = .ok (.if_icmp .ne 8, 3) := by decide +kernel
theorem dX8_idealOf_10 : decode cX8_idealOf 10 = .ok (.bipush 14, 2) := by decide +kernel
theorem dX8_idealOf_12 : decode cX8_idealOf 12 = .ok (.goto 20, 3) := by decide +kernel
theorem dX8_idealOf_15 : decode cX8_idealOf 15 = .ok (.aload_n 0, 1) := by decide +kernel
theorem dX8_idealOf_16 : decode cX8_idealOf 16 = .ok (.getfield 26, 3) := by decide +kernel
theorem dX8_idealOf_19 : decode cX8_idealOf 19 = .ok (.iload_n 1, 1) := by decide +kernel
theorem dX8_idealOf_20 : decode cX8_idealOf 20 = .ok (.iaload, 1) := by decide +kernel
theorem dX8_idealOf_21 : decode cX8_idealOf 21 = .ok (.iconst 2, 1) := by decide +kernel
theorem dX8_idealOf_22 : decode cX8_idealOf 22 = .ok (.if_icmp .ne 8, 3) := by decide +kernel
theorem dX8_idealOf_25 : decode cX8_idealOf 25 = .ok (.bipush 15, 2) := by decide +kernel
theorem dX8_idealOf_27 : decode cX8_idealOf 27 = .ok (.goto 5, 3) := by decide +kernel
theorem dX8_idealOf_30 : decode cX8_idealOf 30 = .ok (.bipush 17, 2) := by decide +kernel
theorem dX8_idealOf_32 : decode cX8_idealOf 32 = .ok (.istore_n 2, 1) := by decide +kernel
theorem dX8_idealOf_33 : decode cX8_idealOf 33 = .ok (.bipush (-2), 2) := by decide +kernel
theorem dX8_idealOf_35 : decode cX8_idealOf 35 = .ok (.aload_n 0, 1) := by decide +kernel
theorem dX8_idealOf_36 : decode cX8_idealOf 36 = .ok (.getfield 51, 3) := by decide +kernel
theorem dX8_idealOf_39 : decode cX8_idealOf 39 = .ok (.iload_n 1, 1) := by decide +kernel
theorem dX8_idealOf_40 : decode cX8_idealOf 40 = .ok (.iaload, 1) := by decide +kernel
theorem dX8_idealOf_41 : decode cX8_idealOf 41 = .ok (.imul, 1) := by decide +kernel
theorem dX8_idealOf_42 : decode cX8_idealOf 42 = .ok (.aload_n 0, 1) := by decide +kernel
theorem dX8_idealOf_43 : decode cX8_idealOf 43 = .ok (.getfield 57, 3) := by decide +kernel
theorem dX8_idealOf_46 : decode cX8_idealOf 46 = .ok (.iload_n 1, 1) := by decide +kernel
theorem dX8_idealOf_47 : decode cX8_idealOf 47 = .ok (.iaload, 1) := by decide +kernel
theorem dX8_idealOf_48 : decode cX8_idealOf 48 = .ok (.imul, 1) := by decide +kernel
theorem dX8_idealOf_49 : decode cX8_idealOf 49 = .ok (.istore_n 3, 1) := by decide +kernel
theorem dX8_idealOf_50 : decode cX8_idealOf 50 = .ok (.iload_n 3, 1) := by decide +kernel
theorem dX8_idealOf_51 : decode cX8_idealOf 51 = .ok (.iload_n 2, 1) := by decide +kernel
theorem dX8_idealOf_52 : decode cX8_idealOf 52 = .ok (.if_icmp .le 7, 3) := by decide +kernel
theorem dX8_idealOf_55 : decode cX8_idealOf 55 = .ok (.iload_n 3, 1) := by decide +kernel
theorem dX8_idealOf_56 : decode cX8_idealOf 56 = .ok (.goto 4, 3) := by decide +kernel
theorem dX8_idealOf_59 : decode cX8_idealOf 59 = .ok (.iload_n 2, 1) := by decide +kernel
theorem dX8_idealOf_60 : decode cX8_idealOf 60 = .ok (.ireturn, 1) := by decide +kernel
theorem dX8_isAllowed_0 : decode cX8_isAllowed 0 = .ok (.aload_n 0, 1) := by decide +kernel
theorem dX8_isAllowed_1 : decode cX8_isAllowed 1 = .ok (.getfield 173, 3) := by decide +kernel
theorem dX8_isAllowed_4 : decode cX8_isAllowed 4 = .ok (.istore_n 3, 1) := by decide +kernel
theorem dX8_isAllowed_5 : decode cX8_isAllowed 5 = .ok (.iload_n 3, 1) := by decide +kernel
theorem dX8_isAllowed_6 : decode cX8_isAllowed 6 = .ok (.aload_n 0, 1) := by decide +kernel
theorem dX8_isAllowed_7 : decode cX8_isAllowed 7 = .ok (.getfield 176, 3) := by decide +kernel
theorem dX8_isAllowed_10 : decode cX8_isAllowed 10 = .ok (.if_icmp .gt 72, 3) := by decide +kernel
theorem dX8_isAllowed_13 : decode cX8_isAllowed 13 = .ok (.aload_n 0, 1) := by decide +kernel
theorem dX8_isAllowed_14 : decode cX8_isAllowed 14 = .ok (.getfield 26, 3) := by decide +kernel
theorem dX8_isAllowed_17 : decode cX8_isAllowed 17 = .ok (.iload_n 3, 1) := by decide +kernel
theorem dX8_isAllowed_18 : decode cX8_isAllowed 18 = .ok (.iaload, 1) := by decide +kernel
theorem dX8_isAllowed_19 : decode cX8_isAllowed 19 = .ok (.iconst 1, 1) := by decide +kernel
theorem dX8_isAllowed_20 : decode cX8_isAllowed 20 = .ok (.if_icmp .ne 8, 3) := by decide +kernel
theorem dX8_isAllowed_23 : decode cX8_isAllowed 23 = .ok (.bipush 10, 2) := by decide +kernel
theorem dX8_isAllowed_25 : decode cX8_isAllowed 25 = .ok (.goto 20, 3) := by decide +kernel
theorem dX8_isAllowed_28 : decode cX8_isAllowed 28 = .ok (.aload_n 0, 1) := by decide +kernel
theorem dX8_isAllowed_29 : decode cX8_isAllowed 29 = .ok (.getfield 26, 3) := by decide +kernel
theorem dX8_isAllowed_32 : decode cX8_isAllowed 32 = .ok (.iload_n 3, 1) := by decide +kernel
theorem dX8_isAllowed_33 : decode cX8_isAllowed 33 = .ok (.iaload, 1) := by decide +kernel
theorem dX8_isAllowed_34 : decode cX8_isAllowed 34 = .ok (.iconst 2, 1) := by decide +kernel
theorem dX8_isAllowed_35 : decode cX8_isAllowed 35 = .ok (.if_icmp .ne 8, 3) := by decide +kernel
theorem dX8_isAllowed_38 : decode cX8_isAllowed 38 = .ok (.bipush 11, 2) := by decide +kernel
theorem dX8_isAllowed_40 : decode cX8_isAllowed 40 = .ok (.goto 5, 3) := by decide +kernel
theorem dX8_isAllowed_43 : decode cX8_isAllowed 43 = .ok (.bipush 13, 2) := by decide +kernel
theorem dX8_isAllowed_45 : decode cX8_isAllowed 45 = .ok (.istore 4, 2) := by decide +kernel
theorem dX8_isAllowed_47 : decode cX8_isAllowed 47 = .ok (.aload_n 0, 1) := by decide +kernel
theorem dX8_isAllowed_48 : decode cX8_isAllowed 48 = .ok (.iload_n 3, 1) := by decide +kernel
theorem dX8_isAllowed_49 : decode cX8_isAllowed 49 = .ok (.iload_n 1, 1) := by decide +kernel
theorem dX8_isAllowed_50 : decode cX8_isAllowed 50 = .ok (.iload_n 2, 1) := by decide +kernel
theorem dX8_isAllowed_51 : decode cX8_isAllowed 51 = .ok (.invokevirtual 186, 3) := by decide +kernel
theorem dX8_isAllowed_54 : decode cX8_isAllowed 54 = .ok (.iload 4, 2) := by decide +kernel
theorem dX8_isAllowed_56 : decode cX8_isAllowed 56 = .ok (.aload_n 0, 1) := by decide +kernel
theorem dX8_isAllowed_57 : decode cX8_isAllowed 57 = .ok (.getfield 179, 3) := by decide +kernel
theorem dX8_isAllowed_60 : decode cX8_isAllowed 60 = .ok (.imul, 1) := by decide +kernel
theorem dX8_isAllowed_61 : decode cX8_isAllowed 61 = .ok (.bipush 44, 2) := by decide +kernel
theorem dX8_isAllowed_63 : decode cX8_isAllowed 63 = .ok (.aload_n 0, 1) := by decide +kernel
theorem dX8_isAllowed_64 : decode cX8_isAllowed 64 = .ok (.getfield 179, 3) := by decide +kernel
theorem dX8_isAllowed_67 : decode cX8_isAllowed 67 = .ok (.imul, 1) := by decide +kernel
theorem dX8_isAllowed_68 : decode cX8_isAllowed 68 = .ok (.invokestatic 189, 3) := by decide +kernel
theorem dX8_isAllowed_71 : decode cX8_isAllowed 71 = .ok (.ifCond .ne 5, 3) := by decide +kernel
theorem dX8_isAllowed_74 : decode cX8_isAllowed 74 = .ok (.iconst 0, 1) := by decide +kernel
theorem dX8_isAllowed_75 : decode cX8_isAllowed 75 = .ok (.ireturn, 1) := by decide +kernel
theorem dX8_isAllowed_76 : decode cX8_isAllowed 76 = .ok (.iinc 3 1, 3) := by decide +kernel
theorem dX8_isAllowed_79 : decode cX8_isAllowed 79 = .ok (.goto (-74), 3) := by decide +kernel
theorem dX8_isAllowed_82 : decode cX8_isAllowed 82 = .ok (.iconst 1, 1) := by decide +kernel
theorem dX8_isAllowed_83 : decode cX8_isAllowed 83 = .ok (.ireturn, 1) := by decide +kernel
theorem dX8_stemsOf_0 : decode cX8_stemsOf 0 = .ok (.iconst 0, 1) := by decide +kernel
theorem dX8_stemsOf_1 : decode cX8_stemsOf 1 = .ok (.istore_n 3, 1) := by decide +kernel
theorem dX8_stemsOf_2 : decode cX8_stemsOf 2 = .ok (.aload_n 0, 1) := by decide +kernel
theorem dX8_stemsOf_3 : decode cX8_stemsOf 3 = .ok (.getfield 173, 3) := by decide +kernel
theorem dX8_stemsOf_6 : decode cX8_stemsOf 6 = .ok (.istore 4, 2) := by decide +kernel
theorem dX8_stemsOf_8 : decode cX8_stemsOf 8 = .ok (.iload 4, 2) := by decide +kernel
theorem dX8_stemsOf_10 : decode cX8_stemsOf 10 = .ok (.aload_n 0, 1) := by decide +kernel
theorem dX8_stemsOf_11 : decode cX8_stemsOf 11 = .ok (.getfield 176, 3) := by decide +kernel
theorem dX8_stemsOf_14 : decode cX8_stemsOf 14 = .ok (.if_icmp .gt 49, 3) := by decide +kernel
theorem dX8_stemsOf_17 : decode cX8_stemsOf 17 = .ok (.aload_n 0, 1) := by decide +kernel
theorem dX8_stemsOf_18 : decode cX8_stemsOf 18 = .ok (.iload 4, 2) := by decide +kernel
theorem dX8_stemsOf_20 : decode cX8_stemsOf 20 = .ok (.iload_n 1, 1) := by decide +kernel
theorem dX8_stemsOf_21 : decode cX8_stemsOf 21 = .ok (.iload_n 2, 1) := by decide +kernel
theorem dX8_stemsOf_22 : decode cX8_stemsOf 22 = .ok (.invokevirtual 186, 3) := by decide +kernel
theorem dX8_stemsOf_25 : decode cX8_stemsOf 25 = .ok (.aload_n 0, 1) := by decide +kernel
theorem dX8_stemsOf_26 : decode cX8_stemsOf 26 = .ok (.iload 4, 2) := by decide +kernel
theorem dX8_stemsOf_28 : decode cX8_stemsOf 28 = .ok (.invokevirtual 193, 3) := by decide +kernel
theorem dX8_stemsOf_31 : decode cX8_stemsOf 31 = .ok (.aload_n 0, 1) := by decide +kernel
theorem dX8_stemsOf_32 : decode cX8_stemsOf 32 = .ok (.getfield 179, 3) := by decide +kernel
theorem dX8_stemsOf_35 : decode cX8_stemsOf 35 = .ok (.imul, 1) := by decide +kernel
theorem dX8_stemsOf_36 : decode cX8_stemsOf 36 = .ok (.isub, 1) := by decide +kernel
theorem dX8_stemsOf_37 : decode cX8_stemsOf 37 = .ok (.istore 5, 2) := by decide +kernel
theorem dX8_stemsOf_39 : decode cX8_stemsOf 39 = .ok (.iload_n 3, 1) := by decide +kernel
theorem dX8_stemsOf_40 : decode cX8_stemsOf 40 = .ok (.iload 5, 2) := by decide +kernel
theorem dX8_stemsOf_42 : decode cX8_stemsOf 42 = .ok (.ifCond .ge 11, 3) := by decide +kernel
theorem dX8_stemsOf_45 : decode cX8_stemsOf 45 = .ok (.bipush (-2), 2) := by decide +kernel
theorem dX8_stemsOf_47 : decode cX8_stemsOf 47 = .ok (.iload 5, 2) := by decide +kernel
theorem dX8_stemsOf_49 : decode cX8_stemsOf 49 = .ok (.imul, 1) := by decide +kernel
theorem dX8_stemsOf_50 : decode cX8_stemsOf 50 = .ok (.goto 5, 3) := by decide +kernel
theorem dX8_stemsOf_53 : decode cX8_stemsOf 53 = .ok (.iload 5, 2) := by decide +kernel
theorem dX8_stemsOf_55 : decode cX8_stemsOf 55 = .ok (.iadd, 1) := by decide +kernel
theorem dX8_stemsOf_56 : decode cX8_stemsOf 56 = .ok (.istore_n 3, 1) := by decide +kernel
theorem dX8_stemsOf_57 : decode cX8_stemsOf 57 = .ok (.iinc 4 1, 3) := by decide +kernel
theorem dX8_stemsOf_60 : decode cX8_stemsOf 60 = .ok (.goto (-52), 3) := by decide +kernel
theorem dX8_stemsOf_63 : decode cX8_stemsOf 63 = .ok (.iload_n 3, 1) := by decide +kernel
theorem dX8_stemsOf_64 : decode cX8_stemsOf 64 = .ok (.aload_n 0, 1) := by decide +kernel
theorem dX8_stemsOf_65 : decode cX8_stemsOf 65 = .ok (.getfield 179, 3) := by decide +kernel
theorem dX8_stemsOf_68 : decode cX8_stemsOf 68 = .ok (.idiv, 1) := by decide +kernel
theorem dX8_stemsOf_69 : decode cX8_stemsOf 69 = .ok (.ireturn, 1) := by decide +kernel
theorem dX8_hasNearer_0 : decode cX8_hasNearer 0 = .ok (.iconst 0, 1) := by decide +kernel
theorem dX8_hasNearer_1 : decode cX8_hasNearer 1 = .ok (.istore_n 1, 1) := by decide +kernel
theorem dX8_hasNearer_2 : decode cX8_hasNearer 2 = .ok (.aload_n 0, 1) := by decide +kernel
theorem dX8_hasNearer_3 : decode cX8_hasNearer 3 = .ok (.getfield 173, 3) := by decide +kernel
theorem dX8_hasNearer_6 : decode cX8_hasNearer 6 = .ok (.iconst 1, 1) := by decide +kernel
theorem dX8_hasNearer_7 : decode cX8_hasNearer 7 = .ok (.iadd, 1) := by decide +kernel
theorem dX8_hasNearer_8 : decode cX8_hasNearer 8 = .ok (.istore_n 2, 1) := by decide +kernel
theorem dX8_hasNearer_9 : decode cX8_hasNearer 9 = .ok (.iload_n 2, 1) := by decide +kernel
theorem dX8_hasNearer_10 : decode cX8_hasNearer 10 = .ok (.aload_n 0, 1) := by decide +kernel
theorem dX8_hasNearer_11 : decode cX8_hasNearer 11 = .ok (.getfield 176, 3) := by decide +kernel
theorem dX8_hasNearer_14 : decode cX8_hasNearer 14 = .ok (.if_icmp .ge 128, 3) := by decide +kernel
theorem dX8_hasNearer_17 : decode cX8_hasNearer 17 = .ok (.aload_n 0, 1) := by decide +kernel
theorem dX8_hasNearer_18 : decode cX8_hasNearer 18 = .ok (.getfield 51, 3) := by decide +kernel
theorem dX8_hasNearer_21 : decode cX8_hasNearer 21 = .ok (.iload_n 2, 1) := by decide +kernel
theorem dX8_hasNearer_22 : decode cX8_hasNearer 22 = .ok (.iaload, 1) := by decide +kernel
theorem dX8_hasNearer_23 : decode cX8_hasNearer 23 = .ok (.aload_n 0, 1) := by decide +kernel
theorem dX8_hasNearer_24 : decode cX8_hasNearer 24 = .ok (.getfield 51, 3) := by decide +kernel
theorem dX8_hasNearer_27 : decode cX8_hasNearer 27 = .ok (.aload_n 0, 1) := by decide +kernel
theorem dX8_hasNearer_28 : decode cX8_hasNearer 28 = .ok (.getfield 173, 3) := by decide +kernel
theorem dX8_hasNearer_31 : decode cX8_hasNearer 31 = .ok (.iaload, 1) := by decide +kernel
theorem dX8_hasNearer_32 : decode cX8_hasNearer 32 = .ok (.if_icmp .le 25, 3) := by decide +kernel
theorem dX8_hasNearer_35 : decode cX8_hasNearer 35 = .ok (.aload_n 0, 1) := by decide +kernel
theorem dX8_hasNearer_36 : decode cX8_hasNearer 36 = .ok (.getfield 51, 3) := by decide +kernel
theorem dX8_hasNearer_39 : decode cX8_hasNearer 39 = .ok (.iload_n 2, 1) := by decide +kernel
theorem dX8_hasNearer_40 : decode cX8_hasNearer 40 = .ok (.iaload, 1) := by decide +kernel
theorem dX8_hasNearer_41 : decode cX8_hasNearer 41 = .ok (.aload_n 0, 1) := by decide +kernel
theorem dX8_hasNearer_42 : decode cX8_hasNearer 42 = .ok (.getfield 51, 3) := by decide +kernel
theorem dX8_hasNearer_45 : decode cX8_hasNearer 45 = .ok (.aload_n 0, 1) := by decide +kernel
theorem dX8_hasNearer_46 : decode cX8_hasNearer 46 = .ok (.getfield 176, 3) := by decide +kernel
theorem dX8_hasNearer_49 : decode cX8_hasNearer 49 = .ok (.iaload, 1) := by decide +kernel
theorem dX8_hasNearer_50 : decode cX8_hasNearer 50 = .ok (.if_icmp .le 7, 3) := by decide +kernel
theorem dX8_hasNearer_53 : decode cX8_hasNearer 53 = .ok (.iconst 1, 1) := by decide +kernel
theorem dX8_hasNearer_54 : decode cX8_hasNearer 54 = .ok (.goto 4, 3) := by decide +kernel
theorem dX8_hasNearer_57 : decode cX8_hasNearer 57 = .ok (.iconst 0, 1) := by decide +kernel
theorem dX8_hasNearer_58 : decode cX8_hasNearer 58 = .ok (.istore_n 3, 1) := by decide +kernel
theorem dX8_hasNearer_59 : decode cX8_hasNearer 59 = .ok (.aload_n 0, 1) := by decide +kernel
theorem dX8_hasNearer_60 : decode cX8_hasNearer 60 = .ok (.getfield 51, 3) := by decide +kernel
theorem dX8_hasNearer_63 : decode cX8_hasNearer 63 = .ok (.iload_n 2, 1) := by decide +kernel
theorem dX8_hasNearer_64 : decode cX8_hasNearer 64 = .ok (.iaload, 1) := by decide +kernel
theorem dX8_hasNearer_65 : decode cX8_hasNearer 65 = .ok (.aload_n 0, 1) := by decide +kernel
theorem dX8_hasNearer_66 : decode cX8_hasNearer 66 = .ok (.getfield 51, 3) := by decide +kernel
theorem dX8_hasNearer_69 : decode cX8_hasNearer 69 = .ok (.aload_n 0, 1) := by decide +kernel
theorem dX8_hasNearer_70 : decode cX8_hasNearer 70 = .ok (.getfield 173, 3) := by decide +kernel
theorem dX8_hasNearer_73 : decode cX8_hasNearer 73 = .ok (.iaload, 1) := by decide +kernel
theorem dX8_hasNearer_74 : decode cX8_hasNearer 74 = .ok (.if_icmp .ge 25, 3) := by decide +kernel
theorem dX8_hasNearer_77 : decode cX8_hasNearer 77 = .ok (.aload_n 0, 1) := by decide +kernel
theorem dX8_hasNearer_78 : decode cX8_hasNearer 78 = .ok (.getfield 51, 3) := by decide +kernel
theorem dX8_hasNearer_81 : decode cX8_hasNearer 81 = .ok (.iload_n 2, 1) := by decide +kernel
theorem dX8_hasNearer_82 : decode cX8_hasNearer 82 = .ok (.iaload, 1) := by decide +kernel
theorem dX8_hasNearer_83 : decode cX8_hasNearer 83 = .ok (.aload_n 0, 1) := by decide +kernel
theorem dX8_hasNearer_84 : decode cX8_hasNearer 84 = .ok (.getfield 51, 3) := by decide +kernel
theorem dX8_hasNearer_87 : decode cX8_hasNearer 87 = .ok (.aload_n 0, 1) := by decide +kernel
theorem dX8_hasNearer_88 : decode cX8_hasNearer 88 = .ok (.getfield 176, 3) := by decide +kernel
theorem dX8_hasNearer_91 : decode cX8_hasNearer 91 = .ok (.iaload, 1) := by decide +kernel
theorem dX8_hasNearer_92 : decode cX8_hasNearer 92 = .ok (.if_icmp .ge 7, 3) := by decide +kernel
theorem dX8_hasNearer_95 : decode cX8_hasNearer 95 = .ok (.iconst 1, 1) := by decide +kernel
theorem dX8_hasNearer_96 : decode cX8_hasNearer 96 = .ok (.goto 4, 3) := by decide +kernel
theorem dX8_hasNearer_99 : decode cX8_hasNearer 99 = .ok (.iconst 0, 1) := by decide +kernel
theorem dX8_hasNearer_100 : decode cX8_hasNearer 100 = .ok (.istore 4, 2) := by decide +kernel
theorem dX8_hasNearer_102 : decode cX8_hasNearer 102 = .ok (.iload_n 1, 1) := by decide +kernel
theorem dX8_hasNearer_103 : decode cX8_hasNearer 103 = .ok (.ifCond .ne 27, 3) := by decide +kernel
theorem dX8_hasNearer_106 : decode cX8_hasNearer 106 = .ok (.aload_n 0, 1) := by decide +kernel
theorem dX8_hasNearer_107 : decode cX8_hasNearer 107 = .ok (.getfield 57, 3) := by decide +kernel
theorem dX8_hasNearer_110 : decode cX8_hasNearer 110 = .ok (.aload_n 0, 1) := by decide +kernel
theorem dX8_hasNearer_111 : decode cX8_hasNearer 111 = .ok (.getfield 173, 3) := by decide +kernel
theorem dX8_hasNearer_114 : decode cX8_hasNearer 114 = .ok (.iaload, 1) := by decide +kernel
theorem dX8_hasNearer_115 : decode cX8_hasNearer 115 = .ok (.ifCond .le 10, 3) := by decide +kernel
theorem dX8_hasNearer_118 : decode cX8_hasNearer 118 = .ok (.iload_n 3, 1) := by decide +kernel
theorem dX8_hasNearer_119 : decode cX8_hasNearer 119 = .ok (.ifCond .eq 15, 3) := by decide +kernel
theorem dX8_hasNearer_122 : decode cX8_hasNearer 122 = .ok (.goto 8, 3) := by decide +kernel
theorem dX8_hasNearer_125 : decode cX8_hasNearer 125 = .ok (.iload 4, 2) := by decide +kernel
theorem dX8_hasNearer_127 : decode cX8_hasNearer 127 = .ok (.ifCond .eq 7, 3) := by decide +kernel
theorem dX8_hasNearer_130 : decode cX8_hasNearer 130 = .ok (.iconst 1, 1) := by decide +kernel
theorem dX8_hasNearer_131 : decode cX8_hasNearer 131 = .ok (.goto 4, 3) := by decide +kernel
theorem dX8_hasNearer_134 : decode cX8_hasNearer 134 = .ok (.iconst 0, 1) := by decide +kernel
theorem dX8_hasNearer_135 : decode cX8_hasNearer 135 = .ok (.istore_n 1, 1) := by decide +kernel
theorem dX8_hasNearer_136 : decode cX8_hasNearer 136 = .ok (.iinc 2 1, 3) := by decide +kernel
theorem dX8_hasNearer_139 : decode cX8_hasNearer 139 = .ok (.goto (-130), 3) := by decide +kernel
theorem dX8_hasNearer_142 : decode cX8_hasNearer 142 = .ok (.iload_n 1, 1) := by decide +kernel
theorem dX8_hasNearer_143 : decode cX8_hasNearer 143 = .ok (.ireturn, 1) := by decide +kernel
theorem dX8_wantOf_0 : decode cX8_wantOf 0 = .ok (.aload_n 0, 1) := by decide +kernel
theorem dX8_wantOf_1 : decode cX8_wantOf 1 = .ok (.getfield 162, 3) := by decide +kernel
theorem dX8_wantOf_4 : decode cX8_wantOf 4 = .ok (.ifCond .ne 12, 3) := by decide +kernel
theorem dX8_wantOf_7 : decode cX8_wantOf 7 = .ok (.aload_n 0, 1) := by decide +kernel
theorem dX8_wantOf_8 : decode cX8_wantOf 8 = .ok (.invokevirtual 196, 3) := by decide +kernel
theorem dX8_wantOf_11 : decode cX8_wantOf 11 = .ok (.ifCond .eq 5, 3) := by decide +kernel
theorem dX8_wantOf_14 : decode cX8_wantOf 14 = .ok (.iconst 0, 1) := by decide +kernel
theorem dX8_wantOf_15 : decode cX8_wantOf 15 = .ok (.ireturn, 1) := by decide +kernel
theorem dX8_wantOf_16 : decode cX8_wantOf 16 = .ok (.aload_n 0, 1) := by decide +kernel
theorem dX8_wantOf_17 : decode cX8_wantOf 17 = .ok (.getfield 51, 3) := by decide +kernel
theorem dX8_wantOf_20 : decode cX8_wantOf 20 = .ok (.aload_n 0, 1) := by decide +kernel
theorem dX8_wantOf_21 : decode cX8_wantOf 21 = .ok (.getfield 176, 3) := by decide +kernel
theorem dX8_wantOf_24 : decode cX8_wantOf 24 = .ok (.iaload, 1) := by decide +kernel
theorem dX8_wantOf_25 : decode cX8_wantOf 25 = .ok (.aload_n 0, 1) := by decide +kernel
theorem dX8_wantOf_26 : decode cX8_wantOf 26 = .ok (.getfield 51, 3) := by decide +kernel
theorem dX8_wantOf_29 : decode cX8_wantOf 29 = .ok (.aload_n 0, 1) := by decide +kernel
theorem dX8_wantOf_30 : decode cX8_wantOf 30 = .ok (.getfield 173, 3) := by decide +kernel
theorem dX8_wantOf_33 : decode cX8_wantOf 33 = .ok (.iaload, 1) := by decide +kernel
theorem dX8_wantOf_34 : decode cX8_wantOf 34 = .ok (.isub, 1) := by decide +kernel
theorem dX8_wantOf_35 : decode cX8_wantOf 35 = .ok (.istore_n 1, 1) := by decide +kernel
theorem dX8_wantOf_36 : decode cX8_wantOf 36 = .ok (.iload_n 1, 1) := by decide +kernel
theorem dX8_wantOf_37 : decode cX8_wantOf 37 = .ok (.bipush (-5), 2) := by decide +kernel
theorem dX8_wantOf_39 : decode cX8_wantOf 39 = .ok (.if_icmp .ge 8, 3) := by decide +kernel
theorem dX8_wantOf_42 : decode cX8_wantOf 42 = .ok (.bipush (-5), 2) := by decide +kernel
theorem dX8_wantOf_44 : decode cX8_wantOf 44 = .ok (.goto 13, 3) := by decide +kernel
theorem dX8_wantOf_47 : decode cX8_wantOf 47 = .ok (.iload_n 1, 1) := by decide +kernel
theorem dX8_wantOf_48 : decode cX8_wantOf 48 = .ok (.iconst 5, 1) := by decide +kernel
theorem dX8_wantOf_49 : decode cX8_wantOf 49 = .ok (.if_icmp .le 7, 3) := by decide +kernel
theorem dX8_wantOf_52 : decode cX8_wantOf 52 = .ok (.iconst 5, 1) := by decide +kernel
theorem dX8_wantOf_53 : decode cX8_wantOf 53 = .ok (.goto 4, 3) := by decide +kernel
theorem dX8_wantOf_56 : decode cX8_wantOf 56 = .ok (.iload_n 1, 1) := by decide +kernel
theorem dX8_wantOf_57 : decode cX8_wantOf 57 = .ok (.ireturn, 1) := by decide +kernel
theorem dX8_slopeOf_0 : decode cX8_slopeOf 0 = .ok (.aload_n 0, 1) := by decide +kernel
theorem dX8_slopeOf_1 : decode cX8_slopeOf 1 = .ok (.invokevirtual 200, 3) := by decide +kernel
theorem dX8_slopeOf_4 : decode cX8_slopeOf 4 = .ok (.istore_n 3, 1) := by decide +kernel
theorem dX8_slopeOf_5 : decode cX8_slopeOf 5 = .ok (.iload_n 2, 1) := by decide +kernel
theorem dX8_slopeOf_6 : decode cX8_slopeOf 6 = .ok (.iload_n 1, 1) := by decide +kernel
theorem dX8_slopeOf_7 : decode cX8_slopeOf 7 = .ok (.isub, 1) := by decide +kernel
theorem dX8_slopeOf_8 : decode cX8_slopeOf 8 = .ok (.istore 4, 2) := by decide +kernel
theorem dX8_slopeOf_10 : decode cX8_slopeOf 10 = .ok (.iload_n 3, 1) := by decide +kernel
theorem dX8_slopeOf_11 : decode cX8_slopeOf 11 = .ok (.ifCond .le 8, 3) := by decide +kernel
theorem dX8_slopeOf_14 : decode cX8_slopeOf 14 = .ok (.iload 4, 2) := by decide +kernel
theorem dX8_slopeOf_16 : decode cX8_slopeOf 16 = .ok (.ifCond .lt 12, 3) := by decide +kernel
theorem dX8_slopeOf_19 : decode cX8_slopeOf 19 = .ok (.iload_n 3, 1) := by decide +kernel
theorem dX8_slopeOf_20 : decode cX8_slopeOf 20 = .ok (.ifCond .ge 12, 3) := by decide +kernel
theorem dX8_slopeOf_23 : decode cX8_slopeOf 23 = .ok (.iload 4, 2) := by decide +kernel
theorem dX8_slopeOf_25 : decode cX8_slopeOf 25 = .ok (.ifCond .le 7, 3) := by decide +kernel
theorem dX8_slopeOf_28 : decode cX8_slopeOf 28 = .ok (.iconst 1, 1) := by decide +kernel
theorem dX8_slopeOf_29 : decode cX8_slopeOf 29 = .ok (.goto 4, 3) := by decide +kernel
theorem dX8_slopeOf_32 : decode cX8_slopeOf 32 = .ok (.iconst 0, 1) := by decide +kernel
theorem dX8_slopeOf_33 : decode cX8_slopeOf 33 = .ok (.istore 5, 2) := by decide +kernel
theorem dX8_slopeOf_35 : decode cX8_slopeOf 35 = .ok (.bipush 6, 2) := by decide +kernel
theorem dX8_slopeOf_37 : decode cX8_slopeOf 37 = .ok (.iload 4, 2) := by decide +kernel
theorem dX8_slopeOf_39 : decode cX8_slopeOf 39 = .ok (.iload_n 3, 1) := by decide +kernel
theorem dX8_slopeOf_40 : decode cX8_slopeOf 40 = .ok (.isub, 1) := by decide +kernel
theorem dX8_slopeOf_41 : decode cX8_slopeOf 41 = .ok (.invokestatic 156, 3) := by decide +kernel
theorem dX8_slopeOf_44 : decode cX8_slopeOf 44 = .ok (.imul, 1) := by decide +kernel
theorem dX8_slopeOf_45 : decode cX8_slopeOf 45 = .ok (.iload 5, 2) := by decide +kernel
theorem dX8_slopeOf_47 : decode cX8_slopeOf 47 = .ok (.ifCond .eq 8, 3) := by decide +kernel
theorem dX8_slopeOf_50 : decode cX8_slopeOf 50 = .ok (.bipush 20, 2) := by decide +kernel
theorem dX8_slopeOf_52 : decode cX8_slopeOf 52 = .ok (.goto 4, 3) := by decide +kernel
theorem dX8_slopeOf_55 : decode cX8_slopeOf 55 = .ok (.iconst 0, 1) := by decide +kernel
theorem dX8_slopeOf_56 : decode cX8_slopeOf 56 = .ok (.iadd, 1) := by decide +kernel
theorem dX8_slopeOf_57 : decode cX8_slopeOf 57 = .ok (.ireturn, 1) := by decide +kernel
theorem dX8_touchAt_0 : decode cX8_touchAt 0 = .ok (.iload_n 0, 1) := by decide +kernel
theorem dX8_touchAt_1 : decode cX8_touchAt 1 = .ok (.bipush (-9), 2) := by decide +kernel
theorem dX8_touchAt_3 : decode cX8_touchAt 3 = .ok (.bipush 9, 2) := by decide +kernel
theorem dX8_touchAt_5 : decode cX8_touchAt 5 = .ok (.invokestatic 189, 3) := by decide +kernel
theorem dX8_touchAt_8 : decode cX8_touchAt 8 = .ok (.ifCond .eq 12, 3) := by decide +kernel
theorem dX8_touchAt_11 : decode cX8_touchAt 11 = .ok (.iload_n 0, 1) := by decide +kernel
theorem dX8_touchAt_12 : decode cX8_touchAt 12 = .ok (.bipush 12, 2) := by decide +kernel
theorem dX8_touchAt_14 : decode cX8_touchAt 14 = .ok (.iadd, 1) := by decide +kernel
theorem dX8_touchAt_15 : decode cX8_touchAt 15 = .ok (.iconst 4, 1) := by decide +kernel
theorem dX8_touchAt_16 : decode cX8_touchAt 16 = .ok (.irem, 1) := by decide +kernel
theorem dX8_touchAt_17 : decode cX8_touchAt 17 = .ok (.goto 4, 3) := by decide +kernel
theorem dX8_touchAt_20 : decode cX8_touchAt 20 = .ok (.iconst (-1), 1) := by decide +kernel
theorem dX8_touchAt_21 : decode cX8_touchAt 21 = .ok (.ireturn, 1) := by decide +kernel
theorem dX8_beamAt_0 : decode cX8_beamAt 0 = .ok (.iload_n 2, 1) := by decide +kernel
theorem dX8_beamAt_1 : decode cX8_beamAt 1 = .ok (.iconst 3, 1) := by decide +kernel
theorem dX8_beamAt_2 : decode cX8_beamAt 2 = .ok (.iload_n 3, 1) := by decide +kernel
theorem dX8_beamAt_3 : decode cX8_beamAt 3 = .ok (.imul, 1) := by decide +kernel
theorem dX8_beamAt_4 : decode cX8_beamAt 4 = .ok (.aload_n 0, 1) := by decide +kernel
theorem dX8_beamAt_5 : decode cX8_beamAt 5 = .ok (.getfield 57, 3) := by decide +kernel
theorem dX8_beamAt_8 : decode cX8_beamAt 8 = .ok (.iload_n 1, 1) := by decide +kernel
theorem dX8_beamAt_9 : decode cX8_beamAt 9 = .ok (.iaload, 1) := by decide +kernel
theorem dX8_beamAt_10 : decode cX8_beamAt 10 = .ok (.imul, 1) := by decide +kernel
theorem dX8_beamAt_11 : decode cX8_beamAt 11 = .ok (.isub, 1) := by decide +kernel
theorem dX8_beamAt_12 : decode cX8_beamAt 12 = .ok (.ireturn, 1) := by decide +kernel
theorem dX8_endCost_0 : decode cX8_endCost 0 = .ok (.iconst 0, 1) := by decide +kernel
theorem dX8_endCost_1 : decode cX8_endCost 1 = .ok (.istore 4, 2) := by decide +kernel
theorem dX8_endCost_3 : decode cX8_endCost 3 = .ok (.iconst 0, 1) := by decide +kernel
theorem dX8_endCost_4 : decode cX8_endCost 4 = .ok (.istore 5, 2) := by decide +kernel
theorem dX8_endCost_6 : decode cX8_endCost 6 = .ok (.iload 5, 2) := by decide +kernel
theorem dX8_endCost_8 : decode cX8_endCost 8 = .ok (.aload_n 0, 1) := by decide +kernel
theorem dX8_endCost_9 : decode cX8_endCost 9 = .ok (.getfield 26, 3) := by decide +kernel
theorem dX8_endCost_12 : decode cX8_endCost 12 = .ok (.iload_n 1, 1) := by decide +kernel
theorem dX8_endCost_13 : decode cX8_endCost 13 = .ok (.iaload, 1) := by decide +kernel
theorem dX8_endCost_14 : decode cX8_endCost 14 = .ok (.invokestatic 203, 3) := by decide +kernel
theorem dX8_endCost_17 : decode cX8_endCost 17 = .ok (.if_icmp .ge 79, 3) := by decide +kernel
theorem dX8_endCost_20 : decode cX8_endCost 20 = .ok (.aload_n 0, 1) := by decide +kernel
theorem dX8_endCost_21 : decode cX8_endCost 21 = .ok (.iload_n 1, 1) := by decide +kernel
theorem dX8_endCost_22 : decode cX8_endCost 22 = .ok (.iload_n 2, 1) := by decide +kernel
theorem dX8_endCost_23 : decode cX8_endCost 23 = .ok (.iload 5, 2) := by decide +kernel
theorem dX8_endCost_25 : decode cX8_endCost 25 = .ok (.invokevirtual 206, 3) := by decide +kernel
theorem dX8_endCost_28 : decode cX8_endCost 28 = .ok (.invokestatic 209, 3) := by decide +kernel
theorem dX8_endCost_31 : decode cX8_endCost 31 = .ok (.istore 6, 2) := by decide +kernel
theorem dX8_endCost_33 : decode cX8_endCost 33 = .ok (.iload 6, 2) := by decide +kernel
theorem dX8_endCost_35 : decode cX8_endCost 35 = .ok (.ifCond .ne 18, 3) := by decide +kernel
theorem dX8_endCost_38 : decode cX8_endCost 38 = .ok (.iload 4, 2) := by decide +kernel
theorem dX8_endCost_40 : decode cX8_endCost 40 = .ok (.iload_n 2, 1) := by decide +kernel
theorem dX8_endCost_41 : decode cX8_endCost 41 = .ok (.iload_n 3, 1) := by decide +kernel
theorem dX8_endCost_42 : decode cX8_endCost 42 = .ok (.if_icmp .ne 7, 3) := by decide +kernel
theorem dX8_endCost_45 : decode cX8_endCost 45 = .ok (.iconst 2, 1) := by decide +kernel
theorem dX8_endCost_46 : decode cX8_endCost 46 = .ok (.goto 4, 3) := by decide +kernel
theorem dX8_endCost_49 : decode cX8_endCost 49 = .ok (.iconst 1, 1) := by decide +kernel
theorem dX8_endCost_50 : decode cX8_endCost 50 = .ok (.iadd, 1) := by decide +kernel
theorem dX8_endCost_51 : decode cX8_endCost 51 = .ok (.istore 4, 2) := by decide +kernel
theorem dX8_endCost_53 : decode cX8_endCost 53 = .ok (.iload 6, 2) := by decide +kernel
theorem dX8_endCost_55 : decode cX8_endCost 55 = .ok (.iconst 1, 1) := by decide +kernel
theorem dX8_endCost_56 : decode cX8_endCost 56 = .ok (.if_icmp .ne 11, 3) := by decide +kernel
theorem dX8_endCost_59 : decode cX8_endCost 59 = .ok (.iload_n 3, 1) := by decide +kernel
theorem dX8_endCost_60 : decode cX8_endCost 60 = .ok (.iload_n 2, 1) := by decide +kernel
theorem dX8_endCost_61 : decode cX8_endCost 61 = .ok (.if_icmp .ge 6, 3) := by decide +kernel
theorem dX8_endCost_64 : decode cX8_endCost 64 = .ok (.iinc 4 8, 3) := by decide +kernel
theorem dX8_endCost_67 : decode cX8_endCost 67 = .ok (.iload 6, 2) := by decide +kernel
theorem dX8_endCost_69 : decode cX8_endCost 69 = .ok (.iconst 2, 1) := by decide +kernel
theorem dX8_endCost_70 : decode cX8_endCost 70 = .ok (.if_icmp .ne 6, 3) := by decide +kernel
theorem dX8_endCost_73 : decode cX8_endCost 73 = .ok (.iinc 4 25, 3) := by decide +kernel
theorem dX8_endCost_76 : decode cX8_endCost 76 = .ok (.iload 6, 2) := by decide +kernel
theorem dX8_endCost_78 : decode cX8_endCost 78 = .ok (.iconst 3, 1) := by decide +kernel
theorem dX8_endCost_79 : decode cX8_endCost 79 = .ok (.if_icmp .ne 11, 3) := by decide +kernel
theorem dX8_endCost_82 : decode cX8_endCost 82 = .ok (.iload_n 3, 1) := by decide +kernel
theorem dX8_endCost_83 : decode cX8_endCost 83 = .ok (.iload_n 2, 1) := by decide +kernel
theorem dX8_endCost_84 : decode cX8_endCost 84 = .ok (.if_icmp .le 6, 3) := by decide +kernel
theorem dX8_endCost_87 : decode cX8_endCost 87 = .ok (.iinc 4 8, 3) := by decide +kernel
theorem dX8_endCost_90 : decode cX8_endCost 90 = .ok (.iinc 5 1, 3) := by decide +kernel
theorem dX8_endCost_93 : decode cX8_endCost 93 = .ok (.goto (-87), 3) := by decide +kernel
theorem dX8_endCost_96 : decode cX8_endCost 96 = .ok (.iload 4, 2) := by decide +kernel
theorem dX8_endCost_98 : decode cX8_endCost 98 = .ok (.ireturn, 1) := by decide +kernel
theorem dX8_staffOf_0 : decode cX8_staffOf 0 = .ok (.aload_n 0, 1) := by decide +kernel
theorem dX8_staffOf_1 : decode cX8_staffOf 1 = .ok (.aload_n 0, 1) := by decide +kernel
theorem dX8_staffOf_2 : decode cX8_staffOf 2 = .ok (.getfield 173, 3) := by decide +kernel
theorem dX8_staffOf_5 : decode cX8_staffOf 5 = .ok (.iload_n 1, 1) := by decide +kernel
theorem dX8_staffOf_6 : decode cX8_staffOf 6 = .ok (.iload_n 2, 1) := by decide +kernel
theorem dX8_staffOf_7 : decode cX8_staffOf 7 = .ok (.invokevirtual 212, 3) := by decide +kernel
theorem dX8_staffOf_10 : decode cX8_staffOf 10 = .ok (.aload_n 0, 1) := by decide +kernel
theorem dX8_staffOf_11 : decode cX8_staffOf 11 = .ok (.aload_n 0, 1) := by decide +kernel
theorem dX8_staffOf_12 : decode cX8_staffOf 12 = .ok (.getfield 176, 3) := by decide +kernel
theorem dX8_staffOf_15 : decode cX8_staffOf 15 = .ok (.iload_n 2, 1) := by decide +kernel
theorem dX8_staffOf_16 : decode cX8_staffOf 16 = .ok (.iload_n 1, 1) := by decide +kernel
theorem dX8_staffOf_17 : decode cX8_staffOf 17 = .ok (.invokevirtual 212, 3) := by decide +kernel
theorem dX8_staffOf_20 : decode cX8_staffOf 20 = .ok (.iadd, 1) := by decide +kernel
theorem dX8_staffOf_21 : decode cX8_staffOf 21 = .ok (.ireturn, 1) := by decide +kernel
theorem dX8_uglinessOf_0 : decode cX8_uglinessOf 0 = .ok (.aload_n 0, 1) := by decide +kernel
theorem dX8_uglinessOf_1 : decode cX8_uglinessOf 1 = .ok (.iload_n 1, 1) := by decide +kernel
theorem dX8_uglinessOf_2 : decode cX8_uglinessOf 2 = .ok (.iload_n 2, 1) := by decide +kernel
theorem dX8_uglinessOf_3 : decode cX8_uglinessOf 3 = .ok (.invokevirtual 215, 3) := by decide +kernel
theorem dX8_uglinessOf_6 : decode cX8_uglinessOf 6 = .ok (.aload_n 0, 1) := by decide +kernel
theorem dX8_uglinessOf_7 : decode cX8_uglinessOf 7 = .ok (.iload_n 1, 1) := by decide +kernel
theorem dX8_uglinessOf_8 : decode cX8_uglinessOf 8 = .ok (.iload_n 2, 1) := by decide +kernel
theorem dX8_uglinessOf_9 : decode cX8_uglinessOf 9 = .ok (.invokevirtual 218, 3) := by decide +kernel
theorem dX8_uglinessOf_12 : decode cX8_uglinessOf 12 = .ok (.iadd, 1) := by decide +kernel
theorem dX8_uglinessOf_13 : decode cX8_uglinessOf 13 = .ok (.aload_n 0, 1) := by decide +kernel
theorem dX8_uglinessOf_14 : decode cX8_uglinessOf 14 = .ok (.iload_n 1, 1) := by decide +kernel
theorem dX8_uglinessOf_15 : decode cX8_uglinessOf 15 = .ok (.iload_n 2, 1) := by decide +kernel
theorem dX8_uglinessOf_16 : decode cX8_uglinessOf 16 = .ok (.invokevirtual 221, 3) := by decide +kernel
theorem dX8_uglinessOf_19 : decode cX8_uglinessOf 19 = .ok (.iadd, 1) := by decide +kernel
theorem dX8_uglinessOf_20 : decode cX8_uglinessOf 20 = .ok (.ireturn, 1) := by decide +kernel
theorem dX8_lengthsOf_0 : decode cX8_lengthsOf 0 = .ok (.iconst 0, 1) := by decide +kernel
theorem dX8_lengthsOf_1 : decode cX8_lengthsOf 1 = .ok (.istore_n 3, 1) := by decide +kernel
theorem dX8_lengthsOf_2 : decode cX8_lengthsOf 2 = .ok (.aload_n 0, 1) := by decide +kernel
theorem dX8_lengthsOf_3 : decode cX8_lengthsOf 3 = .ok (.getfield 173, 3) := by decide +kernel
theorem dX8_lengthsOf_6 : decode cX8_lengthsOf 6 = .ok (.istore 4, 2) := by decide +kernel
theorem dX8_lengthsOf_8 : decode cX8_lengthsOf 8 = .ok (.iload 4, 2) := by decide +kernel
theorem dX8_lengthsOf_10 : decode cX8_lengthsOf 10 = .ok (.aload_n 0, 1) := by decide +kernel
theorem dX8_lengthsOf_11 : decode cX8_lengthsOf 11 = .ok (.getfield 176, 3) := by decide +kernel
theorem dX8_lengthsOf_14 : decode cX8_lengthsOf 14 = .ok (.if_icmp .gt 20, 3) := by decide +kernel
theorem dX8_lengthsOf_17 : decode cX8_lengthsOf 17 = .ok (.iload_n 3, 1) := by decide +kernel
theorem dX8_lengthsOf_18 : decode cX8_lengthsOf 18 = .ok (.aload_n 0, 1) := by decide +kernel
theorem dX8_lengthsOf_19 : decode cX8_lengthsOf 19 = .ok (.iload 4, 2) := by decide +kernel
theorem dX8_lengthsOf_21 : decode cX8_lengthsOf 21 = .ok (.iload_n 1, 1) := by decide +kernel
theorem dX8_lengthsOf_22 : decode cX8_lengthsOf 22 = .ok (.iload_n 2, 1) := by decide +kernel
theorem dX8_lengthsOf_23 : decode cX8_lengthsOf 23 = .ok (.invokevirtual 186, 3) := by decide +kernel
theorem dX8_lengthsOf_26 : decode cX8_lengthsOf 26 = .ok (.iadd, 1) := by decide +kernel
theorem dX8_lengthsOf_27 : decode cX8_lengthsOf 27 = .ok (.istore_n 3, 1) := by decide +kernel
theorem dX8_lengthsOf_28 : decode cX8_lengthsOf 28 = .ok (.iinc 4 1, 3) := by decide +kernel
theorem dX8_lengthsOf_31 : decode cX8_lengthsOf 31 = .ok (.goto (-23), 3) := by decide +kernel
theorem dX8_lengthsOf_34 : decode cX8_lengthsOf 34 = .ok (.iload_n 3, 1) := by decide +kernel
theorem dX8_lengthsOf_35 : decode cX8_lengthsOf 35 = .ok (.ireturn, 1) := by decide +kernel
theorem dX8_laysSets_0 : decode cX8_laysSets 0 = .ok (.aload_n 0, 1) := by decide +kernel
theorem dX8_laysSets_1 : decode cX8_laysSets 1 = .ok (.iload_n 1, 1) := by decide +kernel
theorem dX8_laysSets_2 : decode cX8_laysSets 2 = .ok (.invokevirtual 224, 3) := by decide +kernel
theorem dX8_laysSets_5 : decode cX8_laysSets 5 = .ok (.aload_n 0, 1) := by decide +kernel
theorem dX8_laysSets_6 : decode cX8_laysSets 6 = .ok (.iconst 0, 1) := by decide +kernel
theorem dX8_laysSets_7 : decode cX8_laysSets 7 = .ok (.putfield 227, 3) := by decide +kernel
theorem dX8_laysSets_10 : decode cX8_laysSets 10 = .ok (.bipush (-60), 2) := by decide +kernel
theorem dX8_laysSets_12 : decode cX8_laysSets 12 = .ok (.istore_n 2, 1) := by decide +kernel
theorem dX8_laysSets_13 : decode cX8_laysSets 13 = .ok (.iload_n 2, 1) := by decide +kernel
theorem dX8_laysSets_14 : decode cX8_laysSets 14 = .ok (.bipush 60, 2) := by decide +kernel
theorem dX8_laysSets_16 : decode cX8_laysSets 16 = .ok (.if_icmp .gt 107, 3) := by decide +kernel
theorem dX8_laysSets_19 : decode cX8_laysSets 19 = .ok (.bipush (-60), 2) := by decide +kernel
theorem dX8_laysSets_21 : decode cX8_laysSets 21 = .ok (.istore_n 3, 1) := by decide +kernel
theorem dX8_laysSets_22 : decode cX8_laysSets 22 = .ok (.iload_n 3, 1) := by decide +kernel
theorem dX8_laysSets_23 : decode cX8_laysSets 23 = .ok (.bipush 60, 2) := by decide +kernel
theorem dX8_laysSets_25 : decode cX8_laysSets 25 = .ok (.if_icmp .gt 92, 3) := by decide +kernel
theorem dX8_laysSets_28 : decode cX8_laysSets 28 = .ok (.iload_n 3, 1) := by decide +kernel
theorem dX8_laysSets_29 : decode cX8_laysSets 29 = .ok (.iload_n 2, 1) := by decide +kernel
theorem dX8_laysSets_30 : decode cX8_laysSets 30 = .ok (.isub, 1) := by decide +kernel
theorem dX8_laysSets_31 : decode cX8_laysSets 31 = .ok (.invokestatic 156, 3) := by decide +kernel
theorem dX8_laysSets_34 : decode cX8_laysSets 34 = .ok (.bipush 8, 2) := by decide +kernel
theorem dX8_laysSets_36 : decode cX8_laysSets 36 = .ok (.if_icmp .gt 75, 3) := by decide +kernel
theorem dX8_laysSets_39 : decode cX8_laysSets 39 = .ok (.aload_n 0, 1) := by decide +kernel
theorem dX8_laysSets_40 : decode cX8_laysSets 40 = .ok (.iload_n 2, 1) := by decide +kernel
theorem dX8_laysSets_41 : decode cX8_laysSets 41 = .ok (.iload_n 3, 1) := by decide +kernel
theorem dX8_laysSets_42 : decode cX8_laysSets 42 = .ok (.invokevirtual 230, 3) := by decide +kernel
theorem dX8_laysSets_45 : decode cX8_laysSets 45 = .ok (.ifCond .ne 6, 3) := by decide +kernel
theorem dX8_laysSets_48 : decode cX8_laysSets 48 = .ok (.goto 63, 3) := by decide +kernel
theorem dX8_laysSets_51 : decode cX8_laysSets 51 = .ok (.aload_n 0, 1) := by decide +kernel
theorem dX8_laysSets_52 : decode cX8_laysSets 52 = .ok (.getfield 60, 3) := by decide +kernel
theorem dX8_laysSets_55 : decode cX8_laysSets 55 = .ok (.aload_n 0, 1) := by decide +kernel
theorem dX8_laysSets_56 : decode cX8_laysSets 56 = .ok (.getfield 227, 3) := by decide +kernel
theorem dX8_laysSets_59 : decode cX8_laysSets 59 = .ok (.iload_n 2, 1) := by decide +kernel
theorem dX8_laysSets_60 : decode cX8_laysSets 60 = .ok (.iastore, 1) := by decide +kernel
theorem dX8_laysSets_61 : decode cX8_laysSets 61 = .ok (.aload_n 0, 1) := by decide +kernel
theorem dX8_laysSets_62 : decode cX8_laysSets 62 = .ok (.getfield 63, 3) := by decide +kernel
theorem dX8_laysSets_65 : decode cX8_laysSets 65 = .ok (.aload_n 0, 1) := by decide +kernel
theorem dX8_laysSets_66 : decode cX8_laysSets 66 = .ok (.getfield 227, 3) := by decide +kernel
theorem dX8_laysSets_69 : decode cX8_laysSets 69 = .ok (.iload_n 3, 1) := by decide +kernel
theorem dX8_laysSets_70 : decode cX8_laysSets 70 = .ok (.iastore, 1) := by decide +kernel
theorem dX8_laysSets_71 : decode cX8_laysSets 71 = .ok (.aload_n 0, 1) := by decide +kernel
theorem dX8_laysSets_72 : decode cX8_laysSets 72 = .ok (.getfield 66, 3) := by decide +kernel
theorem dX8_laysSets_75 : decode cX8_laysSets 75 = .ok (.aload_n 0, 1) := by decide +kernel
theorem dX8_laysSets_76 : decode cX8_laysSets 76 = .ok (.getfield 227, 3) := by decide +kernel
theorem dX8_laysSets_79 : decode cX8_laysSets 79 = .ok (.aload_n 0, 1) := by decide +kernel
theorem dX8_laysSets_80 : decode cX8_laysSets 80 = .ok (.iload_n 2, 1) := by decide +kernel
theorem dX8_laysSets_81 : decode cX8_laysSets 81 = .ok (.iload_n 3, 1) := by decide +kernel
theorem dX8_laysSets_82 : decode cX8_laysSets 82 = .ok (.invokevirtual 233, 3) := by decide +kernel
theorem dX8_laysSets_85 : decode cX8_laysSets 85 = .ok (.iastore, 1) := by decide +kernel
theorem dX8_laysSets_86 : decode cX8_laysSets 86 = .ok (.aload_n 0, 1) := by decide +kernel
theorem dX8_laysSets_87 : decode cX8_laysSets 87 = .ok (.getfield 69, 3) := by decide +kernel
theorem dX8_laysSets_90 : decode cX8_laysSets 90 = .ok (.aload_n 0, 1) := by decide +kernel
theorem dX8_laysSets_91 : decode cX8_laysSets 91 = .ok (.getfield 227, 3) := by decide +kernel
theorem dX8_laysSets_94 : decode cX8_laysSets 94 = .ok (.aload_n 0, 1) := by decide +kernel
theorem dX8_laysSets_95 : decode cX8_laysSets 95 = .ok (.iload_n 2, 1) := by decide +kernel
theorem dX8_laysSets_96 : decode cX8_laysSets 96 = .ok (.iload_n 3, 1) := by decide +kernel
theorem dX8_laysSets_97 : decode cX8_laysSets 97 = .ok (.invokevirtual 236, 3) := by decide +kernel
theorem dX8_laysSets_100 : decode cX8_laysSets 100 = .ok (.iastore, 1) := by decide +kernel
theorem dX8_laysSets_101 : decode cX8_laysSets 101 = .ok (.aload_n 0, 1) := by decide +kernel
theorem dX8_laysSets_102 : decode cX8_laysSets 102 = .ok (.dup, 1) := by decide +kernel
theorem dX8_laysSets_103 : decode cX8_laysSets 103 = .ok (.getfield 227, 3) := by decide +kernel
theorem dX8_laysSets_106 : decode cX8_laysSets 106 = .ok (.iconst 1, 1) := by decide +kernel
theorem dX8_laysSets_107 : decode cX8_laysSets 107 = .ok (.iadd, 1) := by decide +kernel
theorem dX8_laysSets_108 : decode cX8_laysSets 108 = .ok (.putfield 227, 3) := by decide +kernel
theorem dX8_laysSets_111 : decode cX8_laysSets 111 = .ok (.iinc 3 1, 3) := by decide +kernel
theorem dX8_laysSets_114 : decode cX8_laysSets 114 = .ok (.goto (-92), 3) := by decide +kernel
theorem dX8_laysSets_117 : decode cX8_laysSets 117 = .ok (.iinc 2 1, 3) := by decide +kernel
theorem dX8_laysSets_120 : decode cX8_laysSets 120 = .ok (.goto (-107), 3) := by decide +kernel
theorem dX8_laysSets_123 : decode cX8_laysSets 123 = .ok (.return_, 1) := by decide +kernel
theorem dX8_steep_0 : decode cX8_steep 0 = .ok (.aload_n 0, 1) := by decide +kernel
theorem dX8_steep_1 : decode cX8_steep 1 = .ok (.getfield 63, 3) := by decide +kernel
theorem dX8_steep_4 : decode cX8_steep 4 = .ok (.iload_n 1, 1) := by decide +kernel
theorem dX8_steep_5 : decode cX8_steep 5 = .ok (.iaload, 1) := by decide +kernel
theorem dX8_steep_6 : decode cX8_steep 6 = .ok (.aload_n 0, 1) := by decide +kernel
theorem dX8_steep_7 : decode cX8_steep 7 = .ok (.getfield 60, 3) := by decide +kernel
theorem dX8_steep_10 : decode cX8_steep 10 = .ok (.iload_n 1, 1) := by decide +kernel
theorem dX8_steep_11 : decode cX8_steep 11 = .ok (.iaload, 1) := by decide +kernel
theorem dX8_steep_12 : decode cX8_steep 12 = .ok (.isub, 1) := by decide +kernel
theorem dX8_steep_13 : decode cX8_steep 13 = .ok (.invokestatic 156, 3) := by decide +kernel
theorem dX8_steep_16 : decode cX8_steep 16 = .ok (.ireturn, 1) := by decide +kernel
theorem dX8_isBefore_0 : decode cX8_isBefore 0 = .ok (.aload_n 0, 1) := by decide +kernel
theorem dX8_isBefore_1 : decode cX8_isBefore 1 = .ok (.getfield 66, 3) := by decide +kernel
theorem dX8_isBefore_4 : decode cX8_isBefore 4 = .ok (.iload_n 1, 1) := by decide +kernel
theorem dX8_isBefore_5 : decode cX8_isBefore 5 = .ok (.iaload, 1) := by decide +kernel
theorem dX8_isBefore_6 : decode cX8_isBefore 6 = .ok (.aload_n 0, 1) := by decide +kernel
theorem dX8_isBefore_7 : decode cX8_isBefore 7 = .ok (.getfield 66, 3) := by decide +kernel
theorem dX8_isBefore_10 : decode cX8_isBefore 10 = .ok (.iload_n 2, 1) := by decide +kernel
theorem dX8_isBefore_11 : decode cX8_isBefore 11 = .ok (.iaload, 1) := by decide +kernel
theorem dX8_isBefore_12 : decode cX8_isBefore 12 = .ok (.if_icmp .eq 24, 3) := by decide +kernel
theorem dX8_isBefore_15 : decode cX8_isBefore 15 = .ok (.aload_n 0, 1) := by decide +kernel
theorem dX8_isBefore_16 : decode cX8_isBefore 16 = .ok (.getfield 66, 3) := by decide +kernel
theorem dX8_isBefore_19 : decode cX8_isBefore 19 = .ok (.iload_n 1, 1) := by decide +kernel
theorem dX8_isBefore_20 : decode cX8_isBefore 20 = .ok (.iaload, 1) := by decide +kernel
theorem dX8_isBefore_21 : decode cX8_isBefore 21 = .ok (.aload_n 0, 1) := by decide +kernel
theorem dX8_isBefore_22 : decode cX8_isBefore 22 = .ok (.getfield 66, 3) := by decide +kernel
theorem dX8_isBefore_25 : decode cX8_isBefore 25 = .ok (.iload_n 2, 1) := by decide +kernel
theorem dX8_isBefore_26 : decode cX8_isBefore 26 = .ok (.iaload, 1) := by decide +kernel
theorem dX8_isBefore_27 : decode cX8_isBefore 27 = .ok (.if_icmp .ge 7, 3) := by decide +kernel
theorem dX8_isBefore_30 : decode cX8_isBefore 30 = .ok (.iconst 1, 1) := by decide +kernel
theorem dX8_isBefore_31 : decode cX8_isBefore 31 = .ok (.goto 4, 3) := by decide +kernel
theorem dX8_isBefore_34 : decode cX8_isBefore 34 = .ok (.iconst 0, 1) := by decide +kernel
theorem dX8_isBefore_35 : decode cX8_isBefore 35 = .ok (.ireturn, 1) := by decide +kernel
theorem dX8_isBefore_36 : decode cX8_isBefore 36 = .ok (.aload_n 0, 1) := by decide +kernel
theorem dX8_isBefore_37 : decode cX8_isBefore 37 = .ok (.iload_n 1, 1) := by decide +kernel
theorem dX8_isBefore_38 : decode cX8_isBefore 38 = .ok (.invokevirtual 239, 3) := by decide +kernel
theorem dX8_isBefore_41 : decode cX8_isBefore 41 = .ok (.aload_n 0, 1) := by decide +kernel
theorem dX8_isBefore_42 : decode cX8_isBefore 42 = .ok (.iload_n 2, 1) := by decide +kernel
theorem dX8_isBefore_43 : decode cX8_isBefore 43 = .ok (.invokevirtual 239, 3) := by decide +kernel
theorem dX8_isBefore_46 : decode cX8_isBefore 46 = .ok (.if_icmp .eq 22, 3) := by decide +kernel
theorem dX8_isBefore_49 : decode cX8_isBefore 49 = .ok (.aload_n 0, 1) := by decide +kernel
theorem dX8_isBefore_50 : decode cX8_isBefore 50 = .ok (.iload_n 1, 1) := by decide +kernel
theorem dX8_isBefore_51 : decode cX8_isBefore 51 = .ok (.invokevirtual 239, 3) := by decide +kernel
theorem dX8_isBefore_54 : decode cX8_isBefore 54 = .ok (.aload_n 0, 1) := by decide +kernel
theorem dX8_isBefore_55 : decode cX8_isBefore 55 = .ok (.iload_n 2, 1) := by decide +kernel
theorem dX8_isBefore_56 : decode cX8_isBefore 56 = .ok (.invokevirtual 239, 3) := by decide +kernel
theorem dX8_isBefore_59 : decode cX8_isBefore 59 = .ok (.if_icmp .ge 7, 3) := by decide +kernel
theorem dX8_isBefore_62 : decode cX8_isBefore 62 = .ok (.iconst 1, 1) := by decide +kernel
theorem dX8_isBefore_63 : decode cX8_isBefore 63 = .ok (.goto 4, 3) := by decide +kernel
theorem dX8_isBefore_66 : decode cX8_isBefore 66 = .ok (.iconst 0, 1) := by decide +kernel
theorem dX8_isBefore_67 : decode cX8_isBefore 67 = .ok (.ireturn, 1) := by decide +kernel
theorem dX8_isBefore_68 : decode cX8_isBefore 68 = .ok (.aload_n 0, 1) := by decide +kernel
theorem dX8_isBefore_69 : decode cX8_isBefore 69 = .ok (.getfield 69, 3) := by decide +kernel
theorem dX8_isBefore_72 : decode cX8_isBefore 72 = .ok (.iload_n 1, 1) := by decide +kernel
theorem dX8_isBefore_73 : decode cX8_isBefore 73 = .ok (.iaload, 1) := by decide +kernel
theorem dX8_isBefore_74 : decode cX8_isBefore 74 = .ok (.aload_n 0, 1) := by decide +kernel
theorem dX8_isBefore_75 : decode cX8_isBefore 75 = .ok (.getfield 69, 3) := by decide +kernel
theorem dX8_isBefore_78 : decode cX8_isBefore 78 = .ok (.iload_n 2, 1) := by decide +kernel
theorem dX8_isBefore_79 : decode cX8_isBefore 79 = .ok (.iaload, 1) := by decide +kernel
theorem dX8_isBefore_80 : decode cX8_isBefore 80 = .ok (.if_icmp .eq 24, 3) := by decide +kernel
theorem dX8_isBefore_83 : decode cX8_isBefore 83 = .ok (.aload_n 0, 1) := by decide +kernel
theorem dX8_isBefore_84 : decode cX8_isBefore 84 = .ok (.getfield 69, 3) := by decide +kernel
theorem dX8_isBefore_87 : decode cX8_isBefore 87 = .ok (.iload_n 1, 1) := by decide +kernel
theorem dX8_isBefore_88 : decode cX8_isBefore 88 = .ok (.iaload, 1) := by decide +kernel
theorem dX8_isBefore_89 : decode cX8_isBefore 89 = .ok (.aload_n 0, 1) := by decide +kernel
theorem dX8_isBefore_90 : decode cX8_isBefore 90 = .ok (.getfield 69, 3) := by decide +kernel
theorem dX8_isBefore_93 : decode cX8_isBefore 93 = .ok (.iload_n 2, 1) := by decide +kernel
theorem dX8_isBefore_94 : decode cX8_isBefore 94 = .ok (.iaload, 1) := by decide +kernel
theorem dX8_isBefore_95 : decode cX8_isBefore 95 = .ok (.if_icmp .ge 7, 3) := by decide +kernel
theorem dX8_isBefore_98 : decode cX8_isBefore 98 = .ok (.iconst 1, 1) := by decide +kernel
theorem dX8_isBefore_99 : decode cX8_isBefore 99 = .ok (.goto 4, 3) := by decide +kernel
theorem dX8_isBefore_102 : decode cX8_isBefore 102 = .ok (.iconst 0, 1) := by decide +kernel
theorem dX8_isBefore_103 : decode cX8_isBefore 103 = .ok (.ireturn, 1) := by decide +kernel
theorem dX8_isBefore_104 : decode cX8_isBefore 104 = .ok (.aload_n 0, 1) := by decide +kernel
theorem dX8_isBefore_105 : decode cX8_isBefore 105 = .ok (.getfield 57, 3) := by decide +kernel
theorem dX8_isBefore_108 : decode cX8_isBefore 108 = .ok (.aload_n 0, 1) := by decide +kernel
theorem dX8_isBefore_109 : decode cX8_isBefore 109 = .ok (.getfield 173, 3) := by decide +kernel
theorem dX8_isBefore_112 : decode cX8_isBefore 112 = .ok (.iaload, 1) := by decide +kernel
theorem dX8_isBefore_113 : decode cX8_isBefore 113 = .ok (.istore_n 3, 1) := by decide +kernel
theorem dX8_isBefore_114 : decode cX8_isBefore 114 = .ok (.aload_n 0, 1) := by decide +kernel
theorem dX8_isBefore_115 : decode cX8_isBefore 115 = .ok (.getfield 60, 3) := by decide +kernel
theorem dX8_isBefore_118 : decode cX8_isBefore 118 = .ok (.iload_n 1, 1) := by decide +kernel
theorem dX8_isBefore_119 : decode cX8_isBefore 119 = .ok (.iaload, 1) := by decide +kernel
theorem dX8_isBefore_120 : decode cX8_isBefore 120 = .ok (.aload_n 0, 1) := by decide +kernel
theorem dX8_isBefore_121 : decode cX8_isBefore 121 = .ok (.getfield 60, 3) := by decide +kernel
theorem dX8_isBefore_124 : decode cX8_isBefore 124 = .ok (.iload_n 2, 1) := by decide +kernel
theorem dX8_isBefore_125 : decode cX8_isBefore 125 = .ok (.iaload, 1) := by decide +kernel
theorem dX8_isBefore_126 : decode cX8_isBefore 126 = .ok (.if_icmp .eq 28, 3) := by decide +kernel
theorem dX8_isBefore_129 : decode cX8_isBefore 129 = .ok (.iload_n 3, 1) := by decide +kernel
theorem dX8_isBefore_130 : decode cX8_isBefore 130 = .ok (.aload_n 0, 1) := by decide +kernel
theorem dX8_isBefore_131 : decode cX8_isBefore 131 = .ok (.getfield 60, 3) := by decide +kernel
theorem dX8_isBefore_134 : decode cX8_isBefore 134 = .ok (.iload_n 1, 1) := by decide +kernel
theorem dX8_isBefore_135 : decode cX8_isBefore 135 = .ok (.iaload, 1) := by decide +kernel
theorem dX8_isBefore_136 : decode cX8_isBefore 136 = .ok (.imul, 1) := by decide +kernel
theorem dX8_isBefore_137 : decode cX8_isBefore 137 = .ok (.iload_n 3, 1) := by decide +kernel
theorem dX8_isBefore_138 : decode cX8_isBefore 138 = .ok (.aload_n 0, 1) := by decide +kernel
theorem dX8_isBefore_139 : decode cX8_isBefore 139 = .ok (.getfield 60, 3) := by decide +kernel
theorem dX8_isBefore_142 : decode cX8_isBefore 142 = .ok (.iload_n 2, 1) := by decide +kernel
theorem dX8_isBefore_143 : decode cX8_isBefore 143 = .ok (.iaload, 1) := by decide +kernel
theorem dX8_isBefore_144 : decode cX8_isBefore 144 = .ok (.imul, 1) := by decide +kernel
theorem dX8_isBefore_145 : decode cX8_isBefore 145 = .ok (.if_icmp .ge 7, 3) := by decide +kernel
theorem dX8_isBefore_148 : decode cX8_isBefore 148 = .ok (.iconst 1, 1) := by decide +kernel
theorem dX8_isBefore_149 : decode cX8_isBefore 149 = .ok (.goto 4, 3) := by decide +kernel
theorem dX8_isBefore_152 : decode cX8_isBefore 152 = .ok (.iconst 0, 1) := by decide +kernel
theorem dX8_isBefore_153 : decode cX8_isBefore 153 = .ok (.ireturn, 1) := by decide +kernel
theorem dX8_isBefore_154 : decode cX8_isBefore 154 = .ok (.iload_n 3, 1) := by decide +kernel
theorem dX8_isBefore_155 : decode cX8_isBefore 155 = .ok (.aload_n 0, 1) := by decide +kernel
theorem dX8_isBefore_156 : decode cX8_isBefore 156 = .ok (.getfield 63, 3) := by decide +kernel
theorem dX8_isBefore_159 : decode cX8_isBefore 159 = .ok (.iload_n 1, 1) := by decide +kernel
theorem dX8_isBefore_160 : decode cX8_isBefore 160 = .ok (.iaload, 1) := by decide +kernel
theorem dX8_isBefore_161 : decode cX8_isBefore 161 = .ok (.imul, 1) := by decide +kernel
theorem dX8_isBefore_162 : decode cX8_isBefore 162 = .ok (.iload_n 3, 1) := by decide +kernel
theorem dX8_isBefore_163 : decode cX8_isBefore 163 = .ok (.aload_n 0, 1) := by decide +kernel
theorem dX8_isBefore_164 : decode cX8_isBefore 164 = .ok (.getfield 63, 3) := by decide +kernel
theorem dX8_isBefore_167 : decode cX8_isBefore 167 = .ok (.iload_n 2, 1) := by decide +kernel
theorem dX8_isBefore_168 : decode cX8_isBefore 168 = .ok (.iaload, 1) := by decide +kernel
theorem dX8_isBefore_169 : decode cX8_isBefore 169 = .ok (.imul, 1) := by decide +kernel
theorem dX8_isBefore_170 : decode cX8_isBefore 170 = .ok (.if_icmp .ge 7, 3) := by decide +kernel
theorem dX8_isBefore_173 : decode cX8_isBefore 173 = .ok (.iconst 1, 1) := by decide +kernel
theorem dX8_isBefore_174 : decode cX8_isBefore 174 = .ok (.goto 4, 3) := by decide +kernel
theorem dX8_isBefore_177 : decode cX8_isBefore 177 = .ok (.iconst 0, 1) := by decide +kernel
theorem dX8_isBefore_178 : decode cX8_isBefore 178 = .ok (.ireturn, 1) := by decide +kernel
theorem dX8_bestSet_0 : decode cX8_bestSet 0 = .ok (.iconst (-1), 1) := by decide +kernel
theorem dX8_bestSet_1 : decode cX8_bestSet 1 = .ok (.istore_n 1, 1) := by decide +kernel
theorem dX8_bestSet_2 : decode cX8_bestSet 2 = .ok (.iconst 0, 1) := by decide +kernel
theorem dX8_bestSet_3 : decode cX8_bestSet 3 = .ok (.istore_n 2, 1) := by decide +kernel
theorem dX8_bestSet_4 : decode cX8_bestSet 4 = .ok (.iload_n 2, 1) := by decide +kernel
theorem dX8_bestSet_5 : decode cX8_bestSet 5 = .ok (.aload_n 0, 1) := by decide +kernel
theorem dX8_bestSet_6 : decode cX8_bestSet 6 = .ok (.getfield 227, 3) := by decide +kernel
theorem dX8_bestSet_9 : decode cX8_bestSet 9 = .ok (.if_icmp .ge 29, 3) := by decide +kernel
theorem dX8_bestSet_12 : decode cX8_bestSet 12 = .ok (.iload_n 1, 1) := by decide +kernel
theorem dX8_bestSet_13 : decode cX8_bestSet 13 = .ok (.iconst (-1), 1) := by decide +kernel
theorem dX8_bestSet_14 : decode cX8_bestSet 14 = .ok (.if_icmp .eq 12, 3) := by decide +kernel
theorem dX8_bestSet_17 : decode cX8_bestSet 17 = .ok (.aload_n 0, 1) := by decide +kernel
theorem dX8_bestSet_18 : decode cX8_bestSet 18 = .ok (.iload_n 2, 1) := by decide +kernel
theorem dX8_bestSet_19 : decode cX8_bestSet 19 = .ok (.iload_n 1, 1) := by decide +kernel
theorem dX8_bestSet_20 : decode cX8_bestSet 20 = .ok (.invokevirtual 242, 3) := by decide +kernel
theorem dX8_bestSet_23 : decode cX8_bestSet 23 = .ok (.ifCond .eq 7, 3) := by decide +kernel
theorem dX8_bestSet_26 : decode cX8_bestSet 26 = .ok (.iload_n 2, 1) := by decide +kernel
theorem dX8_bestSet_27 : decode cX8_bestSet 27 = .ok (.goto 4, 3) := by decide +kernel
theorem dX8_bestSet_30 : decode cX8_bestSet 30 = .ok (.iload_n 1, 1) := by decide +kernel
theorem dX8_bestSet_31 : decode cX8_bestSet 31 = .ok (.istore_n 1, 1) := by decide +kernel
theorem dX8_bestSet_32 : decode cX8_bestSet 32 = .ok (.iinc 2 1, 3) := by decide +kernel
theorem dX8_bestSet_35 : decode cX8_bestSet 35 = .ok (.goto (-31), 3) := by decide +kernel
theorem dX8_bestSet_38 : decode cX8_bestSet 38 = .ok (.iload_n 1, 1) := by decide +kernel
theorem dX8_bestSet_39 : decode cX8_bestSet 39 = .ok (.ireturn, 1) := by decide +kernel
theorem dX8_rankOf_0 : decode cX8_rankOf 0 = .ok (.iconst 0, 1) := by decide +kernel
theorem dX8_rankOf_1 : decode cX8_rankOf 1 = .ok (.istore_n 2, 1) := by decide +kernel
theorem dX8_rankOf_2 : decode cX8_rankOf 2 = .ok (.iconst 0, 1) := by decide +kernel
theorem dX8_rankOf_3 : decode cX8_rankOf 3 = .ok (.istore_n 3, 1) := by decide +kernel
theorem dX8_rankOf_4 : decode cX8_rankOf 4 = .ok (.iload_n 3, 1) := by decide +kernel
theorem dX8_rankOf_5 : decode cX8_rankOf 5 = .ok (.aload_n 0, 1) := by decide +kernel
theorem dX8_rankOf_6 : decode cX8_rankOf 6 = .ok (.getfield 227, 3) := by decide +kernel
theorem dX8_rankOf_9 : decode cX8_rankOf 9 = .ok (.if_icmp .ge 31, 3) := by decide +kernel
theorem dX8_rankOf_12 : decode cX8_rankOf 12 = .ok (.iload_n 2, 1) := by decide +kernel
theorem dX8_rankOf_13 : decode cX8_rankOf 13 = .ok (.iload_n 3, 1) := by decide +kernel
theorem dX8_rankOf_14 : decode cX8_rankOf 14 = .ok (.iload_n 1, 1) := by decide +kernel
theorem dX8_rankOf_15 : decode cX8_rankOf 15 = .ok (.if_icmp .eq 16, 3) := by decide +kernel
theorem dX8_rankOf_18 : decode cX8_rankOf 18 = .ok (.aload_n 0, 1) := by decide +kernel
theorem dX8_rankOf_19 : decode cX8_rankOf 19 = .ok (.iload_n 3, 1) := by decide +kernel
theorem dX8_rankOf_20 : decode cX8_rankOf 20 = .ok (.iload_n 1, 1) := by decide +kernel
theorem dX8_rankOf_21 : decode cX8_rankOf 21 = .ok (.invokevirtual 242, 3) := by decide +kernel
theorem dX8_rankOf_24 : decode cX8_rankOf 24 = .ok (.ifCond .eq 7, 3) := by decide +kernel
theorem dX8_rankOf_27 : decode cX8_rankOf 27 = .ok (.iconst 1, 1) := by decide +kernel
theorem dX8_rankOf_28 : decode cX8_rankOf 28 = .ok (.goto 4, 3) := by decide +kernel
theorem dX8_rankOf_31 : decode cX8_rankOf 31 = .ok (.iconst 0, 1) := by decide +kernel
theorem dX8_rankOf_32 : decode cX8_rankOf 32 = .ok (.iadd, 1) := by decide +kernel
theorem dX8_rankOf_33 : decode cX8_rankOf 33 = .ok (.istore_n 2, 1) := by decide +kernel
theorem dX8_rankOf_34 : decode cX8_rankOf 34 = .ok (.iinc 3 1, 3) := by decide +kernel
theorem dX8_rankOf_37 : decode cX8_rankOf 37 = .ok (.goto (-33), 3) := by decide +kernel
theorem dX8_rankOf_40 : decode cX8_rankOf 40 = .ok (.iload_n 2, 1) := by decide +kernel
theorem dX8_rankOf_41 : decode cX8_rankOf 41 = .ok (.ireturn, 1) := by decide +kernel
theorem dX8_told_0 : decode cX8_told 0 = .ok (.aload_n 0, 1) := by decide +kernel
theorem dX8_told_1 : decode cX8_told 1 = .ok (.getfield 60, 3) := by decide +kernel
theorem dX8_told_4 : decode cX8_told 4 = .ok (.iload_n 1, 1) := by decide +kernel
theorem dX8_told_5 : decode cX8_told 5 = .ok (.iaload, 1) := by decide +kernel
theorem dX8_told_6 : decode cX8_told 6 = .ok (.istore_n 3, 1) := by decide +kernel
theorem dX8_told_7 : decode cX8_told 7 = .ok (.aload_n 0, 1) := by decide +kernel
theorem dX8_told_8 : decode cX8_told 8 = .ok (.getfield 63, 3) := by decide +kernel
theorem dX8_told_11 : decode cX8_told 11 = .ok (.iload_n 1, 1) := by decide +kernel
theorem dX8_told_12 : decode cX8_told 12 = .ok (.iaload, 1) := by decide +kernel
theorem dX8_told_13 : decode cX8_told 13 = .ok (.istore 4, 2) := by decide +kernel
theorem dX8_told_15 : decode cX8_told 15 = .ok (.iload_n 2, 1) := by decide +kernel
theorem dX8_told_16 : decode cX8_told 16 = .ok (.tableswitch 64 0 4 #[36, 38, 41, 48, 56], 36) := by decide +kernel
theorem dX8_told_52 : decode cX8_told 52 = .ok (.iload_n 3, 1) := by decide +kernel
theorem dX8_told_53 : decode cX8_told 53 = .ok (.ireturn, 1) := by decide +kernel
theorem dX8_told_54 : decode cX8_told 54 = .ok (.iload 4, 2) := by decide +kernel
theorem dX8_told_56 : decode cX8_told 56 = .ok (.ireturn, 1) := by decide +kernel
theorem dX8_told_57 : decode cX8_told 57 = .ok (.aload_n 0, 1) := by decide +kernel
theorem dX8_told_58 : decode cX8_told 58 = .ok (.getfield 66, 3) := by decide +kernel
theorem dX8_told_61 : decode cX8_told 61 = .ok (.iload_n 1, 1) := by decide +kernel
theorem dX8_told_62 : decode cX8_told 62 = .ok (.iaload, 1) := by decide +kernel
theorem dX8_told_63 : decode cX8_told 63 = .ok (.ireturn, 1) := by decide +kernel
theorem dX8_told_64 : decode cX8_told 64 = .ok (.aload_n 0, 1) := by decide +kernel
theorem dX8_told_65 : decode cX8_told 65 = .ok (.iload_n 3, 1) := by decide +kernel
theorem dX8_told_66 : decode cX8_told 66 = .ok (.iload 4, 2) := by decide +kernel
theorem dX8_told_68 : decode cX8_told 68 = .ok (.invokevirtual 215, 3) := by decide +kernel
theorem dX8_told_71 : decode cX8_told 71 = .ok (.ireturn, 1) := by decide +kernel
theorem dX8_told_72 : decode cX8_told 72 = .ok (.aload_n 0, 1) := by decide +kernel
theorem dX8_told_73 : decode cX8_told 73 = .ok (.iload_n 3, 1) := by decide +kernel
theorem dX8_told_74 : decode cX8_told 74 = .ok (.iload 4, 2) := by decide +kernel
theorem dX8_told_76 : decode cX8_told 76 = .ok (.invokevirtual 218, 3) := by decide +kernel
theorem dX8_told_79 : decode cX8_told 79 = .ok (.ireturn, 1) := by decide +kernel
theorem dX8_told_80 : decode cX8_told 80 = .ok (.aload_n 0, 1) := by decide +kernel
theorem dX8_told_81 : decode cX8_told 81 = .ok (.iload_n 3, 1) := by decide +kernel
theorem dX8_told_82 : decode cX8_told 82 = .ok (.iload 4, 2) := by decide +kernel
theorem dX8_told_84 : decode cX8_told 84 = .ok (.invokevirtual 221, 3) := by decide +kernel
theorem dX8_told_87 : decode cX8_told 87 = .ok (.ireturn, 1) := by decide +kernel
theorem dX8_bestOf_0 : decode cX8_bestOf 0 = .ok (.aload_n 0, 1) := by decide +kernel
theorem dX8_bestOf_1 : decode cX8_bestOf 1 = .ok (.iload_n 1, 1) := by decide +kernel
theorem dX8_bestOf_2 : decode cX8_bestOf 2 = .ok (.invokevirtual 245, 3) := by decide +kernel
theorem dX8_bestOf_5 : decode cX8_bestOf 5 = .ok (.aload_n 0, 1) := by decide +kernel
theorem dX8_bestOf_6 : decode cX8_bestOf 6 = .ok (.invokevirtual 248, 3) := by decide +kernel
theorem dX8_bestOf_9 : decode cX8_bestOf 9 = .ok (.istore_n 3, 1) := by decide +kernel
theorem dX8_bestOf_10 : decode cX8_bestOf 10 = .ok (.iload_n 3, 1) := by decide +kernel
theorem dX8_bestOf_11 : decode cX8_bestOf 11 = .ok (.iconst (-1), 1) := by decide +kernel
theorem dX8_bestOf_12 : decode cX8_bestOf 12 = .ok (.if_icmp .ne 8, 3) := by decide +kernel
theorem dX8_bestOf_15 : decode cX8_bestOf 15 = .ok (.ldc 251, 2) := by decide +kernel
theorem dX8_bestOf_17 : decode cX8_bestOf 17 = .ok (.goto 9, 3) := by decide +kernel
theorem dX8_bestOf_20 : decode cX8_bestOf 20 = .ok (.aload_n 0, 1) := by decide +kernel
theorem dX8_bestOf_21 : decode cX8_bestOf 21 = .ok (.iload_n 3, 1) := by decide +kernel
theorem dX8_bestOf_22 : decode cX8_bestOf 22 = .ok (.iload_n 2, 1) := by decide +kernel
theorem dX8_bestOf_23 : decode cX8_bestOf 23 = .ok (.invokevirtual 252, 3) := by decide +kernel
theorem dX8_bestOf_26 : decode cX8_bestOf 26 = .ok (.ireturn, 1) := by decide +kernel
theorem dX8_laysTotal_0 : decode cX8_laysTotal 0 = .ok (.aload_n 0, 1) := by decide +kernel
theorem dX8_laysTotal_1 : decode cX8_laysTotal 1 = .ok (.iconst 0, 1) := by decide +kernel
theorem dX8_laysTotal_2 : decode cX8_laysTotal 2 = .ok (.putfield 255, 3) := by decide +kernel
theorem dX8_laysTotal_5 : decode cX8_laysTotal 5 = .ok (.aload_n 0, 1) := by decide +kernel
theorem dX8_laysTotal_6 : decode cX8_laysTotal 6 = .ok (.iconst 0, 1) := by decide +kernel
theorem dX8_laysTotal_7 : decode cX8_laysTotal 7 = .ok (.putfield 258, 3) := by decide +kernel
theorem dX8_laysTotal_10 : decode cX8_laysTotal 10 = .ok (.aload_n 0, 1) := by decide +kernel
theorem dX8_laysTotal_11 : decode cX8_laysTotal 11 = .ok (.bipush (-2), 2) := by decide +kernel
theorem dX8_laysTotal_13 : decode cX8_laysTotal 13 = .ok (.putfield 261, 3) := by decide +kernel
theorem dX8_laysTotal_16 : decode cX8_laysTotal 16 = .ok (.aload_n 0, 1) := by decide +kernel
theorem dX8_laysTotal_17 : decode cX8_laysTotal 17 = .ok (.iconst 0, 1) := by decide +kernel
theorem dX8_laysTotal_18 : decode cX8_laysTotal 18 = .ok (.putfield 264, 3) := by decide +kernel
theorem dX8_laysTotal_21 : decode cX8_laysTotal 21 = .ok (.iconst 0, 1) := by decide +kernel
theorem dX8_laysTotal_22 : decode cX8_laysTotal 22 = .ok (.istore_n 1, 1) := by decide +kernel
theorem dX8_laysTotal_23 : decode cX8_laysTotal 23 = .ok (.iconst 0, 1) := by decide +kernel
theorem dX8_laysTotal_24 : decode cX8_laysTotal 24 = .ok (.istore_n 2, 1) := by decide +kernel
theorem dX8_laysTotal_25 : decode cX8_laysTotal 25 = .ok (.iload_n 2, 1) := by decide +kernel
theorem dX8_laysTotal_26 : decode cX8_laysTotal 26 = .ok (.aload_n 0, 1) := by decide +kernel
theorem dX8_laysTotal_27 : decode cX8_laysTotal 27 = .ok (.getfield 149, 3) := by decide +kernel
theorem dX8_laysTotal_30 : decode cX8_laysTotal 30 = .ok (.if_icmp .ge 88, 3) := by decide +kernel
theorem dX8_laysTotal_33 : decode cX8_laysTotal 33 = .ok (.aload_n 0, 1) := by decide +kernel
theorem dX8_laysTotal_34 : decode cX8_laysTotal 34 = .ok (.iload_n 2, 1) := by decide +kernel
theorem dX8_laysTotal_35 : decode cX8_laysTotal 35 = .ok (.iconst 2, 1) := by decide +kernel
theorem dX8_laysTotal_36 : decode cX8_laysTotal 36 = .ok (.invokevirtual 267, 3) := by decide +kernel
theorem dX8_laysTotal_39 : decode cX8_laysTotal 39 = .ok (.istore_n 3, 1) := by decide +kernel
theorem dX8_laysTotal_40 : decode cX8_laysTotal 40 = .ok (.aload_n 0, 1) := by decide +kernel
theorem dX8_laysTotal_41 : decode cX8_laysTotal 41 = .ok (.dup, 1) := by decide +kernel
theorem dX8_laysTotal_42 : decode cX8_laysTotal 42 = .ok (.getfield 264, 3) := by decide +kernel
theorem dX8_laysTotal_45 : decode cX8_laysTotal 45 = .ok (.aload_n 0, 1) := by decide +kernel
theorem dX8_laysTotal_46 : decode cX8_laysTotal 46 = .ok (.getfield 162, 3) := by decide +kernel
theorem dX8_laysTotal_49 : decode cX8_laysTotal 49 = .ok (.ifCond .eq 7, 3) := by decide +kernel
theorem dX8_laysTotal_52 : decode cX8_laysTotal 52 = .ok (.iconst 1, 1) := by decide +kernel
theorem dX8_laysTotal_53 : decode cX8_laysTotal 53 = .ok (.goto 4, 3) := by decide +kernel
theorem dX8_laysTotal_56 : decode cX8_laysTotal 56 = .ok (.iconst 0, 1) := by decide +kernel
theorem dX8_laysTotal_57 : decode cX8_laysTotal 57 = .ok (.iadd, 1) := by decide +kernel
theorem dX8_laysTotal_58 : decode cX8_laysTotal 58 = .ok (.putfield 264, 3) := by decide +kernel
theorem dX8_laysTotal_61 : decode cX8_laysTotal 61 = .ok (.iload_n 3, 1) := by decide +kernel
theorem dX8_laysTotal_62 : decode cX8_laysTotal 62 = .ok (.ldc 251, 2) := by decide +kernel
theorem dX8_laysTotal_64 : decode cX8_laysTotal 64 = .ok (.if_icmp .ne 16, 3) := by decide +kernel
theorem dX8_laysTotal_67 : decode cX8_laysTotal 67 = .ok (.aload_n 0, 1) := by decide +kernel
theorem dX8_laysTotal_68 : decode cX8_laysTotal 68 = .ok (.dup, 1) := by decide +kernel
theorem dX8_laysTotal_69 : decode cX8_laysTotal 69 = .ok (.getfield 258, 3) := by decide +kernel
theorem dX8_laysTotal_72 : decode cX8_laysTotal 72 = .ok (.iconst 1, 1) := by decide +kernel
theorem dX8_laysTotal_73 : decode cX8_laysTotal 73 = .ok (.iadd, 1) := by decide +kernel
theorem dX8_laysTotal_74 : decode cX8_laysTotal 74 = .ok (.putfield 258, 3) := by decide +kernel
theorem dX8_laysTotal_77 : decode cX8_laysTotal 77 = .ok (.goto 35, 3) := by decide +kernel
theorem dX8_laysTotal_80 : decode cX8_laysTotal 80 = .ok (.aload_n 0, 1) := by decide +kernel
theorem dX8_laysTotal_81 : decode cX8_laysTotal 81 = .ok (.dup, 1) := by decide +kernel
theorem dX8_laysTotal_82 : decode cX8_laysTotal 82 = .ok (.getfield 255, 3) := by decide +kernel
theorem dX8_laysTotal_85 : decode cX8_laysTotal 85 = .ok (.iload_n 3, 1) := by decide +kernel
theorem dX8_laysTotal_86 : decode cX8_laysTotal 86 = .ok (.iadd, 1) := by decide +kernel
theorem dX8_laysTotal_87 : decode cX8_laysTotal 87 = .ok (.putfield 255, 3) := by decide +kernel
theorem dX8_laysTotal_90 : decode cX8_laysTotal 90 = .ok (.aload_n 0, 1) := by decide +kernel
theorem dX8_laysTotal_91 : decode cX8_laysTotal 91 = .ok (.getfield 261, 3) := by decide +kernel
theorem dX8_laysTotal_94 : decode cX8_laysTotal 94 = .ok (.ifCond .lt 11, 3) := by decide +kernel
theorem dX8_laysTotal_97 : decode cX8_laysTotal 97 = .ok (.iload_n 3, 1) := by decide +kernel
theorem dX8_laysTotal_98 : decode cX8_laysTotal 98 = .ok (.iload_n 1, 1) := by decide +kernel
theorem dX8_laysTotal_99 : decode cX8_laysTotal 99 = .ok (.if_icmp .gt 6, 3) := by decide +kernel
theorem dX8_laysTotal_102 : decode cX8_laysTotal 102 = .ok (.goto 10, 3) := by decide +kernel
theorem dX8_laysTotal_105 : decode cX8_laysTotal 105 = .ok (.aload_n 0, 1) := by decide +kernel
theorem dX8_laysTotal_106 : decode cX8_laysTotal 106 = .ok (.iload_n 2, 1) := by decide +kernel
theorem dX8_laysTotal_107 : decode cX8_laysTotal 107 = .ok (.putfield 261, 3) := by decide +kernel
theorem dX8_laysTotal_110 : decode cX8_laysTotal 110 = .ok (.iload_n 3, 1) := by decide +kernel
theorem dX8_laysTotal_111 : decode cX8_laysTotal 111 = .ok (.istore_n 1, 1) := by decide +kernel
theorem dX8_laysTotal_112 : decode cX8_laysTotal 112 = .ok (.iinc 2 1, 3) := by decide +kernel
theorem dX8_laysTotal_115 : decode cX8_laysTotal 115 = .ok (.goto (-90), 3) := by decide +kernel
theorem dX8_laysTotal_118 : decode cX8_laysTotal 118 = .ok (.return_, 1) := by decide +kernel
theorem dX8_totalOf_0 : decode cX8_totalOf 0 = .ok (.aload_n 0, 1) := by decide +kernel
theorem dX8_totalOf_1 : decode cX8_totalOf 1 = .ok (.invokevirtual 270, 3) := by decide +kernel
theorem dX8_totalOf_4 : decode cX8_totalOf 4 = .ok (.iload_n 1, 1) := by decide +kernel
theorem dX8_totalOf_5 : decode cX8_totalOf 5 = .ok (.ifCond .ne 10, 3) := by decide +kernel
theorem dX8_totalOf_8 : decode cX8_totalOf 8 = .ok (.aload_n 0, 1) := by decide +kernel
theorem dX8_totalOf_9 : decode cX8_totalOf 9 = .ok (.getfield 255, 3) := by decide +kernel
theorem dX8_totalOf_12 : decode cX8_totalOf 12 = .ok (.goto 31, 3) := by decide +kernel
theorem dX8_totalOf_15 : decode cX8_totalOf 15 = .ok (.iload_n 1, 1) := by decide +kernel
theorem dX8_totalOf_16 : decode cX8_totalOf 16 = .ok (.iconst 1, 1) := by decide +kernel
theorem dX8_totalOf_17 : decode cX8_totalOf 17 = .ok (.if_icmp .ne 10, 3) := by decide +kernel
theorem dX8_totalOf_20 : decode cX8_totalOf 20 = .ok (.aload_n 0, 1) := by decide +kernel
theorem dX8_totalOf_21 : decode cX8_totalOf 21 = .ok (.getfield 258, 3) := by decide +kernel
theorem dX8_totalOf_24 : decode cX8_totalOf 24 = .ok (.goto 19, 3) := by decide +kernel
theorem dX8_totalOf_27 : decode cX8_totalOf 27 = .ok (.iload_n 1, 1) := by decide +kernel
theorem dX8_totalOf_28 : decode cX8_totalOf 28 = .ok (.iconst 2, 1) := by decide +kernel
theorem dX8_totalOf_29 : decode cX8_totalOf 29 = .ok (.if_icmp .ne 10, 3) := by decide +kernel
theorem dX8_totalOf_32 : decode cX8_totalOf 32 = .ok (.aload_n 0, 1) := by decide +kernel
theorem dX8_totalOf_33 : decode cX8_totalOf 33 = .ok (.getfield 261, 3) := by decide +kernel
theorem dX8_totalOf_36 : decode cX8_totalOf 36 = .ok (.goto 7, 3) := by decide +kernel
theorem dX8_totalOf_39 : decode cX8_totalOf 39 = .ok (.aload_n 0, 1) := by decide +kernel
theorem dX8_totalOf_40 : decode cX8_totalOf 40 = .ok (.getfield 264, 3) := by decide +kernel
theorem dX8_totalOf_43 : decode cX8_totalOf 43 = .ok (.ireturn, 1) := by decide +kernel
theorem dX8_four_0 : decode cX8_four 0 = .ok (.bipush 24, 2) := by decide +kernel
theorem dX8_four_2 : decode cX8_four 2 = .ok (.istore_n 2, 1) := by decide +kernel
theorem dX8_four_3 : decode cX8_four 3 = .ok (.iload_n 2, 1) := by decide +kernel
theorem dX8_four_4 : decode cX8_four 4 = .ok (.ifCond .lt 32, 3) := by decide +kernel
theorem dX8_four_7 : decode cX8_four 7 = .ok (.aload_n 0, 1) := by decide +kernel
theorem dX8_four_8 : decode cX8_four 8 = .ok (.getfield 72, 3) := by decide +kernel
theorem dX8_four_11 : decode cX8_four 11 = .ok (.aload_n 0, 1) := by decide +kernel
theorem dX8_four_12 : decode cX8_four 12 = .ok (.getfield 273, 3) := by decide +kernel
theorem dX8_four_15 : decode cX8_four 15 = .ok (.iload_n 1, 1) := by decide +kernel
theorem dX8_four_16 : decode cX8_four 16 = .ok (.iload_n 2, 1) := by decide +kernel
theorem dX8_four_17 : decode cX8_four 17 = .ok (.ishr, 1) := by decide +kernel
theorem dX8_four_18 : decode cX8_four 18 = .ok (.i2b, 1) := by decide +kernel
theorem dX8_four_19 : decode cX8_four 19 = .ok (.bastore, 1) := by decide +kernel
theorem dX8_four_20 : decode cX8_four 20 = .ok (.aload_n 0, 1) := by decide +kernel
theorem dX8_four_21 : decode cX8_four 21 = .ok (.dup, 1) := by decide +kernel
theorem dX8_four_22 : decode cX8_four 22 = .ok (.getfield 273, 3) := by decide +kernel
theorem dX8_four_25 : decode cX8_four 25 = .ok (.iconst 1, 1) := by decide +kernel
theorem dX8_four_26 : decode cX8_four 26 = .ok (.iadd, 1) := by decide +kernel
theorem dX8_four_27 : decode cX8_four 27 = .ok (.putfield 273, 3) := by decide +kernel
theorem dX8_four_30 : decode cX8_four 30 = .ok (.iinc 2 (-8), 3) := by decide +kernel
theorem dX8_four_33 : decode cX8_four 33 = .ok (.goto (-30), 3) := by decide +kernel
theorem dX8_four_36 : decode cX8_four 36 = .ok (.return_, 1) := by decide +kernel
theorem dX8_feed_0 : decode cX8_feed 0 = .ok (.aload_n 0, 1) := by decide +kernel
theorem dX8_feed_1 : decode cX8_feed 1 = .ok (.iconst 0, 1) := by decide +kernel
theorem dX8_feed_2 : decode cX8_feed 2 = .ok (.putfield 112, 3) := by decide +kernel
theorem dX8_feed_5 : decode cX8_feed 5 = .ok (.aload_n 0, 1) := by decide +kernel
theorem dX8_feed_6 : decode cX8_feed 6 = .ok (.getfield 273, 3) := by decide +kernel
theorem dX8_feed_9 : decode cX8_feed 9 = .ok (.bipush 20, 2) := by decide +kernel
theorem dX8_feed_11 : decode cX8_feed 11 = .ok (.iadd, 1) := by decide +kernel
theorem dX8_feed_12 : decode cX8_feed 12 = .ok (.sipush 900, 3) := by decide +kernel
theorem dX8_feed_15 : decode cX8_feed 15 = .ok (.if_icmp .le 5, 3) := by decide +kernel
theorem dX8_feed_18 : decode cX8_feed 18 = .ok (.iconst (-1), 1) := by decide +kernel
theorem dX8_feed_19 : decode cX8_feed 19 = .ok (.ireturn, 1) := by decide +kernel
theorem dX8_feed_20 : decode cX8_feed 20 = .ok (.aload_n 0, 1) := by decide +kernel
theorem dX8_feed_21 : decode cX8_feed 21 = .ok (.iload_n 1, 1) := by decide +kernel
theorem dX8_feed_22 : decode cX8_feed 22 = .ok (.invokevirtual 276, 3) := by decide +kernel
theorem dX8_feed_25 : decode cX8_feed 25 = .ok (.aload_n 0, 1) := by decide +kernel
theorem dX8_feed_26 : decode cX8_feed 26 = .ok (.iload_n 2, 1) := by decide +kernel
theorem dX8_feed_27 : decode cX8_feed 27 = .ok (.invokevirtual 276, 3) := by decide +kernel
theorem dX8_feed_30 : decode cX8_feed 30 = .ok (.aload_n 0, 1) := by decide +kernel
theorem dX8_feed_31 : decode cX8_feed 31 = .ok (.iload_n 3, 1) := by decide +kernel
theorem dX8_feed_32 : decode cX8_feed 32 = .ok (.invokevirtual 276, 3) := by decide +kernel
theorem dX8_feed_35 : decode cX8_feed 35 = .ok (.aload_n 0, 1) := by decide +kernel
theorem dX8_feed_36 : decode cX8_feed 36 = .ok (.iload 4, 2) := by decide +kernel
theorem dX8_feed_38 : decode cX8_feed 38 = .ok (.invokevirtual 276, 3) := by decide +kernel
theorem dX8_feed_41 : decode cX8_feed 41 = .ok (.aload_n 0, 1) := by decide +kernel
theorem dX8_feed_42 : decode cX8_feed 42 = .ok (.iload 5, 2) := by decide +kernel
theorem dX8_feed_44 : decode cX8_feed 44 = .ok (.invokevirtual 276, 3) := by decide +kernel
theorem dX8_feed_47 : decode cX8_feed 47 = .ok (.aload_n 0, 1) := by decide +kernel
theorem dX8_feed_48 : decode cX8_feed 48 = .ok (.getfield 273, 3) := by decide +kernel
theorem dX8_feed_51 : decode cX8_feed 51 = .ok (.ireturn, 1) := by decide +kernel
theorem dX8_see_0 : decode cX8_see 0 = .ok (.aload_n 0, 1) := by decide +kernel
theorem dX8_see_1 : decode cX8_see 1 = .ok (.getfield 279, 3) := by decide +kernel
theorem dX8_see_4 : decode cX8_see 4 = .ok (.aload_n 0, 1) := by decide +kernel
theorem dX8_see_5 : decode cX8_see 5 = .ok (.getfield 282, 3) := by decide +kernel
theorem dX8_see_8 : decode cX8_see 8 = .ok (.if_icmp .ge 19, 3) := by decide +kernel
theorem dX8_see_11 : decode cX8_see 11 = .ok (.aload_n 0, 1) := by decide +kernel
theorem dX8_see_12 : decode cX8_see 12 = .ok (.getfield 72, 3) := by decide +kernel
theorem dX8_see_15 : decode cX8_see 15 = .ok (.aload_n 0, 1) := by decide +kernel
theorem dX8_see_16 : decode cX8_see 16 = .ok (.getfield 279, 3) := by decide +kernel
theorem dX8_see_19 : decode cX8_see 19 = .ok (.baload, 1) := by decide +kernel
theorem dX8_see_20 : decode cX8_see 20 = .ok (.sipush 255, 3) := by decide +kernel
theorem dX8_see_23 : decode cX8_see 23 = .ok (.iand, 1) := by decide +kernel
theorem dX8_see_24 : decode cX8_see 24 = .ok (.goto 4, 3) := by decide +kernel
theorem dX8_see_27 : decode cX8_see 27 = .ok (.iconst (-1), 1) := by decide +kernel
theorem dX8_see_28 : decode cX8_see 28 = .ok (.ireturn, 1) := by decide +kernel
theorem dX8_advance_0 : decode cX8_advance 0 = .ok (.aload_n 0, 1) := by decide +kernel
theorem dX8_advance_1 : decode cX8_advance 1 = .ok (.invokevirtual 285, 3) := by decide +kernel
theorem dX8_advance_4 : decode cX8_advance 4 = .ok (.bipush 32, 2) := by decide +kernel
theorem dX8_advance_6 : decode cX8_advance 6 = .ok (.if_icmp .eq 12, 3) := by decide +kernel
theorem dX8_advance_9 : decode cX8_advance 9 = .ok (.aload_n 0, 1) := by decide +kernel
theorem dX8_advance_10 : decode cX8_advance 10 = .ok (.invokevirtual 285, 3) := by decide +kernel
theorem dX8_advance_13 : decode cX8_advance 13 = .ok (.bipush 10, 2) := by decide +kernel
theorem dX8_advance_15 : decode cX8_advance 15 = .ok (.if_icmp .ne 16, 3) := by decide +kernel
theorem dX8_advance_18 : decode cX8_advance 18 = .ok (.aload_n 0, 1) := by decide +kernel
theorem dX8_advance_19 : decode cX8_advance 19 = .ok (.dup, 1) := by decide +kernel
theorem dX8_advance_20 : decode cX8_advance 20 = .ok (.getfield 279, 3) := by decide +kernel
theorem dX8_advance_23 : decode cX8_advance 23 = .ok (.iconst 1, 1) := by decide +kernel
theorem dX8_advance_24 : decode cX8_advance 24 = .ok (.iadd, 1) := by decide +kernel
theorem dX8_advance_25 : decode cX8_advance 25 = .ok (.putfield 279, 3) := by decide +kernel
theorem dX8_advance_28 : decode cX8_advance 28 = .ok (.goto (-28), 3) := by decide +kernel
theorem dX8_advance_31 : decode cX8_advance 31 = .ok (.aload_n 0, 1) := by decide +kernel
theorem dX8_advance_32 : decode cX8_advance 32 = .ok (.aload_n 0, 1) := by decide +kernel
theorem dX8_advance_33 : decode cX8_advance 33 = .ok (.getfield 279, 3) := by decide +kernel
theorem dX8_advance_36 : decode cX8_advance 36 = .ok (.putfield 288, 3) := by decide +kernel
theorem dX8_advance_39 : decode cX8_advance 39 = .ok (.aload_n 0, 1) := by decide +kernel
theorem dX8_advance_40 : decode cX8_advance 40 = .ok (.invokevirtual 285, 3) := by decide +kernel
theorem dX8_advance_43 : decode cX8_advance 43 = .ok (.istore_n 1, 1) := by decide +kernel
theorem dX8_advance_44 : decode cX8_advance 44 = .ok (.aload_n 0, 1) := by decide +kernel
theorem dX8_advance_45 : decode cX8_advance 45 = .ok (.iconst 0, 1) := by decide +kernel
theorem dX8_advance_46 : decode cX8_advance 46 = .ok (.putfield 291, 3) := by decide +kernel
theorem dX8_advance_49 : decode cX8_advance 49 = .ok (.iload_n 1, 1) := by decide +kernel
theorem dX8_advance_50 : decode cX8_advance 50 = .ok (.iconst (-1), 1) := by decide +kernel
theorem dX8_advance_51 : decode cX8_advance 51 = .ok (.if_icmp .ne 11, 3) := by decide +kernel
theorem dX8_advance_54 : decode cX8_advance 54 = .ok (.aload_n 0, 1) := by decide +kernel
theorem dX8_advance_55 : decode cX8_advance 55 = .ok (.iconst 0, 1) := by decide +kernel
theorem dX8_advance_56 : decode cX8_advance 56 = .ok (.putfield 294, 3) := by decide +kernel
theorem dX8_advance_59 : decode cX8_advance 59 = .ok (.goto 197, 3) := by decide +kernel
theorem dX8_advance_62 : decode cX8_advance 62 = .ok (.iload_n 1, 1) := by decide +kernel
theorem dX8_advance_63 : decode cX8_advance 63 = .ok (.bipush 97, 2) := by decide +kernel
theorem dX8_advance_65 : decode cX8_advance 65 = .ok (.bipush 122, 2) := by decide +kernel
theorem dX8_advance_67 : decode cX8_advance 67 = .ok (.invokestatic 189, 3) := by decide +kernel
theorem dX8_advance_70 : decode cX8_advance 70 = .ok (.ifCond .eq 71, 3) := by decide +kernel
theorem dX8_advance_73 : decode cX8_advance 73 = .ok (.aload_n 0, 1) := by decide +kernel
theorem dX8_advance_74 : decode cX8_advance 74 = .ok (.iconst 1, 1) := by decide +kernel
theorem dX8_advance_75 : decode cX8_advance 75 = .ok (.putfield 294, 3) := by decide +kernel
theorem dX8_advance_78 : decode cX8_advance 78 = .ok (.aload_n 0, 1) := by decide +kernel
theorem dX8_advance_79 : decode cX8_advance 79 = .ok (.invokevirtual 285, 3) := by decide +kernel
theorem dX8_advance_82 : decode cX8_advance 82 = .ok (.bipush 97, 2) := by decide +kernel
theorem dX8_advance_84 : decode cX8_advance 84 = .ok (.bipush 122, 2) := by decide +kernel
theorem dX8_advance_86 : decode cX8_advance 86 = .ok (.invokestatic 189, 3) := by decide +kernel
theorem dX8_advance_89 : decode cX8_advance 89 = .ok (.ifCond .eq 167, 3) := by decide +kernel
theorem dX8_advance_92 : decode cX8_advance 92 = .ok (.aload_n 0, 1) := by decide +kernel
theorem dX8_advance_93 : decode cX8_advance 93 = .ok (.aload_n 0, 1) := by decide +kernel
theorem dX8_advance_94 : decode cX8_advance 94 = .ok (.getfield 279, 3) := by decide +kernel
theorem dX8_advance_97 : decode cX8_advance 97 = .ok (.aload_n 0, 1) := by decide +kernel
theorem dX8_advance_98 : decode cX8_advance 98 = .ok (.getfield 288, 3) := by decide +kernel
theorem dX8_advance_101 : decode cX8_advance 101 = .ok (.isub, 1) := by decide +kernel
theorem dX8_advance_102 : decode cX8_advance 102 = .ok (.bipush 6, 2) := by decide +kernel
theorem dX8_advance_104 : decode cX8_advance 104 = .ok (.if_icmp .ge 20, 3) := by decide +kernel
theorem dX8_advance_107 : decode cX8_advance 107 = .ok (.aload_n 0, 1) := by decide +kernel
theorem dX8_advance_108 : decode cX8_advance 108 = .ok (.getfield 291, 3) := by decide +kernel
theorem dX8_advance_111 : decode cX8_advance 111 = .ok (.iconst 5, 1) := by decide +kernel
theorem dX8_advance_112 : decode cX8_advance 112 = .ok (.ishl, 1) := by decide +kernel
theorem dX8_advance_113 : decode cX8_advance 113 = .ok (.aload_n 0, 1) := by decide +kernel
theorem dX8_advance_114 : decode cX8_advance 114 = .ok (.invokevirtual 285, 3) := by decide +kernel
theorem dX8_advance_117 : decode cX8_advance 117 = .ok (.bipush 96, 2) := by decide +kernel
theorem dX8_advance_119 : decode cX8_advance 119 = .ok (.isub, 1) := by decide +kernel
theorem dX8_advance_120 : decode cX8_advance 120 = .ok (.ior, 1) := by decide +kernel
theorem dX8_advance_121 : decode cX8_advance 121 = .ok (.goto 4, 3) := by decide +kernel
theorem dX8_advance_124 : decode cX8_advance 124 = .ok (.iconst 0, 1) := by decide +kernel
theorem dX8_advance_125 : decode cX8_advance 125 = .ok (.putfield 291, 3) := by decide +kernel
theorem dX8_advance_128 : decode cX8_advance 128 = .ok (.aload_n 0, 1) := by decide +kernel
theorem dX8_advance_129 : decode cX8_advance 129 = .ok (.dup, 1) := by decide +kernel
theorem dX8_advance_130 : decode cX8_advance 130 = .ok (.getfield 279, 3) := by decide +kernel
theorem dX8_advance_133 : decode cX8_advance 133 = .ok (.iconst 1, 1) := by decide +kernel
theorem dX8_advance_134 : decode cX8_advance 134 = .ok (.iadd, 1) := by decide +kernel
theorem dX8_advance_135 : decode cX8_advance 135 = .ok (.putfield 279, 3) := by decide +kernel
theorem dX8_advance_138 : decode cX8_advance 138 = .ok (.goto (-60), 3) := by decide +kernel
theorem dX8_advance_141 : decode cX8_advance 141 = .ok (.iload_n 1, 1) := by decide +kernel
theorem dX8_advance_142 : decode cX8_advance 142 = .ok (.bipush 48, 2) := by decide +kernel
theorem dX8_advance_144 : decode cX8_advance 144 = .ok (.bipush 57, 2) := by decide +kernel
theorem dX8_advance_146 : decode cX8_advance 146 = .ok (.invokestatic 189, 3) := by decide +kernel
theorem dX8_advance_149 : decode cX8_advance 149 = .ok (.ifCond .eq 71, 3) := by decide +kernel
theorem dX8_advance_152 : decode cX8_advance 152 = .ok (.aload_n 0, 1) := by decide +kernel
theorem dX8_advance_153 : decode cX8_advance 153 = .ok (.iconst 2, 1) := by decide +kernel
theorem dX8_advance_154 : decode cX8_advance 154 = .ok (.putfield 294, 3) := by decide +kernel
theorem dX8_advance_157 : decode cX8_advance 157 = .ok (.aload_n 0, 1) := by decide +kernel
theorem dX8_advance_158 : decode cX8_advance 158 = .ok (.invokevirtual 285, 3) := by decide +kernel
theorem dX8_advance_161 : decode cX8_advance 161 = .ok (.bipush 48, 2) := by decide +kernel
theorem dX8_advance_163 : decode cX8_advance 163 = .ok (.bipush 57, 2) := by decide +kernel
theorem dX8_advance_165 : decode cX8_advance 165 = .ok (.invokestatic 189, 3) := by decide +kernel
theorem dX8_advance_168 : decode cX8_advance 168 = .ok (.ifCond .eq 88, 3) := by decide +kernel
theorem dX8_advance_171 : decode cX8_advance 171 = .ok (.aload_n 0, 1) := by decide +kernel
theorem dX8_advance_172 : decode cX8_advance 172 = .ok (.aload_n 0, 1) := by decide +kernel
theorem dX8_advance_173 : decode cX8_advance 173 = .ok (.getfield 291, 3) := by decide +kernel
theorem dX8_advance_176 : decode cX8_advance 176 = .ok (.sipush 1000, 3) := by decide +kernel
theorem dX8_advance_179 : decode cX8_advance 179 = .ok (.if_icmp .le 10, 3) := by decide +kernel
theorem dX8_advance_182 : decode cX8_advance 182 = .ok (.aload_n 0, 1) := by decide +kernel
theorem dX8_advance_183 : decode cX8_advance 183 = .ok (.getfield 291, 3) := by decide +kernel
theorem dX8_advance_186 : decode cX8_advance 186 = .ok (.goto 18, 3) := by decide +kernel
theorem dX8_advance_189 : decode cX8_advance 189 = .ok (.bipush 10, 2) := by decide +kernel
theorem dX8_advance_191 : decode cX8_advance 191 = .ok (.aload_n 0, 1) := by decide +kernel
theorem dX8_advance_192 : decode cX8_advance 192 = .ok (.getfield 291, 3) := by decide +kernel
theorem dX8_advance_195 : decode cX8_advance 195 = .ok (.imul, 1) := by decide +kernel
theorem dX8_advance_196 : decode cX8_advance 196 = .ok (.aload_n 0, 1) := by decide +kernel
theorem dX8_advance_197 : decode cX8_advance 197 = .ok (.invokevirtual 285, 3) := by decide +kernel
theorem dX8_advance_200 : decode cX8_advance 200 = .ok (.iadd, 1) := by decide +kernel
theorem dX8_advance_201 : decode cX8_advance 201 = .ok (.bipush 48, 2) := by decide +kernel
theorem dX8_advance_203 : decode cX8_advance 203 = .ok (.isub, 1) := by decide +kernel
theorem dX8_advance_204 : decode cX8_advance 204 = .ok (.putfield 291, 3) := by decide +kernel
theorem dX8_advance_207 : decode cX8_advance 207 = .ok (.aload_n 0, 1) := by decide +kernel
theorem dX8_advance_208 : decode cX8_advance 208 = .ok (.dup, 1) := by decide +kernel
theorem dX8_advance_209 : decode cX8_advance 209 = .ok (.getfield 279, 3) := by decide +kernel
theorem dX8_advance_212 : decode cX8_advance 212 = .ok (.iconst 1, 1) := by decide +kernel
theorem dX8_advance_213 : decode cX8_advance 213 = .ok (.iadd, 1) := by decide +kernel
theorem dX8_advance_214 : decode cX8_advance 214 = .ok (.putfield 279, 3) := by decide +kernel
theorem dX8_advance_217 : decode cX8_advance 217 = .ok (.goto (-60), 3) := by decide +kernel
theorem dX8_advance_220 : decode cX8_advance 220 = .ok (.aload_n 0, 1) := by decide +kernel
theorem dX8_advance_221 : decode cX8_advance 221 = .ok (.iload_n 1, 1) := by decide +kernel
theorem dX8_advance_222 : decode cX8_advance 222 = .ok (.bipush 59, 2) := by decide +kernel
theorem dX8_advance_224 : decode cX8_advance 224 = .ok (.if_icmp .eq 9, 3) := by decide +kernel
theorem dX8_advance_227 : decode cX8_advance 227 = .ok (.iload_n 1, 1) := by decide +kernel
theorem dX8_advance_228 : decode cX8_advance 228 = .ok (.bipush 45, 2) := by decide +kernel
theorem dX8_advance_230 : decode cX8_advance 230 = .ok (.if_icmp .ne 7, 3) := by decide +kernel
theorem dX8_advance_233 : decode cX8_advance 233 = .ok (.iconst 3, 1) := by decide +kernel
theorem dX8_advance_234 : decode cX8_advance 234 = .ok (.goto 4, 3) := by decide +kernel
theorem dX8_advance_237 : decode cX8_advance 237 = .ok (.iconst 4, 1) := by decide +kernel
theorem dX8_advance_238 : decode cX8_advance 238 = .ok (.putfield 294, 3) := by decide +kernel
theorem dX8_advance_241 : decode cX8_advance 241 = .ok (.aload_n 0, 1) := by decide +kernel
theorem dX8_advance_242 : decode cX8_advance 242 = .ok (.iload_n 1, 1) := by decide +kernel
theorem dX8_advance_243 : decode cX8_advance 243 = .ok (.putfield 291, 3) := by decide +kernel
theorem dX8_advance_246 : decode cX8_advance 246 = .ok (.aload_n 0, 1) := by decide +kernel
theorem dX8_advance_247 : decode cX8_advance 247 = .ok (.dup, 1) := by decide +kernel
theorem dX8_advance_248 : decode cX8_advance 248 = .ok (.getfield 279, 3) := by decide +kernel
theorem dX8_advance_251 : decode cX8_advance 251 = .ok (.iconst 1, 1) := by decide +kernel
theorem dX8_advance_252 : decode cX8_advance 252 = .ok (.iadd, 1) := by decide +kernel
theorem dX8_advance_253 : decode cX8_advance 253 = .ok (.putfield 279, 3) := by decide +kernel
theorem dX8_advance_256 : decode cX8_advance 256 = .ok (.return_, 1) := by decide +kernel
theorem dX8_must_0 : decode cX8_must 0 = .ok (.aload_n 0, 1) := by decide +kernel
theorem dX8_must_1 : decode cX8_must 1 = .ok (.getfield 297, 3) := by decide +kernel
theorem dX8_must_4 : decode cX8_must 4 = .ok (.ifCond .ne 7, 3) := by decide +kernel
theorem dX8_must_7 : decode cX8_must 7 = .ok (.iload_n 1, 1) := by decide +kernel
theorem dX8_must_8 : decode cX8_must 8 = .ok (.ifCond .eq 4, 3) := by decide +kernel
theorem dX8_must_11 : decode cX8_must 11 = .ok (.return_, 1) := by decide +kernel
theorem dX8_must_12 : decode cX8_must 12 = .ok (.aload_n 0, 1) := by decide +kernel
theorem dX8_must_13 : decode cX8_must 13 = .ok (.iconst 1, 1) := by decide +kernel
theorem dX8_must_14 : decode cX8_must 14 = .ok (.putfield 297, 3) := by decide +kernel
theorem dX8_must_17 : decode cX8_must 17 = .ok (.aload_n 0, 1) := by decide +kernel
theorem dX8_must_18 : decode cX8_must 18 = .ok (.iload_n 2, 1) := by decide +kernel
theorem dX8_must_19 : decode cX8_must 19 = .ok (.putfield 300, 3) := by decide +kernel
theorem dX8_must_22 : decode cX8_must 22 = .ok (.aload_n 0, 1) := by decide +kernel
theorem dX8_must_23 : decode cX8_must 23 = .ok (.aload_n 0, 1) := by decide +kernel
theorem dX8_must_24 : decode cX8_must 24 = .ok (.getfield 288, 3) := by decide +kernel
theorem dX8_must_27 : decode cX8_must 27 = .ok (.putfield 76, 3) := by decide +kernel
theorem dX8_must_30 : decode cX8_must 30 = .ok (.return_, 1) := by decide +kernel
theorem dX8_isMark_0 : decode cX8_isMark 0 = .ok (.aload_n 0, 1) := by decide +kernel
theorem dX8_isMark_1 : decode cX8_isMark 1 = .ok (.getfield 294, 3) := by decide +kernel
theorem dX8_isMark_4 : decode cX8_isMark 4 = .ok (.iconst 3, 1) := by decide +kernel
theorem dX8_isMark_5 : decode cX8_isMark 5 = .ok (.if_icmp .ne 15, 3) := by decide +kernel
theorem dX8_isMark_8 : decode cX8_isMark 8 = .ok (.aload_n 0, 1) := by decide +kernel
theorem dX8_isMark_9 : decode cX8_isMark 9 = .ok (.getfield 291, 3) := by decide +kernel
theorem dX8_isMark_12 : decode cX8_isMark 12 = .ok (.iload_n 1, 1) := by decide +kernel
theorem dX8_isMark_13 : decode cX8_isMark 13 = .ok (.if_icmp .ne 7, 3) := by decide +kernel
theorem dX8_isMark_16 : decode cX8_isMark 16 = .ok (.iconst 1, 1) := by decide +kernel
theorem dX8_isMark_17 : decode cX8_isMark 17 = .ok (.goto 4, 3) := by decide +kernel
theorem dX8_isMark_20 : decode cX8_isMark 20 = .ok (.iconst 0, 1) := by decide +kernel
theorem dX8_isMark_21 : decode cX8_isMark 21 = .ok (.ireturn, 1) := by decide +kernel
theorem dX8_numberHere_0 : decode cX8_numberHere 0 = .ok (.aload_n 0, 1) := by decide +kernel
theorem dX8_numberHere_1 : decode cX8_numberHere 1 = .ok (.aload_n 0, 1) := by decide +kernel
theorem dX8_numberHere_2 : decode cX8_numberHere 2 = .ok (.getfield 294, 3) := by decide +kernel
theorem dX8_numberHere_5 : decode cX8_numberHere 5 = .ok (.iconst 2, 1) := by decide +kernel
theorem dX8_numberHere_6 : decode cX8_numberHere 6 = .ok (.if_icmp .ne 7, 3) := by decide +kernel
theorem dX8_numberHere_9 : decode cX8_numberHere 9 = .ok (.iconst 1, 1) := by decide +kernel
theorem dX8_numberHere_10 : decode cX8_numberHere 10 = .ok (.goto 4, 3) := by decide +kernel
theorem dX8_numberHere_13 : decode cX8_numberHere 13 = .ok (.iconst 0, 1) := by decide +kernel
theorem dX8_numberHere_14 : decode cX8_numberHere 14 = .ok (.iconst 1, 1) := by decide +kernel
theorem dX8_numberHere_15 : decode cX8_numberHere 15 = .ok (.invokevirtual 303, 3) := by decide +kernel
theorem dX8_numberHere_18 : decode cX8_numberHere 18 = .ok (.aload_n 0, 1) := by decide +kernel
theorem dX8_numberHere_19 : decode cX8_numberHere 19 = .ok (.aload_n 0, 1) := by decide +kernel
theorem dX8_numberHere_20 : decode cX8_numberHere 20 = .ok (.getfield 291, 3) := by decide +kernel
theorem dX8_numberHere_23 : decode cX8_numberHere 23 = .ok (.iload_n 1, 1) := by decide +kernel
theorem dX8_numberHere_24 : decode cX8_numberHere 24 = .ok (.iload_n 2, 1) := by decide +kernel
theorem dX8_numberHere_25 : decode cX8_numberHere 25 = .ok (.invokestatic 189, 3) := by decide +kernel
theorem dX8_numberHere_28 : decode cX8_numberHere 28 = .ok (.iconst 2, 1) := by decide +kernel
theorem dX8_numberHere_29 : decode cX8_numberHere 29 = .ok (.invokevirtual 303, 3) := by decide +kernel
theorem dX8_numberHere_32 : decode cX8_numberHere 32 = .ok (.aload_n 0, 1) := by decide +kernel
theorem dX8_numberHere_33 : decode cX8_numberHere 33 = .ok (.getfield 291, 3) := by decide +kernel
theorem dX8_numberHere_36 : decode cX8_numberHere 36 = .ok (.istore_n 3, 1) := by decide +kernel
theorem dX8_numberHere_37 : decode cX8_numberHere 37 = .ok (.aload_n 0, 1) := by decide +kernel
theorem dX8_numberHere_38 : decode cX8_numberHere 38 = .ok (.getfield 297, 3) := by decide +kernel
theorem dX8_numberHere_41 : decode cX8_numberHere 41 = .ok (.ifCond .ne 7, 3) := by decide +kernel
theorem dX8_numberHere_44 : decode cX8_numberHere 44 = .ok (.aload_n 0, 1) := by decide +kernel
theorem dX8_numberHere_45 : decode cX8_numberHere 45 = .ok (.invokevirtual 307, 3) := by decide +kernel
theorem dX8_numberHere_48 : decode cX8_numberHere 48 = .ok (.iload_n 3, 1) := by decide +kernel
theorem dX8_numberHere_49 : decode cX8_numberHere 49 = .ok (.ireturn, 1) := by decide +kernel
theorem dX8_kindOf_0 : decode cX8_kindOf 0 = .ok (.iload_n 0, 1) := by decide +kernel
theorem dX8_kindOf_1 : decode cX8_kindOf 1 = .ok (.iconst 4, 1) := by decide +kernel
theorem dX8_kindOf_2 : decode cX8_kindOf 2 = .ok (.if_icmp .ne 7, 3) := by decide +kernel
theorem dX8_kindOf_5 : decode cX8_kindOf 5 = .ok (.iconst 0, 1) := by decide +kernel
theorem dX8_kindOf_6 : decode cX8_kindOf 6 = .ok (.goto 34, 3) := by decide +kernel
theorem dX8_kindOf_9 : decode cX8_kindOf 9 = .ok (.iload_n 0, 1) := by decide +kernel
theorem dX8_kindOf_10 : decode cX8_kindOf 10 = .ok (.bipush 8, 2) := by decide +kernel
theorem dX8_kindOf_12 : decode cX8_kindOf 12 = .ok (.if_icmp .ne 7, 3) := by decide +kernel
theorem dX8_kindOf_15 : decode cX8_kindOf 15 = .ok (.iconst 1, 1) := by decide +kernel
theorem dX8_kindOf_16 : decode cX8_kindOf 16 = .ok (.goto 24, 3) := by decide +kernel
theorem dX8_kindOf_19 : decode cX8_kindOf 19 = .ok (.iload_n 0, 1) := by decide +kernel
theorem dX8_kindOf_20 : decode cX8_kindOf 20 = .ok (.bipush 16, 2) := by decide +kernel
theorem dX8_kindOf_22 : decode cX8_kindOf 22 = .ok (.if_icmp .ne 7, 3) := by decide +kernel
theorem dX8_kindOf_25 : decode cX8_kindOf 25 = .ok (.iconst 2, 1) := by decide +kernel
theorem dX8_kindOf_26 : decode cX8_kindOf 26 = .ok (.goto 14, 3) := by decide +kernel
theorem dX8_kindOf_29 : decode cX8_kindOf 29 = .ok (.iload_n 0, 1) := by decide +kernel
theorem dX8_kindOf_30 : decode cX8_kindOf 30 = .ok (.bipush 32, 2) := by decide +kernel
theorem dX8_kindOf_32 : decode cX8_kindOf 32 = .ok (.if_icmp .ne 7, 3) := by decide +kernel
theorem dX8_kindOf_35 : decode cX8_kindOf 35 = .ok (.iconst 3, 1) := by decide +kernel
theorem dX8_kindOf_36 : decode cX8_kindOf 36 = .ok (.goto 4, 3) := by decide +kernel
theorem dX8_kindOf_39 : decode cX8_kindOf 39 = .ok (.iconst (-1), 1) := by decide +kernel
theorem dX8_kindOf_40 : decode cX8_kindOf 40 = .ok (.ireturn, 1) := by decide +kernel
theorem dX8_metreHere_0 : decode cX8_metreHere 0 = .ok (.aload_n 0, 1) := by decide +kernel
theorem dX8_metreHere_1 : decode cX8_metreHere 1 = .ok (.aload_n 0, 1) := by decide +kernel
theorem dX8_metreHere_2 : decode cX8_metreHere 2 = .ok (.getfield 310, 3) := by decide +kernel
theorem dX8_metreHere_5 : decode cX8_metreHere 5 = .ok (.ifCond .ne 14, 3) := by decide +kernel
theorem dX8_metreHere_8 : decode cX8_metreHere 8 = .ok (.aload_n 0, 1) := by decide +kernel
theorem dX8_metreHere_9 : decode cX8_metreHere 9 = .ok (.getfield 313, 3) := by decide +kernel
theorem dX8_metreHere_12 : decode cX8_metreHere 12 = .ok (.ifCond .ne 7, 3) := by decide +kernel
theorem dX8_metreHere_15 : decode cX8_metreHere 15 = .ok (.iconst 1, 1) := by decide +kernel
theorem dX8_metreHere_16 : decode cX8_metreHere 16 = .ok (.goto 4, 3) := by decide +kernel
theorem dX8_metreHere_19 : decode cX8_metreHere 19 = .ok (.iconst 0, 1) := by decide +kernel
theorem dX8_metreHere_20 : decode cX8_metreHere 20 = .ok (.iconst 1, 1) := by decide +kernel
theorem dX8_metreHere_21 : decode cX8_metreHere 21 = .ok (.invokevirtual 303, 3) := by decide +kernel
theorem dX8_metreHere_24 : decode cX8_metreHere 24 = .ok (.aload_n 0, 1) := by decide +kernel
theorem dX8_metreHere_25 : decode cX8_metreHere 25 = .ok (.aload_n 0, 1) := by decide +kernel
theorem dX8_metreHere_26 : decode cX8_metreHere 26 = .ok (.getfield 316, 3) := by decide +kernel
theorem dX8_metreHere_29 : decode cX8_metreHere 29 = .ok (.ifCond .ne 7, 3) := by decide +kernel
theorem dX8_metreHere_32 : decode cX8_metreHere 32 = .ok (.iconst 1, 1) := by decide +kernel
theorem dX8_metreHere_33 : decode cX8_metreHere 33 = .ok (.goto 4, 3) := by decide +kernel
theorem dX8_metreHere_36 : decode cX8_metreHere 36 = .ok (.iconst 0, 1) := by decide +kernel
theorem dX8_metreHere_37 : decode cX8_metreHere 37 = .ok (.iconst 3, 1) := by decide +kernel
theorem dX8_metreHere_38 : decode cX8_metreHere 38 = .ok (.invokevirtual 303, 3) := by decide +kernel
theorem dX8_metreHere_41 : decode cX8_metreHere 41 = .ok (.aload_n 0, 1) := by decide +kernel
theorem dX8_metreHere_42 : decode cX8_metreHere 42 = .ok (.getfield 297, 3) := by decide +kernel
theorem dX8_metreHere_45 : decode cX8_metreHere 45 = .ok (.ifCond .ne 7, 3) := by decide +kernel
theorem dX8_metreHere_48 : decode cX8_metreHere 48 = .ok (.aload_n 0, 1) := by decide +kernel
theorem dX8_metreHere_49 : decode cX8_metreHere 49 = .ok (.invokevirtual 307, 3) := by decide +kernel
theorem dX8_metreHere_52 : decode cX8_metreHere 52 = .ok (.aload_n 0, 1) := by decide +kernel
theorem dX8_metreHere_53 : decode cX8_metreHere 53 = .ok (.aload_n 0, 1) := by decide +kernel
theorem dX8_metreHere_54 : decode cX8_metreHere 54 = .ok (.iconst 1, 1) := by decide +kernel
theorem dX8_metreHere_55 : decode cX8_metreHere 55 = .ok (.bipush 12, 2) := by decide +kernel
theorem dX8_metreHere_57 : decode cX8_metreHere 57 = .ok (.invokevirtual 319, 3) := by decide +kernel
theorem dX8_metreHere_60 : decode cX8_metreHere 60 = .ok (.putfield 322, 3) := by decide +kernel
theorem dX8_metreHere_63 : decode cX8_metreHere 63 = .ok (.aload_n 0, 1) := by decide +kernel
theorem dX8_metreHere_64 : decode cX8_metreHere 64 = .ok (.aload_n 0, 1) := by decide +kernel
theorem dX8_metreHere_65 : decode cX8_metreHere 65 = .ok (.getfield 294, 3) := by decide +kernel
theorem dX8_metreHere_68 : decode cX8_metreHere 68 = .ok (.iconst 2, 1) := by decide +kernel
theorem dX8_metreHere_69 : decode cX8_metreHere 69 = .ok (.if_icmp .ne 7, 3) := by decide +kernel
theorem dX8_metreHere_72 : decode cX8_metreHere 72 = .ok (.iconst 1, 1) := by decide +kernel
theorem dX8_metreHere_73 : decode cX8_metreHere 73 = .ok (.goto 4, 3) := by decide +kernel
theorem dX8_metreHere_76 : decode cX8_metreHere 76 = .ok (.iconst 0, 1) := by decide +kernel
theorem dX8_metreHere_77 : decode cX8_metreHere 77 = .ok (.iconst 1, 1) := by decide +kernel
theorem dX8_metreHere_78 : decode cX8_metreHere 78 = .ok (.invokevirtual 303, 3) := by decide +kernel
theorem dX8_metreHere_81 : decode cX8_metreHere 81 = .ok (.aload_n 0, 1) := by decide +kernel
theorem dX8_metreHere_82 : decode cX8_metreHere 82 = .ok (.aload_n 0, 1) := by decide +kernel
theorem dX8_metreHere_83 : decode cX8_metreHere 83 = .ok (.getfield 291, 3) := by decide +kernel
theorem dX8_metreHere_86 : decode cX8_metreHere 86 = .ok (.iconst 2, 1) := by decide +kernel
theorem dX8_metreHere_87 : decode cX8_metreHere 87 = .ok (.if_icmp .eq 20, 3) := by decide +kernel
theorem dX8_metreHere_90 : decode cX8_metreHere 90 = .ok (.aload_n 0, 1) := by decide +kernel
theorem dX8_metreHere_91 : decode cX8_metreHere 91 = .ok (.getfield 291, 3) := by decide +kernel
theorem dX8_metreHere_94 : decode cX8_metreHere 94 = .ok (.iconst 4, 1) := by decide +kernel
theorem dX8_metreHere_95 : decode cX8_metreHere 95 = .ok (.if_icmp .eq 12, 3) := by decide +kernel
theorem dX8_metreHere_98 : decode cX8_metreHere 98 = .ok (.aload_n 0, 1) := by decide +kernel
theorem dX8_metreHere_99 : decode cX8_metreHere 99 = .ok (.getfield 291, 3) := by decide +kernel
theorem dX8_metreHere_102 : decode cX8_metreHere 102 = .ok (.bipush 8, 2) := by decide +kernel
theorem dX8_metreHere_104 : decode cX8_metreHere 104 = .ok (.if_icmp .ne 7, 3) := by decide +kernel
theorem dX8_metreHere_107 : decode cX8_metreHere 107 = .ok (.iconst 1, 1) := by decide +kernel
theorem dX8_metreHere_108 : decode cX8_metreHere 108 = .ok (.goto 4, 3) := by decide +kernel
theorem dX8_metreHere_111 : decode cX8_metreHere 111 = .ok (.iconst 0, 1) := by decide +kernel
theorem dX8_metreHere_112 : decode cX8_metreHere 112 = .ok (.iconst 2, 1) := by decide +kernel
theorem dX8_metreHere_113 : decode cX8_metreHere 113 = .ok (.invokevirtual 303, 3) := by decide +kernel
