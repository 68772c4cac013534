theorem dL_isBest_25 : decode cL_isBest 25 = .ok (.iconst 1, 1) := by decide +kernel
theorem dL_isBest_26 : decode cL_isBest 26 = .ok (.isub, 1) := by decide +kernel
theorem dL_isBest_27 : decode cL_isBest 27 = .ok (.iaload, 1) := by decide +kernel
theorem dL_isBest_28 : decode cL_isBest 28 = .ok (.aload_n 1, 1) := by decide +kernel
theorem dL_isBest_29 : decode cL_isBest 29 = .ok (.aload_n 1, 1) := by decide +kernel
theorem dL_isBest_30 : decode cL_isBest 30 = .ok (.iload 5, 2) := by decide +kernel
theorem dL_isBest_32 : decode cL_isBest 32 = .ok (.iconst 1, 1) := by decide +kernel
theorem dL_isBest_33 : decode cL_isBest 33 = .ok (.isub, 1) := by decide +kernel
theorem dL_isBest_34 : decode cL_isBest 34 = .ok (.invokestatic 47, 3) := by decide +kernel
theorem dL_isBest_37 : decode cL_isBest 37 = .ok (.invokestatic 69, 3) := by decide +kernel
theorem dL_isBest_40 : decode cL_isBest 40 = .ok (.iadd, 1) := by decide +kernel
theorem dL_isBest_41 : decode cL_isBest 41 = .ok (.iastore, 1) := by decide +kernel
theorem dL_isBest_42 : decode cL_isBest 42 = .ok (.iinc 5 1, 3) := by decide +kernel
theorem dL_isBest_45 : decode cL_isBest 45 = .ok (.goto (-34), 3) := by decide +kernel
theorem dL_isBest_48 : decode cL_isBest 48 = .ok (.aload_n 1, 1) := by decide +kernel
theorem dL_isBest_49 : decode cL_isBest 49 = .ok (.aload_n 2, 1) := by decide +kernel
theorem dL_isBest_50 : decode cL_isBest 50 = .ok (.invokestatic 117, 3) := by decide +kernel
theorem dL_isBest_53 : decode cL_isBest 53 = .ok (.astore 5, 2) := by decide +kernel
theorem dL_isBest_55 : decode cL_isBest 55 = .ok (.iconst 0, 1) := by decide +kernel
theorem dL_isBest_56 : decode cL_isBest 56 = .ok (.istore 6, 2) := by decide +kernel
theorem dL_isBest_58 : decode cL_isBest 58 = .ok (.iconst 0, 1) := by decide +kernel
theorem dL_isBest_59 : decode cL_isBest 59 = .ok (.istore 7, 2) := by decide +kernel
theorem dL_isBest_61 : decode cL_isBest 61 = .ok (.iconst 0, 1) := by decide +kernel
theorem dL_isBest_62 : decode cL_isBest 62 = .ok (.istore 8, 2) := by decide +kernel
theorem dL_isBest_64 : decode cL_isBest 64 = .ok (.aconst_null, 1) := by decide +kernel
theorem dL_isBest_65 : decode cL_isBest 65 = .ok (.astore 9, 2) := by decide +kernel
theorem dL_isBest_67 : decode cL_isBest 67 = .ok (.bipush (-60), 2) := by decide +kernel
theorem dL_isBest_69 : decode cL_isBest 69 = .ok (.istore 10, 2) := by decide +kernel
theorem dL_isBest_71 : decode cL_isBest 71 = .ok (.iload 10, 2) := by decide +kernel
theorem dL_isBest_73 : decode cL_isBest 73 = .ok (.bipush 60, 2) := by decide +kernel
theorem dL_isBest_75 : decode cL_isBest 75 = .ok (.if_icmp .gt 110, 3) := by decide +kernel
theorem dL_isBest_78 : decode cL_isBest 78 = .ok (.bipush (-60), 2) := by decide +kernel
theorem dL_isBest_80 : decode cL_isBest 80 = .ok (.iload 10, 2) := by decide +kernel
theorem dL_isBest_82 : decode cL_isBest 82 = .ok (.bipush 8, 2) := by decide +kernel
theorem dL_isBest_84 : decode cL_isBest 84 = .ok (.isub, 1) := by decide +kernel
theorem dL_isBest_85 : decode cL_isBest 85 = .ok (.invokestatic 94, 3) := by decide +kernel
theorem dL_isBest_88 : decode cL_isBest 88 = .ok (.istore 11, 2) := by decide +kernel
theorem dL_isBest_90 : decode cL_isBest 90 = .ok (.iload 11, 2) := by decide +kernel
theorem dL_isBest_92 : decode cL_isBest 92 = .ok (.bipush 60, 2) := by decide +kernel
theorem dL_isBest_94 : decode cL_isBest 94 = .ok (.iload 10, 2) := by decide +kernel
theorem dL_isBest_96 : decode cL_isBest 96 = .ok (.bipush 8, 2) := by decide +kernel
theorem dL_isBest_98 : decode cL_isBest 98 = .ok (.iadd, 1) := by decide +kernel
theorem dL_isBest_99 : decode cL_isBest 99 = .ok (.invokestatic 53, 3) := by decide +kernel
theorem dL_isBest_102 : decode cL_isBest 102 = .ok (.if_icmp .gt 77, 3) := by decide +kernel
theorem dL_isBest_105 : decode cL_isBest 105 = .ok (.aload_n 1, 1) := by decide +kernel
theorem dL_isBest_106 : decode cL_isBest 106 = .ok (.aload_n 2, 1) := by decide +kernel
theorem dL_isBest_107 : decode cL_isBest 107 = .ok (.aload 5, 2) := by decide +kernel
theorem dL_isBest_109 : decode cL_isBest 109 = .ok (.aload 4, 2) := by decide +kernel
theorem dL_isBest_111 : decode cL_isBest 111 = .ok (.iload 10, 2) := by decide +kernel
theorem dL_isBest_113 : decode cL_isBest 113 = .ok (.iload 11, 2) := by decide +kernel
theorem dL_isBest_115 : decode cL_isBest 115 = .ok (.invokestatic 121, 3) := by decide +kernel
theorem dL_isBest_118 : decode cL_isBest 118 = .ok (.astore 12, 2) := by decide +kernel
theorem dL_isBest_120 : decode cL_isBest 120 = .ok (.aload 12, 2) := by decide +kernel
theorem dL_isBest_122 : decode cL_isBest 122 = .ok (.ifnonnull 6, 3) := by decide +kernel
theorem dL_isBest_125 : decode cL_isBest 125 = .ok (.goto 48, 3) := by decide +kernel
theorem dL_isBest_128 : decode cL_isBest 128 = .ok (.iinc 8 1, 3) := by decide +kernel
theorem dL_isBest_131 : decode cL_isBest 131 = .ok (.aload 9, 2) := by decide +kernel
theorem dL_isBest_133 : decode cL_isBest 133 = .ok (.ifnull 28, 3) := by decide +kernel
theorem dL_isBest_136 : decode cL_isBest 136 = .ok (.aload 12, 2) := by decide +kernel
theorem dL_isBest_138 : decode cL_isBest 138 = .ok (.iload 10, 2) := by decide +kernel
theorem dL_isBest_140 : decode cL_isBest 140 = .ok (.iload 11, 2) := by decide +kernel
theorem dL_isBest_142 : decode cL_isBest 142 = .ok (.aload 9, 2) := by decide +kernel
theorem dL_isBest_144 : decode cL_isBest 144 = .ok (.iload 6, 2) := by decide +kernel
theorem dL_isBest_146 : decode cL_isBest 146 = .ok (.iload 7, 2) := by decide +kernel
theorem dL_isBest_148 : decode cL_isBest 148 = .ok (.aload 5, 2) := by decide +kernel
theorem dL_isBest_150 : decode cL_isBest 150 = .ok (.iconst 0, 1) := by decide +kernel
theorem dL_isBest_151 : decode cL_isBest 151 = .ok (.iaload, 1) := by decide +kernel
theorem dL_isBest_152 : decode cL_isBest 152 = .ok (.invokestatic 125, 3) := by decide +kernel
theorem dL_isBest_155 : decode cL_isBest 155 = .ok (.ifCond .ne 6, 3) := by decide +kernel
theorem dL_isBest_158 : decode cL_isBest 158 = .ok (.goto 15, 3) := by decide +kernel
theorem dL_isBest_161 : decode cL_isBest 161 = .ok (.aload 12, 2) := by decide +kernel
theorem dL_isBest_163 : decode cL_isBest 163 = .ok (.astore 9, 2) := by decide +kernel
theorem dL_isBest_165 : decode cL_isBest 165 = .ok (.iload 10, 2) := by decide +kernel
theorem dL_isBest_167 : decode cL_isBest 167 = .ok (.istore 6, 2) := by decide +kernel
theorem dL_isBest_169 : decode cL_isBest 169 = .ok (.iload 11, 2) := by decide +kernel
theorem dL_isBest_171 : decode cL_isBest 171 = .ok (.istore 7, 2) := by decide +kernel
theorem dL_isBest_173 : decode cL_isBest 173 = .ok (.iinc 11 1, 3) := by decide +kernel
theorem dL_isBest_176 : decode cL_isBest 176 = .ok (.goto (-86), 3) := by decide +kernel
theorem dL_isBest_179 : decode cL_isBest 179 = .ok (.iinc 10 1, 3) := by decide +kernel
theorem dL_isBest_182 : decode cL_isBest 182 = .ok (.goto (-111), 3) := by decide +kernel
theorem dL_isBest_185 : decode cL_isBest 185 = .ok (.iconst 0, 1) := by decide +kernel
theorem dL_isBest_186 : decode cL_isBest 186 = .ok (.istore 10, 2) := by decide +kernel
theorem dL_isBest_188 : decode cL_isBest 188 = .ok (.iload 10, 2) := by decide +kernel
theorem dL_isBest_190 : decode cL_isBest 190 = .ok (.iload_n 3, 1) := by decide +kernel
theorem dL_isBest_191 : decode cL_isBest 191 = .ok (.if_icmp .ge 38, 3) := by decide +kernel
theorem dL_isBest_194 : decode cL_isBest 194 = .ok (.aload_n 0, 1) := by decide +kernel
theorem dL_isBest_195 : decode cL_isBest 195 = .ok (.iload 10, 2) := by decide +kernel
theorem dL_isBest_197 : decode cL_isBest 197 = .ok (.invokevirtual 129, 3) := by decide +kernel
theorem dL_isBest_200 : decode cL_isBest 200 = .ok (.aload 5, 2) := by decide +kernel
theorem dL_isBest_202 : decode cL_isBest 202 = .ok (.iload 10, 2) := by decide +kernel
theorem dL_isBest_204 : decode cL_isBest 204 = .ok (.iaload, 1) := by decide +kernel
theorem dL_isBest_205 : decode cL_isBest 205 = .ok (.if_icmp .ne 16, 3) := by decide +kernel
theorem dL_isBest_208 : decode cL_isBest 208 = .ok (.aload_n 0, 1) := by decide +kernel
theorem dL_isBest_209 : decode cL_isBest 209 = .ok (.iload 10, 2) := by decide +kernel
theorem dL_isBest_211 : decode cL_isBest 211 = .ok (.invokevirtual 132, 3) := by decide +kernel
theorem dL_isBest_214 : decode cL_isBest 214 = .ok (.aload_n 2, 1) := by decide +kernel
theorem dL_isBest_215 : decode cL_isBest 215 = .ok (.iload 10, 2) := by decide +kernel
theorem dL_isBest_217 : decode cL_isBest 217 = .ok (.iaload, 1) := by decide +kernel
theorem dL_isBest_218 : decode cL_isBest 218 = .ok (.if_icmp .eq 5, 3) := by decide +kernel
theorem dL_isBest_221 : decode cL_isBest 221 = .ok (.iconst 0, 1) := by decide +kernel
theorem dL_isBest_222 : decode cL_isBest 222 = .ok (.ireturn, 1) := by decide +kernel
theorem dL_isBest_223 : decode cL_isBest 223 = .ok (.iinc 10 1, 3) := by decide +kernel
theorem dL_isBest_226 : decode cL_isBest 226 = .ok (.goto (-38), 3) := by decide +kernel
theorem dL_isBest_229 : decode cL_isBest 229 = .ok (.aload_n 0, 1) := by decide +kernel
theorem dL_isBest_230 : decode cL_isBest 230 = .ok (.iconst 0, 1) := by decide +kernel
theorem dL_isBest_231 : decode cL_isBest 231 = .ok (.iconst 2, 1) := by decide +kernel
theorem dL_isBest_232 : decode cL_isBest 232 = .ok (.invokevirtual 134, 3) := by decide +kernel
theorem dL_isBest_235 : decode cL_isBest 235 = .ok (.aload 5, 2) := by decide +kernel
theorem dL_isBest_237 : decode cL_isBest 237 = .ok (.invokestatic 101, 3) := by decide +kernel
theorem dL_isBest_240 : decode cL_isBest 240 = .ok (.ifCond .eq 7, 3) := by decide +kernel
theorem dL_isBest_243 : decode cL_isBest 243 = .ok (.iconst 1, 1) := by decide +kernel
theorem dL_isBest_244 : decode cL_isBest 244 = .ok (.goto 4, 3) := by decide +kernel
theorem dL_isBest_247 : decode cL_isBest 247 = .ok (.iconst 0, 1) := by decide +kernel
theorem dL_isBest_248 : decode cL_isBest 248 = .ok (.if_icmp .ne 29, 3) := by decide +kernel
theorem dL_isBest_251 : decode cL_isBest 251 = .ok (.aload_n 0, 1) := by decide +kernel
theorem dL_isBest_252 : decode cL_isBest 252 = .ok (.iconst 0, 1) := by decide +kernel
theorem dL_isBest_253 : decode cL_isBest 253 = .ok (.iconst 3, 1) := by decide +kernel
theorem dL_isBest_254 : decode cL_isBest 254 = .ok (.invokevirtual 134, 3) := by decide +kernel
theorem dL_isBest_257 : decode cL_isBest 257 = .ok (.aload 4, 2) := by decide +kernel
theorem dL_isBest_259 : decode cL_isBest 259 = .ok (.iload_n 3, 1) := by decide +kernel
theorem dL_isBest_260 : decode cL_isBest 260 = .ok (.iconst 1, 1) := by decide +kernel
theorem dL_isBest_261 : decode cL_isBest 261 = .ok (.isub, 1) := by decide +kernel
theorem dL_isBest_262 : decode cL_isBest 262 = .ok (.iaload, 1) := by decide +kernel
theorem dL_isBest_263 : decode cL_isBest 263 = .ok (.if_icmp .ne 14, 3) := by decide +kernel
theorem dL_isBest_266 : decode cL_isBest 266 = .ok (.aload_n 0, 1) := by decide +kernel
theorem dL_isBest_267 : decode cL_isBest 267 = .ok (.iconst 0, 1) := by decide +kernel
theorem dL_isBest_268 : decode cL_isBest 268 = .ok (.iconst 5, 1) := by decide +kernel
theorem dL_isBest_269 : decode cL_isBest 269 = .ok (.invokevirtual 134, 3) := by decide +kernel
theorem dL_isBest_272 : decode cL_isBest 272 = .ok (.iload 8, 2) := by decide +kernel
theorem dL_isBest_274 : decode cL_isBest 274 = .ok (.if_icmp .eq 5, 3) := by decide +kernel
