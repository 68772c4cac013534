theorem dL_judged_98 : decode cL_judged 98 = .ok (.if_icmp .ne 8, 3) := by decide +kernel
theorem dL_judged_101 : decode cL_judged 101 = .ok (.bipush 10, 2) := by decide +kernel
theorem dL_judged_103 : decode cL_judged 103 = .ok (.goto 16, 3) := by decide +kernel
theorem dL_judged_106 : decode cL_judged 106 = .ok (.iload 18, 2) := by decide +kernel
theorem dL_judged_108 : decode cL_judged 108 = .ok (.iconst 2, 1) := by decide +kernel
theorem dL_judged_109 : decode cL_judged 109 = .ok (.if_icmp .ne 8, 3) := by decide +kernel
theorem dL_judged_112 : decode cL_judged 112 = .ok (.bipush 11, 2) := by decide +kernel
theorem dL_judged_114 : decode cL_judged 114 = .ok (.goto 5, 3) := by decide +kernel
theorem dL_judged_117 : decode cL_judged 117 = .ok (.bipush 13, 2) := by decide +kernel
theorem dL_judged_119 : decode cL_judged 119 = .ok (.i2l, 1) := by decide +kernel
theorem dL_judged_120 : decode cL_judged 120 = .ok (.lmul, 1) := by decide +kernel
theorem dL_judged_121 : decode cL_judged 121 = .ok (.lcmp, 1) := by decide +kernel
theorem dL_judged_122 : decode cL_judged 122 = .ok (.ifCond .lt 15, 3) := by decide +kernel
theorem dL_judged_125 : decode cL_judged 125 = .ok (.lload 16, 2) := by decide +kernel
theorem dL_judged_127 : decode cL_judged 127 = .ok (.ldc2_w 99, 3) := by decide +kernel
theorem dL_judged_130 : decode cL_judged 130 = .ok (.lload 7, 2) := by decide +kernel
theorem dL_judged_132 : decode cL_judged 132 = .ok (.lmul, 1) := by decide +kernel
theorem dL_judged_133 : decode cL_judged 133 = .ok (.lcmp, 1) := by decide +kernel
theorem dL_judged_134 : decode cL_judged 134 = .ok (.ifCond .le 5, 3) := by decide +kernel
theorem dL_judged_137 : decode cL_judged 137 = .ok (.aconst_null, 1) := by decide +kernel
theorem dL_judged_138 : decode cL_judged 138 = .ok (.areturn, 1) := by decide +kernel
theorem dL_judged_139 : decode cL_judged 139 = .ok (.iload 18, 2) := by decide +kernel
theorem dL_judged_141 : decode cL_judged 141 = .ok (.iconst 1, 1) := by decide +kernel
theorem dL_judged_142 : decode cL_judged 142 = .ok (.if_icmp .ne 8, 3) := by decide +kernel
theorem dL_judged_145 : decode cL_judged 145 = .ok (.bipush 14, 2) := by decide +kernel
theorem dL_judged_147 : decode cL_judged 147 = .ok (.goto 16, 3) := by decide +kernel
theorem dL_judged_150 : decode cL_judged 150 = .ok (.iload 18, 2) := by decide +kernel
theorem dL_judged_152 : decode cL_judged 152 = .ok (.iconst 2, 1) := by decide +kernel
theorem dL_judged_153 : decode cL_judged 153 = .ok (.if_icmp .ne 8, 3) := by decide +kernel
theorem dL_judged_156 : decode cL_judged 156 = .ok (.bipush 15, 2) := by decide +kernel
theorem dL_judged_158 : decode cL_judged 158 = .ok (.goto 5, 3) := by decide +kernel
theorem dL_judged_161 : decode cL_judged 161 = .ok (.bipush 17, 2) := by decide +kernel
theorem dL_judged_163 : decode cL_judged 163 = .ok (.aload_n 2, 1) := by decide +kernel
theorem dL_judged_164 : decode cL_judged 164 = .ok (.iload 13, 2) := by decide +kernel
theorem dL_judged_166 : decode cL_judged 166 = .ok (.iaload, 1) := by decide +kernel
theorem dL_judged_167 : decode cL_judged 167 = .ok (.ifCond .le 13, 3) := by decide +kernel
theorem dL_judged_170 : decode cL_judged 170 = .ok (.bipush (-2), 2) := by decide +kernel
theorem dL_judged_172 : decode cL_judged 172 = .ok (.aload_n 1, 1) := by decide +kernel
theorem dL_judged_173 : decode cL_judged 173 = .ok (.iload 13, 2) := by decide +kernel
theorem dL_judged_175 : decode cL_judged 175 = .ok (.iaload, 1) := by decide +kernel
theorem dL_judged_176 : decode cL_judged 176 = .ok (.imul, 1) := by decide +kernel
theorem dL_judged_177 : decode cL_judged 177 = .ok (.goto 9, 3) := by decide +kernel
theorem dL_judged_180 : decode cL_judged 180 = .ok (.iconst 2, 1) := by decide +kernel
theorem dL_judged_181 : decode cL_judged 181 = .ok (.aload_n 1, 1) := by decide +kernel
theorem dL_judged_182 : decode cL_judged 182 = .ok (.iload 13, 2) := by decide +kernel
theorem dL_judged_184 : decode cL_judged 184 = .ok (.iaload, 1) := by decide +kernel
theorem dL_judged_185 : decode cL_judged 185 = .ok (.imul, 1) := by decide +kernel
theorem dL_judged_186 : decode cL_judged 186 = .ok (.invokestatic 94, 3) := by decide +kernel
theorem dL_judged_189 : decode cL_judged 189 = .ok (.i2l, 1) := by decide +kernel
theorem dL_judged_190 : decode cL_judged 190 = .ok (.lstore 19, 2) := by decide +kernel
theorem dL_judged_192 : decode cL_judged 192 = .ok (.lload 9, 2) := by decide +kernel
theorem dL_judged_194 : decode cL_judged 194 = .ok (.lload 16, 2) := by decide +kernel
theorem dL_judged_196 : decode cL_judged 196 = .ok (.lload 19, 2) := by decide +kernel
theorem dL_judged_198 : decode cL_judged 198 = .ok (.lload 7, 2) := by decide +kernel
theorem dL_judged_200 : decode cL_judged 200 = .ok (.lmul, 1) := by decide +kernel
theorem dL_judged_201 : decode cL_judged 201 = .ok (.lcmp, 1) := by decide +kernel
theorem dL_judged_202 : decode cL_judged 202 = .ok (.ifCond .ge 18, 3) := by decide +kernel
theorem dL_judged_205 : decode cL_judged 205 = .ok (.ldc2_w 97, 3) := by decide +kernel
theorem dL_judged_208 : decode cL_judged 208 = .ok (.lload 19, 2) := by decide +kernel
theorem dL_judged_210 : decode cL_judged 210 = .ok (.lload 7, 2) := by decide +kernel
theorem dL_judged_212 : decode cL_judged 212 = .ok (.lmul, 1) := by decide +kernel
theorem dL_judged_213 : decode cL_judged 213 = .ok (.lload 16, 2) := by decide +kernel
theorem dL_judged_215 : decode cL_judged 215 = .ok (.lsub, 1) := by decide +kernel
theorem dL_judged_216 : decode cL_judged 216 = .ok (.lmul, 1) := by decide +kernel
theorem dL_judged_217 : decode cL_judged 217 = .ok (.goto 11, 3) := by decide +kernel
theorem dL_judged_220 : decode cL_judged 220 = .ok (.lload 16, 2) := by decide +kernel
theorem dL_judged_222 : decode cL_judged 222 = .ok (.lload 19, 2) := by decide +kernel
theorem dL_judged_224 : decode cL_judged 224 = .ok (.lload 7, 2) := by decide +kernel
theorem dL_judged_226 : decode cL_judged 226 = .ok (.lmul, 1) := by decide +kernel
theorem dL_judged_227 : decode cL_judged 227 = .ok (.lsub, 1) := by decide +kernel
theorem dL_judged_228 : decode cL_judged 228 = .ok (.ladd, 1) := by decide +kernel
theorem dL_judged_229 : decode cL_judged 229 = .ok (.lstore 9, 2) := by decide +kernel
theorem dL_judged_231 : decode cL_judged 231 = .ok (.lload 11, 2) := by decide +kernel
theorem dL_judged_233 : decode cL_judged 233 = .ok (.lload 16, 2) := by decide +kernel
theorem dL_judged_235 : decode cL_judged 235 = .ok (.ladd, 1) := by decide +kernel
theorem dL_judged_236 : decode cL_judged 236 = .ok (.lstore 11, 2) := by decide +kernel
theorem dL_judged_238 : decode cL_judged 238 = .ok (.iinc 13 1, 3) := by decide +kernel
theorem dL_judged_241 : decode cL_judged 241 = .ok (.goto (-219), 3) := by decide +kernel
theorem dL_judged_244 : decode cL_judged 244 = .ok (.bipush (-5), 2) := by decide +kernel
theorem dL_judged_246 : decode cL_judged 246 = .ok (.iconst 5, 1) := by decide +kernel
theorem dL_judged_247 : decode cL_judged 247 = .ok (.aload_n 1, 1) := by decide +kernel
theorem dL_judged_248 : decode cL_judged 248 = .ok (.iload 6, 2) := by decide +kernel
theorem dL_judged_250 : decode cL_judged 250 = .ok (.iconst 1, 1) := by decide +kernel
theorem dL_judged_251 : decode cL_judged 251 = .ok (.isub, 1) := by decide +kernel
theorem dL_judged_252 : decode cL_judged 252 = .ok (.iaload, 1) := by decide +kernel
theorem dL_judged_253 : decode cL_judged 253 = .ok (.aload_n 1, 1) := by decide +kernel
theorem dL_judged_254 : decode cL_judged 254 = .ok (.iconst 0, 1) := by decide +kernel
theorem dL_judged_255 : decode cL_judged 255 = .ok (.iaload, 1) := by decide +kernel
theorem dL_judged_256 : decode cL_judged 256 = .ok (.isub, 1) := by decide +kernel
theorem dL_judged_257 : decode cL_judged 257 = .ok (.invokestatic 53, 3) := by decide +kernel
theorem dL_judged_260 : decode cL_judged 260 = .ok (.invokestatic 94, 3) := by decide +kernel
theorem dL_judged_263 : decode cL_judged 263 = .ok (.istore 13, 2) := by decide +kernel
theorem dL_judged_265 : decode cL_judged 265 = .ok (.iconst 1, 1) := by decide +kernel
theorem dL_judged_266 : decode cL_judged 266 = .ok (.istore 14, 2) := by decide +kernel
theorem dL_judged_268 : decode cL_judged 268 = .ok (.iload 14, 2) := by decide +kernel
theorem dL_judged_270 : decode cL_judged 270 = .ok (.iload 6, 2) := by decide +kernel
theorem dL_judged_272 : decode cL_judged 272 = .ok (.iconst 1, 1) := by decide +kernel
theorem dL_judged_273 : decode cL_judged 273 = .ok (.isub, 1) := by decide +kernel
theorem dL_judged_274 : decode cL_judged 274 = .ok (.if_icmp .ge 66, 3) := by decide +kernel
theorem dL_judged_277 : decode cL_judged 277 = .ok (.aload_n 2, 1) := by decide +kernel
theorem dL_judged_278 : decode cL_judged 278 = .ok (.invokestatic 101, 3) := by decide +kernel
theorem dL_judged_281 : decode cL_judged 281 = .ok (.ifCond .ne 59, 3) := by decide +kernel
theorem dL_judged_284 : decode cL_judged 284 = .ok (.aload_n 2, 1) := by decide +kernel
theorem dL_judged_285 : decode cL_judged 285 = .ok (.iconst 0, 1) := by decide +kernel
theorem dL_judged_286 : decode cL_judged 286 = .ok (.iaload, 1) := by decide +kernel
theorem dL_judged_287 : decode cL_judged 287 = .ok (.ifCond .le 25, 3) := by decide +kernel
theorem dL_judged_290 : decode cL_judged 290 = .ok (.aload_n 1, 1) := by decide +kernel
theorem dL_judged_291 : decode cL_judged 291 = .ok (.iload 14, 2) := by decide +kernel
theorem dL_judged_293 : decode cL_judged 293 = .ok (.iaload, 1) := by decide +kernel
theorem dL_judged_294 : decode cL_judged 294 = .ok (.aload_n 1, 1) := by decide +kernel
theorem dL_judged_295 : decode cL_judged 295 = .ok (.iconst 0, 1) := by decide +kernel
theorem dL_judged_296 : decode cL_judged 296 = .ok (.iaload, 1) := by decide +kernel
theorem dL_judged_297 : decode cL_judged 297 = .ok (.aload_n 1, 1) := by decide +kernel
theorem dL_judged_298 : decode cL_judged 298 = .ok (.iload 6, 2) := by decide +kernel
theorem dL_judged_300 : decode cL_judged 300 = .ok (.iconst 1, 1) := by decide +kernel
theorem dL_judged_301 : decode cL_judged 301 = .ok (.isub, 1) := by decide +kernel
theorem dL_judged_302 : decode cL_judged 302 = .ok (.iaload, 1) := by decide +kernel
theorem dL_judged_303 : decode cL_judged 303 = .ok (.invokestatic 94, 3) := by decide +kernel
theorem dL_judged_306 : decode cL_judged 306 = .ok (.if_icmp .le 28, 3) := by decide +kernel
theorem dL_judged_309 : decode cL_judged 309 = .ok (.goto 22, 3) := by decide +kernel
theorem dL_judged_312 : decode cL_judged 312 = .ok (.aload_n 1, 1) := by decide +kernel
theorem dL_judged_313 : decode cL_judged 313 = .ok (.iload 14, 2) := by decide +kernel
theorem dL_judged_315 : decode cL_judged 315 = .ok (.iaload, 1) := by decide +kernel
theorem dL_judged_316 : decode cL_judged 316 = .ok (.aload_n 1, 1) := by decide +kernel
theorem dL_judged_317 : decode cL_judged 317 = .ok (.iconst 0, 1) := by decide +kernel
theorem dL_judged_318 : decode cL_judged 318 = .ok (.iaload, 1) := by decide +kernel
theorem dL_judged_319 : decode cL_judged 319 = .ok (.aload_n 1, 1) := by decide +kernel
theorem dL_judged_320 : decode cL_judged 320 = .ok (.iload 6, 2) := by decide +kernel
theorem dL_judged_322 : decode cL_judged 322 = .ok (.iconst 1, 1) := by decide +kernel
theorem dL_judged_323 : decode cL_judged 323 = .ok (.isub, 1) := by decide +kernel
