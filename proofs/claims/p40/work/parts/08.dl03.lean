theorem dL_ways_244 : decode cL_ways 244 = .ok (.iconst 1, 1) := by decide +kernel
theorem dL_ways_245 : decode cL_ways 245 = .ok (.goto 32, 3) := by decide +kernel
theorem dL_ways_248 : decode cL_ways 248 = .ok (.iload 9, 2) := by decide +kernel
theorem dL_ways_250 : decode cL_ways 250 = .ok (.ifCond .eq 16, 3) := by decide +kernel
theorem dL_ways_253 : decode cL_ways 253 = .ok (.iload 9, 2) := by decide +kernel
theorem dL_ways_255 : decode cL_ways 255 = .ok (.ifCond .le 7, 3) := by decide +kernel
theorem dL_ways_258 : decode cL_ways 258 = .ok (.iconst (-1), 1) := by decide +kernel
theorem dL_ways_259 : decode cL_ways 259 = .ok (.goto 18, 3) := by decide +kernel
theorem dL_ways_262 : decode cL_ways 262 = .ok (.iconst 1, 1) := by decide +kernel
theorem dL_ways_263 : decode cL_ways 263 = .ok (.goto 14, 3) := by decide +kernel
theorem dL_ways_266 : decode cL_ways 266 = .ok (.aload_n 1, 1) := by decide +kernel
theorem dL_ways_267 : decode cL_ways 267 = .ok (.iconst 0, 1) := by decide +kernel
theorem dL_ways_268 : decode cL_ways 268 = .ok (.iaload, 1) := by decide +kernel
theorem dL_ways_269 : decode cL_ways 269 = .ok (.ifCond .lt 7, 3) := by decide +kernel
theorem dL_ways_272 : decode cL_ways 272 = .ok (.iconst (-1), 1) := by decide +kernel
theorem dL_ways_273 : decode cL_ways 273 = .ok (.goto 4, 3) := by decide +kernel
theorem dL_ways_276 : decode cL_ways 276 = .ok (.iconst 1, 1) := by decide +kernel
theorem dL_ways_277 : decode cL_ways 277 = .ok (.istore 10, 2) := by decide +kernel
theorem dL_ways_279 : decode cL_ways 279 = .ok (.iconst 0, 1) := by decide +kernel
theorem dL_ways_280 : decode cL_ways 280 = .ok (.istore 11, 2) := by decide +kernel
theorem dL_ways_282 : decode cL_ways 282 = .ok (.iload 11, 2) := by decide +kernel
theorem dL_ways_284 : decode cL_ways 284 = .ok (.iload_n 2, 1) := by decide +kernel
theorem dL_ways_285 : decode cL_ways 285 = .ok (.if_icmp .ge 37, 3) := by decide +kernel
theorem dL_ways_288 : decode cL_ways 288 = .ok (.aload 6, 2) := by decide +kernel
theorem dL_ways_290 : decode cL_ways 290 = .ok (.iload 11, 2) := by decide +kernel
theorem dL_ways_292 : decode cL_ways 292 = .ok (.iload_n 3, 1) := by decide +kernel
theorem dL_ways_293 : decode cL_ways 293 = .ok (.ifCond .ne 8, 3) := by decide +kernel
theorem dL_ways_296 : decode cL_ways 296 = .ok (.iload 10, 2) := by decide +kernel
theorem dL_ways_298 : decode cL_ways 298 = .ok (.goto 17, 3) := by decide +kernel
theorem dL_ways_301 : decode cL_ways 301 = .ok (.aload_n 1, 1) := by decide +kernel
theorem dL_ways_302 : decode cL_ways 302 = .ok (.iload 11, 2) := by decide +kernel
theorem dL_ways_304 : decode cL_ways 304 = .ok (.iaload, 1) := by decide +kernel
theorem dL_ways_305 : decode cL_ways 305 = .ok (.iload 4, 2) := by decide +kernel
theorem dL_ways_307 : decode cL_ways 307 = .ok (.if_icmp .le 7, 3) := by decide +kernel
theorem dL_ways_310 : decode cL_ways 310 = .ok (.iconst (-1), 1) := by decide +kernel
theorem dL_ways_311 : decode cL_ways 311 = .ok (.goto 4, 3) := by decide +kernel
theorem dL_ways_314 : decode cL_ways 314 = .ok (.iconst 1, 1) := by decide +kernel
theorem dL_ways_315 : decode cL_ways 315 = .ok (.iastore, 1) := by decide +kernel
theorem dL_ways_316 : decode cL_ways 316 = .ok (.iinc 11 1, 3) := by decide +kernel
theorem dL_ways_319 : decode cL_ways 319 = .ok (.goto (-37), 3) := by decide +kernel
theorem dL_ways_322 : decode cL_ways 322 = .ok (.aload 6, 2) := by decide +kernel
theorem dL_ways_324 : decode cL_ways 324 = .ok (.areturn, 1) := by decide +kernel
theorem dL_isKneed_0 : decode cL_isKneed 0 = .ok (.aload_n 0, 1) := by decide +kernel
theorem dL_isKneed_1 : decode cL_isKneed 1 = .ok (.astore_n 1, 1) := by decide +kernel
theorem dL_isKneed_2 : decode cL_isKneed 2 = .ok (.aload_n 1, 1) := by decide +kernel
theorem dL_isKneed_3 : decode cL_isKneed 3 = .ok (.arraylength, 1) := by decide +kernel
theorem dL_isKneed_4 : decode cL_isKneed 4 = .ok (.istore_n 2, 1) := by decide +kernel
theorem dL_isKneed_5 : decode cL_isKneed 5 = .ok (.iconst 0, 1) := by decide +kernel
theorem dL_isKneed_6 : decode cL_isKneed 6 = .ok (.istore_n 3, 1) := by decide +kernel
theorem dL_isKneed_7 : decode cL_isKneed 7 = .ok (.iload_n 3, 1) := by decide +kernel
theorem dL_isKneed_8 : decode cL_isKneed 8 = .ok (.iload_n 2, 1) := by decide +kernel
theorem dL_isKneed_9 : decode cL_isKneed 9 = .ok (.if_icmp .ge 24, 3) := by decide +kernel
theorem dL_isKneed_12 : decode cL_isKneed 12 = .ok (.aload_n 1, 1) := by decide +kernel
theorem dL_isKneed_13 : decode cL_isKneed 13 = .ok (.iload_n 3, 1) := by decide +kernel
theorem dL_isKneed_14 : decode cL_isKneed 14 = .ok (.iaload, 1) := by decide +kernel
theorem dL_isKneed_15 : decode cL_isKneed 15 = .ok (.istore 4, 2) := by decide +kernel
theorem dL_isKneed_17 : decode cL_isKneed 17 = .ok (.iload 4, 2) := by decide +kernel
theorem dL_isKneed_19 : decode cL_isKneed 19 = .ok (.aload_n 0, 1) := by decide +kernel
theorem dL_isKneed_20 : decode cL_isKneed 20 = .ok (.iconst 0, 1) := by decide +kernel
theorem dL_isKneed_21 : decode cL_isKneed 21 = .ok (.iaload, 1) := by decide +kernel
theorem dL_isKneed_22 : decode cL_isKneed 22 = .ok (.if_icmp .eq 5, 3) := by decide +kernel
theorem dL_isKneed_25 : decode cL_isKneed 25 = .ok (.iconst 1, 1) := by decide +kernel
theorem dL_isKneed_26 : decode cL_isKneed 26 = .ok (.ireturn, 1) := by decide +kernel
theorem dL_isKneed_27 : decode cL_isKneed 27 = .ok (.iinc 3 1, 3) := by decide +kernel
theorem dL_isKneed_30 : decode cL_isKneed 30 = .ok (.goto (-23), 3) := by decide +kernel
theorem dL_isKneed_33 : decode cL_isKneed 33 = .ok (.iconst 0, 1) := by decide +kernel
theorem dL_isKneed_34 : decode cL_isKneed 34 = .ok (.ireturn, 1) := by decide +kernel
theorem dL_judged_0 : decode cL_judged 0 = .ok (.aload_n 1, 1) := by decide +kernel
theorem dL_judged_1 : decode cL_judged 1 = .ok (.arraylength, 1) := by decide +kernel
theorem dL_judged_2 : decode cL_judged 2 = .ok (.istore 6, 2) := by decide +kernel
theorem dL_judged_4 : decode cL_judged 4 = .ok (.aload_n 3, 1) := by decide +kernel
theorem dL_judged_5 : decode cL_judged 5 = .ok (.iload 6, 2) := by decide +kernel
theorem dL_judged_7 : decode cL_judged 7 = .ok (.iconst 1, 1) := by decide +kernel
theorem dL_judged_8 : decode cL_judged 8 = .ok (.isub, 1) := by decide +kernel
theorem dL_judged_9 : decode cL_judged 9 = .ok (.iaload, 1) := by decide +kernel
theorem dL_judged_10 : decode cL_judged 10 = .ok (.i2l, 1) := by decide +kernel
theorem dL_judged_11 : decode cL_judged 11 = .ok (.lstore 7, 2) := by decide +kernel
theorem dL_judged_13 : decode cL_judged 13 = .ok (.lconst 0, 1) := by decide +kernel
theorem dL_judged_14 : decode cL_judged 14 = .ok (.lstore 9, 2) := by decide +kernel
theorem dL_judged_16 : decode cL_judged 16 = .ok (.lconst 0, 1) := by decide +kernel
theorem dL_judged_17 : decode cL_judged 17 = .ok (.lstore 11, 2) := by decide +kernel
theorem dL_judged_19 : decode cL_judged 19 = .ok (.iconst 0, 1) := by decide +kernel
theorem dL_judged_20 : decode cL_judged 20 = .ok (.istore 13, 2) := by decide +kernel
theorem dL_judged_22 : decode cL_judged 22 = .ok (.iload 13, 2) := by decide +kernel
theorem dL_judged_24 : decode cL_judged 24 = .ok (.iload 6, 2) := by decide +kernel
theorem dL_judged_26 : decode cL_judged 26 = .ok (.if_icmp .ge 218, 3) := by decide +kernel
theorem dL_judged_29 : decode cL_judged 29 = .ok (.iload 4, 2) := by decide +kernel
theorem dL_judged_31 : decode cL_judged 31 = .ok (.i2l, 1) := by decide +kernel
theorem dL_judged_32 : decode cL_judged 32 = .ok (.lload 7, 2) := by decide +kernel
theorem dL_judged_34 : decode cL_judged 34 = .ok (.aload_n 3, 1) := by decide +kernel
theorem dL_judged_35 : decode cL_judged 35 = .ok (.iload 13, 2) := by decide +kernel
theorem dL_judged_37 : decode cL_judged 37 = .ok (.iaload, 1) := by decide +kernel
theorem dL_judged_38 : decode cL_judged 38 = .ok (.i2l, 1) := by decide +kernel
theorem dL_judged_39 : decode cL_judged 39 = .ok (.lsub, 1) := by decide +kernel
theorem dL_judged_40 : decode cL_judged 40 = .ok (.lmul, 1) := by decide +kernel
theorem dL_judged_41 : decode cL_judged 41 = .ok (.iload 5, 2) := by decide +kernel
theorem dL_judged_43 : decode cL_judged 43 = .ok (.i2l, 1) := by decide +kernel
theorem dL_judged_44 : decode cL_judged 44 = .ok (.aload_n 3, 1) := by decide +kernel
theorem dL_judged_45 : decode cL_judged 45 = .ok (.iload 13, 2) := by decide +kernel
theorem dL_judged_47 : decode cL_judged 47 = .ok (.iaload, 1) := by decide +kernel
theorem dL_judged_48 : decode cL_judged 48 = .ok (.i2l, 1) := by decide +kernel
theorem dL_judged_49 : decode cL_judged 49 = .ok (.lmul, 1) := by decide +kernel
theorem dL_judged_50 : decode cL_judged 50 = .ok (.ladd, 1) := by decide +kernel
theorem dL_judged_51 : decode cL_judged 51 = .ok (.ldc2_w 97, 3) := by decide +kernel
theorem dL_judged_54 : decode cL_judged 54 = .ok (.aload_n 1, 1) := by decide +kernel
theorem dL_judged_55 : decode cL_judged 55 = .ok (.iload 13, 2) := by decide +kernel
theorem dL_judged_57 : decode cL_judged 57 = .ok (.iaload, 1) := by decide +kernel
theorem dL_judged_58 : decode cL_judged 58 = .ok (.i2l, 1) := by decide +kernel
theorem dL_judged_59 : decode cL_judged 59 = .ok (.lmul, 1) := by decide +kernel
theorem dL_judged_60 : decode cL_judged 60 = .ok (.lload 7, 2) := by decide +kernel
theorem dL_judged_62 : decode cL_judged 62 = .ok (.lmul, 1) := by decide +kernel
theorem dL_judged_63 : decode cL_judged 63 = .ok (.lsub, 1) := by decide +kernel
theorem dL_judged_64 : decode cL_judged 64 = .ok (.lstore 14, 2) := by decide +kernel
theorem dL_judged_66 : decode cL_judged 66 = .ok (.aload_n 2, 1) := by decide +kernel
theorem dL_judged_67 : decode cL_judged 67 = .ok (.iload 13, 2) := by decide +kernel
theorem dL_judged_69 : decode cL_judged 69 = .ok (.iaload, 1) := by decide +kernel
theorem dL_judged_70 : decode cL_judged 70 = .ok (.ifCond .le 8, 3) := by decide +kernel
theorem dL_judged_73 : decode cL_judged 73 = .ok (.lload 14, 2) := by decide +kernel
theorem dL_judged_75 : decode cL_judged 75 = .ok (.goto 6, 3) := by decide +kernel
theorem dL_judged_78 : decode cL_judged 78 = .ok (.lload 14, 2) := by decide +kernel
theorem dL_judged_80 : decode cL_judged 80 = .ok (.lneg, 1) := by decide +kernel
theorem dL_judged_81 : decode cL_judged 81 = .ok (.lstore 16, 2) := by decide +kernel
theorem dL_judged_83 : decode cL_judged 83 = .ok (.aload_n 0, 1) := by decide +kernel
theorem dL_judged_84 : decode cL_judged 84 = .ok (.iload 13, 2) := by decide +kernel
theorem dL_judged_86 : decode cL_judged 86 = .ok (.invokestatic 47, 3) := by decide +kernel
theorem dL_judged_89 : decode cL_judged 89 = .ok (.istore 18, 2) := by decide +kernel
theorem dL_judged_91 : decode cL_judged 91 = .ok (.lload 16, 2) := by decide +kernel
theorem dL_judged_93 : decode cL_judged 93 = .ok (.lload 7, 2) := by decide +kernel
theorem dL_judged_95 : decode cL_judged 95 = .ok (.iload 18, 2) := by decide +kernel
theorem dL_judged_97 : decode cL_judged 97 = .ok (.iconst 1, 1) := by decide +kernel
