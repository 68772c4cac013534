/-! ===== The law's own rows ===== -/
theorem dL_element_0 : decode cL_element 0 = .ok (.aload_n 3, 1) := by decide +kernel
theorem dL_element_1 : decode cL_element 1 = .ok (.iconst 0, 1) := by decide +kernel
theorem dL_element_2 : decode cL_element 2 = .ok (.aload_n 0, 1) := by decide +kernel
theorem dL_element_3 : decode cL_element 3 = .ok (.iload_n 1, 1) := by decide +kernel
theorem dL_element_4 : decode cL_element 4 = .ok (.iload_n 2, 1) := by decide +kernel
theorem dL_element_5 : decode cL_element 5 = .ok (.invokevirtual 7, 3) := by decide +kernel
theorem dL_element_8 : decode cL_element 8 = .ok (.i2l, 1) := by decide +kernel
theorem dL_element_9 : decode cL_element 9 = .ok (.lastore, 1) := by decide +kernel
theorem dL_element_10 : decode cL_element 10 = .ok (.goto 11, 3) := by decide +kernel
theorem dL_element_13 : decode cL_element 13 = .ok (.astore 4, 2) := by decide +kernel
theorem dL_element_15 : decode cL_element 15 = .ok (.iconst 1, 1) := by decide +kernel
theorem dL_element_16 : decode cL_element 16 = .ok (.ireturn, 1) := by decide +kernel
theorem dL_element_17 : decode cL_element 17 = .ok (.astore 4, 2) := by decide +kernel
theorem dL_element_19 : decode cL_element 19 = .ok (.iconst 2, 1) := by decide +kernel
theorem dL_element_20 : decode cL_element 20 = .ok (.ireturn, 1) := by decide +kernel
theorem dL_element_21 : decode cL_element 21 = .ok (.iconst 0, 1) := by decide +kernel
theorem dL_element_22 : decode cL_element 22 = .ok (.ireturn, 1) := by decide +kernel
theorem dL_group_0 : decode cL_group 0 = .ok (.aload_n 3, 1) := by decide +kernel
theorem dL_group_1 : decode cL_group 1 = .ok (.iconst 0, 1) := by decide +kernel
theorem dL_group_2 : decode cL_group 2 = .ok (.aload_n 0, 1) := by decide +kernel
theorem dL_group_3 : decode cL_group 3 = .ok (.iload_n 1, 1) := by decide +kernel
theorem dL_group_4 : decode cL_group 4 = .ok (.iload_n 2, 1) := by decide +kernel
theorem dL_group_5 : decode cL_group 5 = .ok (.invokevirtual 17, 3) := by decide +kernel
theorem dL_group_8 : decode cL_group 8 = .ok (.i2l, 1) := by decide +kernel
theorem dL_group_9 : decode cL_group 9 = .ok (.lastore, 1) := by decide +kernel
theorem dL_group_10 : decode cL_group 10 = .ok (.goto 11, 3) := by decide +kernel
theorem dL_group_13 : decode cL_group 13 = .ok (.astore 4, 2) := by decide +kernel
theorem dL_group_15 : decode cL_group 15 = .ok (.iconst 1, 1) := by decide +kernel
theorem dL_group_16 : decode cL_group 16 = .ok (.ireturn, 1) := by decide +kernel
theorem dL_group_17 : decode cL_group 17 = .ok (.astore 4, 2) := by decide +kernel
theorem dL_group_19 : decode cL_group 19 = .ok (.iconst 2, 1) := by decide +kernel
theorem dL_group_20 : decode cL_group 20 = .ok (.ireturn, 1) := by decide +kernel
theorem dL_group_21 : decode cL_group 21 = .ok (.iconst 0, 1) := by decide +kernel
theorem dL_group_22 : decode cL_group 22 = .ok (.ireturn, 1) := by decide +kernel
theorem dL_law_0 : decode cL_law 0 = .ok (.new 8, 3) := by decide +kernel
theorem dL_law_3 : decode cL_law 3 = .ok (.dup, 1) := by decide +kernel
theorem dL_law_4 : decode cL_law 4 = .ok (.invokespecial 20, 3) := by decide +kernel
theorem dL_law_7 : decode cL_law 7 = .ok (.astore_n 1, 1) := by decide +kernel
theorem dL_law_8 : decode cL_law 8 = .ok (.new 21, 3) := by decide +kernel
theorem dL_law_11 : decode cL_law 11 = .ok (.dup, 1) := by decide +kernel
theorem dL_law_12 : decode cL_law 12 = .ok (.invokespecial 23, 3) := by decide +kernel
theorem dL_law_15 : decode cL_law 15 = .ok (.astore_n 2, 1) := by decide +kernel
theorem dL_law_16 : decode cL_law 16 = .ok (.iconst 1, 1) := by decide +kernel
theorem dL_law_17 : decode cL_law 17 = .ok (.newarray .long, 2) := by decide +kernel
theorem dL_law_19 : decode cL_law 19 = .ok (.astore_n 3, 1) := by decide +kernel
theorem dL_law_20 : decode cL_law 20 = .ok (.iconst 0, 1) := by decide +kernel
theorem dL_law_21 : decode cL_law 21 = .ok (.istore 4, 2) := by decide +kernel
theorem dL_law_23 : decode cL_law 23 = .ok (.iload 4, 2) := by decide +kernel
theorem dL_law_25 : decode cL_law 25 = .ok (.aload_n 0, 1) := by decide +kernel
theorem dL_law_26 : decode cL_law 26 = .ok (.arraylength, 1) := by decide +kernel
theorem dL_law_27 : decode cL_law 27 = .ok (.bipush 6, 2) := by decide +kernel
theorem dL_law_29 : decode cL_law 29 = .ok (.isub, 1) := by decide +kernel
theorem dL_law_30 : decode cL_law 30 = .ok (.if_icmp .gt 1551, 3) := by decide +kernel
theorem dL_law_33 : decode cL_law 33 = .ok (.aload_n 0, 1) := by decide +kernel
theorem dL_law_34 : decode cL_law 34 = .ok (.iload 4, 2) := by decide +kernel
theorem dL_law_36 : decode cL_law 36 = .ok (.iaload, 1) := by decide +kernel
theorem dL_law_37 : decode cL_law 37 = .ok (.bipush 63, 2) := by decide +kernel
theorem dL_law_39 : decode cL_law 39 = .ok (.iand, 1) := by decide +kernel
theorem dL_law_40 : decode cL_law 40 = .ok (.tableswitch 1535 0 36 #[164, 237, 262, 287, 355, 380, 405, 442, 455, 523, 548, 573, 634, 671, 720, 769, 806, 855, 892, 917, 966, 991, 1028, 1041, 1066, 1103, 1128, 1153, 1190, 1251, 1288, 1325, 1350, 1387, 1436, 1473, 1510], 164) := by decide +kernel
theorem dL_law_204 : decode cL_law 204 = .ok (.aload_n 1, 1) := by decide +kernel
theorem dL_law_205 : decode cL_law 205 = .ok (.aload_n 0, 1) := by decide +kernel
theorem dL_law_206 : decode cL_law 206 = .ok (.iload 4, 2) := by decide +kernel
theorem dL_law_208 : decode cL_law 208 = .ok (.iconst 1, 1) := by decide +kernel
theorem dL_law_209 : decode cL_law 209 = .ok (.iadd, 1) := by decide +kernel
theorem dL_law_210 : decode cL_law 210 = .ok (.iaload, 1) := by decide +kernel
theorem dL_law_211 : decode cL_law 211 = .ok (.aload_n 0, 1) := by decide +kernel
theorem dL_law_212 : decode cL_law 212 = .ok (.iload 4, 2) := by decide +kernel
theorem dL_law_214 : decode cL_law 214 = .ok (.iconst 2, 1) := by decide +kernel
theorem dL_law_215 : decode cL_law 215 = .ok (.iadd, 1) := by decide +kernel
theorem dL_law_216 : decode cL_law 216 = .ok (.iaload, 1) := by decide +kernel
theorem dL_law_217 : decode cL_law 217 = .ok (.aload_n 0, 1) := by decide +kernel
theorem dL_law_218 : decode cL_law 218 = .ok (.iload 4, 2) := by decide +kernel
theorem dL_law_220 : decode cL_law 220 = .ok (.iconst 3, 1) := by decide +kernel
theorem dL_law_221 : decode cL_law 221 = .ok (.iadd, 1) := by decide +kernel
theorem dL_law_222 : decode cL_law 222 = .ok (.iaload, 1) := by decide +kernel
theorem dL_law_223 : decode cL_law 223 = .ok (.aload_n 0, 1) := by decide +kernel
theorem dL_law_224 : decode cL_law 224 = .ok (.iload 4, 2) := by decide +kernel
theorem dL_law_226 : decode cL_law 226 = .ok (.iconst 4, 1) := by decide +kernel
theorem dL_law_227 : decode cL_law 227 = .ok (.iadd, 1) := by decide +kernel
theorem dL_law_228 : decode cL_law 228 = .ok (.iaload, 1) := by decide +kernel
theorem dL_law_229 : decode cL_law 229 = .ok (.aload_n 0, 1) := by decide +kernel
theorem dL_law_230 : decode cL_law 230 = .ok (.iload 4, 2) := by decide +kernel
theorem dL_law_232 : decode cL_law 232 = .ok (.iconst 5, 1) := by decide +kernel
theorem dL_law_233 : decode cL_law 233 = .ok (.iadd, 1) := by decide +kernel
theorem dL_law_234 : decode cL_law 234 = .ok (.iaload, 1) := by decide +kernel
theorem dL_law_235 : decode cL_law 235 = .ok (.invokevirtual 24, 3) := by decide +kernel
theorem dL_law_238 : decode cL_law 238 = .ok (.aload_n 2, 1) := by decide +kernel
theorem dL_law_239 : decode cL_law 239 = .ok (.aload_n 0, 1) := by decide +kernel
theorem dL_law_240 : decode cL_law 240 = .ok (.iload 4, 2) := by decide +kernel
theorem dL_law_242 : decode cL_law 242 = .ok (.iconst 1, 1) := by decide +kernel
theorem dL_law_243 : decode cL_law 243 = .ok (.iadd, 1) := by decide +kernel
theorem dL_law_244 : decode cL_law 244 = .ok (.iaload, 1) := by decide +kernel
theorem dL_law_245 : decode cL_law 245 = .ok (.aload_n 0, 1) := by decide +kernel
theorem dL_law_246 : decode cL_law 246 = .ok (.iload 4, 2) := by decide +kernel
theorem dL_law_248 : decode cL_law 248 = .ok (.iconst 2, 1) := by decide +kernel
theorem dL_law_249 : decode cL_law 249 = .ok (.iadd, 1) := by decide +kernel
theorem dL_law_250 : decode cL_law 250 = .ok (.iaload, 1) := by decide +kernel
theorem dL_law_251 : decode cL_law 251 = .ok (.aload_n 0, 1) := by decide +kernel
theorem dL_law_252 : decode cL_law 252 = .ok (.iload 4, 2) := by decide +kernel
theorem dL_law_254 : decode cL_law 254 = .ok (.iconst 3, 1) := by decide +kernel
theorem dL_law_255 : decode cL_law 255 = .ok (.iadd, 1) := by decide +kernel
theorem dL_law_256 : decode cL_law 256 = .ok (.iaload, 1) := by decide +kernel
theorem dL_law_257 : decode cL_law 257 = .ok (.aload_n 0, 1) := by decide +kernel
theorem dL_law_258 : decode cL_law 258 = .ok (.iload 4, 2) := by decide +kernel
theorem dL_law_260 : decode cL_law 260 = .ok (.iconst 4, 1) := by decide +kernel
theorem dL_law_261 : decode cL_law 261 = .ok (.iadd, 1) := by decide +kernel
theorem dL_law_262 : decode cL_law 262 = .ok (.iaload, 1) := by decide +kernel
theorem dL_law_263 : decode cL_law 263 = .ok (.aload_n 0, 1) := by decide +kernel
theorem dL_law_264 : decode cL_law 264 = .ok (.iload 4, 2) := by decide +kernel
theorem dL_law_266 : decode cL_law 266 = .ok (.iconst 5, 1) := by decide +kernel
theorem dL_law_267 : decode cL_law 267 = .ok (.iadd, 1) := by decide +kernel
theorem dL_law_268 : decode cL_law 268 = .ok (.iaload, 1) := by decide +kernel
theorem dL_law_269 : decode cL_law 269 = .ok (.invokevirtual 28, 3) := by decide +kernel
theorem dL_law_272 : decode cL_law 272 = .ok (.if_icmp .eq 1303, 3) := by decide +kernel
theorem dL_law_275 : decode cL_law 275 = .ok (.iconst 0, 1) := by decide +kernel
theorem dL_law_276 : decode cL_law 276 = .ok (.ireturn, 1) := by decide +kernel
theorem dL_law_277 : decode cL_law 277 = .ok (.aload_n 1, 1) := by decide +kernel
theorem dL_law_278 : decode cL_law 278 = .ok (.aload_n 0, 1) := by decide +kernel
theorem dL_law_279 : decode cL_law 279 = .ok (.iload 4, 2) := by decide +kernel
theorem dL_law_281 : decode cL_law 281 = .ok (.iconst 1, 1) := by decide +kernel
theorem dL_law_282 : decode cL_law 282 = .ok (.iadd, 1) := by decide +kernel
theorem dL_law_283 : decode cL_law 283 = .ok (.iaload, 1) := by decide +kernel
theorem dL_law_284 : decode cL_law 284 = .ok (.invokevirtual 29, 3) := by decide +kernel
theorem dL_law_287 : decode cL_law 287 = .ok (.aload_n 2, 1) := by decide +kernel
theorem dL_law_288 : decode cL_law 288 = .ok (.aload_n 0, 1) := by decide +kernel
theorem dL_law_289 : decode cL_law 289 = .ok (.iload 4, 2) := by decide +kernel
theorem dL_law_291 : decode cL_law 291 = .ok (.iconst 1, 1) := by decide +kernel
theorem dL_law_292 : decode cL_law 292 = .ok (.iadd, 1) := by decide +kernel
theorem dL_law_293 : decode cL_law 293 = .ok (.iaload, 1) := by decide +kernel
theorem dL_law_294 : decode cL_law 294 = .ok (.invokevirtual 33, 3) := by decide +kernel
theorem dL_law_297 : decode cL_law 297 = .ok (.if_icmp .eq 1278, 3) := by decide +kernel
theorem dL_law_300 : decode cL_law 300 = .ok (.iconst 0, 1) := by decide +kernel
theorem dL_law_301 : decode cL_law 301 = .ok (.ireturn, 1) := by decide +kernel
theorem dL_law_302 : decode cL_law 302 = .ok (.aload_n 1, 1) := by decide +kernel
theorem dL_law_303 : decode cL_law 303 = .ok (.aload_n 0, 1) := by decide +kernel
theorem dL_law_304 : decode cL_law 304 = .ok (.iload 4, 2) := by decide +kernel
theorem dL_law_306 : decode cL_law 306 = .ok (.iconst 1, 1) := by decide +kernel
theorem dL_law_307 : decode cL_law 307 = .ok (.iadd, 1) := by decide +kernel
theorem dL_law_308 : decode cL_law 308 = .ok (.iaload, 1) := by decide +kernel
theorem dL_law_309 : decode cL_law 309 = .ok (.invokevirtual 34, 3) := by decide +kernel
theorem dL_law_312 : decode cL_law 312 = .ok (.aload_n 2, 1) := by decide +kernel
theorem dL_law_313 : decode cL_law 313 = .ok (.aload_n 0, 1) := by decide +kernel
theorem dL_law_314 : decode cL_law 314 = .ok (.iload 4, 2) := by decide +kernel
theorem dL_law_316 : decode cL_law 316 = .ok (.iconst 1, 1) := by decide +kernel
theorem dL_law_317 : decode cL_law 317 = .ok (.iadd, 1) := by decide +kernel
theorem dL_law_318 : decode cL_law 318 = .ok (.iaload, 1) := by decide +kernel
theorem dL_law_319 : decode cL_law 319 = .ok (.invokevirtual 37, 3) := by decide +kernel
theorem dL_law_322 : decode cL_law 322 = .ok (.if_icmp .eq 1253, 3) := by decide +kernel
theorem dL_law_325 : decode cL_law 325 = .ok (.iconst 0, 1) := by decide +kernel
theorem dL_law_326 : decode cL_law 326 = .ok (.ireturn, 1) := by decide +kernel
theorem dL_law_327 : decode cL_law 327 = .ok (.aload_n 1, 1) := by decide +kernel
theorem dL_law_328 : decode cL_law 328 = .ok (.aload_n 0, 1) := by decide +kernel
theorem dL_law_329 : decode cL_law 329 = .ok (.iload 4, 2) := by decide +kernel
theorem dL_law_331 : decode cL_law 331 = .ok (.iconst 1, 1) := by decide +kernel
theorem dL_law_332 : decode cL_law 332 = .ok (.iadd, 1) := by decide +kernel
theorem dL_law_333 : decode cL_law 333 = .ok (.iaload, 1) := by decide +kernel
theorem dL_law_334 : decode cL_law 334 = .ok (.aload_n 0, 1) := by decide +kernel
theorem dL_law_335 : decode cL_law 335 = .ok (.iload 4, 2) := by decide +kernel
theorem dL_law_337 : decode cL_law 337 = .ok (.iconst 2, 1) := by decide +kernel
theorem dL_law_338 : decode cL_law 338 = .ok (.iadd, 1) := by decide +kernel
theorem dL_law_339 : decode cL_law 339 = .ok (.iaload, 1) := by decide +kernel
theorem dL_law_340 : decode cL_law 340 = .ok (.aload_n 3, 1) := by decide +kernel
theorem dL_law_341 : decode cL_law 341 = .ok (.invokestatic 38, 3) := by decide +kernel
theorem dL_law_344 : decode cL_law 344 = .ok (.istore 5, 2) := by decide +kernel
theorem dL_law_346 : decode cL_law 346 = .ok (.aload_n 2, 1) := by decide +kernel
theorem dL_law_347 : decode cL_law 347 = .ok (.aload_n 0, 1) := by decide +kernel
theorem dL_law_348 : decode cL_law 348 = .ok (.iload 4, 2) := by decide +kernel
theorem dL_law_350 : decode cL_law 350 = .ok (.iconst 1, 1) := by decide +kernel
theorem dL_law_351 : decode cL_law 351 = .ok (.iadd, 1) := by decide +kernel
theorem dL_law_352 : decode cL_law 352 = .ok (.iaload, 1) := by decide +kernel
theorem dL_law_353 : decode cL_law 353 = .ok (.aload_n 0, 1) := by decide +kernel
theorem dL_law_354 : decode cL_law 354 = .ok (.iload 4, 2) := by decide +kernel
theorem dL_law_356 : decode cL_law 356 = .ok (.iconst 2, 1) := by decide +kernel
theorem dL_law_357 : decode cL_law 357 = .ok (.iadd, 1) := by decide +kernel
theorem dL_law_358 : decode cL_law 358 = .ok (.iaload, 1) := by decide +kernel
theorem dL_law_359 : decode cL_law 359 = .ok (.invokevirtual 43, 3) := by decide +kernel
theorem dL_law_362 : decode cL_law 362 = .ok (.istore 6, 2) := by decide +kernel
theorem dL_law_364 : decode cL_law 364 = .ok (.aload_n 2, 1) := by decide +kernel
theorem dL_law_365 : decode cL_law 365 = .ok (.invokevirtual 44, 3) := by decide +kernel
theorem dL_law_368 : decode cL_law 368 = .ok (.iload 5, 2) := by decide +kernel
theorem dL_law_370 : decode cL_law 370 = .ok (.if_icmp .eq 5, 3) := by decide +kernel
theorem dL_law_373 : decode cL_law 373 = .ok (.iconst 0, 1) := by decide +kernel
theorem dL_law_374 : decode cL_law 374 = .ok (.ireturn, 1) := by decide +kernel
theorem dL_law_375 : decode cL_law 375 = .ok (.iload 5, 2) := by decide +kernel
theorem dL_law_377 : decode cL_law 377 = .ok (.ifCond .ne 15, 3) := by decide +kernel
theorem dL_law_380 : decode cL_law 380 = .ok (.aload_n 3, 1) := by decide +kernel
theorem dL_law_381 : decode cL_law 381 = .ok (.iconst 0, 1) := by decide +kernel
theorem dL_law_382 : decode cL_law 382 = .ok (.laload, 1) := by decide +kernel
theorem dL_law_383 : decode cL_law 383 = .ok (.iload 6, 2) := by decide +kernel
theorem dL_law_385 : decode cL_law 385 = .ok (.i2l, 1) := by decide +kernel
theorem dL_law_386 : decode cL_law 386 = .ok (.lcmp, 1) := by decide +kernel
theorem dL_law_387 : decode cL_law 387 = .ok (.ifCond .eq 5, 3) := by decide +kernel
theorem dL_law_390 : decode cL_law 390 = .ok (.iconst 0, 1) := by decide +kernel
theorem dL_law_391 : decode cL_law 391 = .ok (.ireturn, 1) := by decide +kernel
theorem dL_law_392 : decode cL_law 392 = .ok (.goto 1183, 3) := by decide +kernel
theorem dL_law_395 : decode cL_law 395 = .ok (.aload_n 1, 1) := by decide +kernel
theorem dL_law_396 : decode cL_law 396 = .ok (.aload_n 0, 1) := by decide +kernel
theorem dL_law_397 : decode cL_law 397 = .ok (.iload 4, 2) := by decide +kernel
theorem dL_law_399 : decode cL_law 399 = .ok (.iconst 1, 1) := by decide +kernel
theorem dL_law_400 : decode cL_law 400 = .ok (.iadd, 1) := by decide +kernel
theorem dL_law_401 : decode cL_law 401 = .ok (.iaload, 1) := by decide +kernel
theorem dL_law_402 : decode cL_law 402 = .ok (.invokevirtual 48, 3) := by decide +kernel
theorem dL_law_405 : decode cL_law 405 = .ok (.aload_n 2, 1) := by decide +kernel
theorem dL_law_406 : decode cL_law 406 = .ok (.aload_n 0, 1) := by decide +kernel
theorem dL_law_407 : decode cL_law 407 = .ok (.iload 4, 2) := by decide +kernel
theorem dL_law_409 : decode cL_law 409 = .ok (.iconst 1, 1) := by decide +kernel
theorem dL_law_410 : decode cL_law 410 = .ok (.iadd, 1) := by decide +kernel
theorem dL_law_411 : decode cL_law 411 = .ok (.iaload, 1) := by decide +kernel
theorem dL_law_412 : decode cL_law 412 = .ok (.invokevirtual 51, 3) := by decide +kernel
theorem dL_law_415 : decode cL_law 415 = .ok (.if_icmp .eq 1160, 3) := by decide +kernel
theorem dL_law_418 : decode cL_law 418 = .ok (.iconst 0, 1) := by decide +kernel
theorem dL_law_419 : decode cL_law 419 = .ok (.ireturn, 1) := by decide +kernel
theorem dL_law_420 : decode cL_law 420 = .ok (.aload_n 1, 1) := by decide +kernel
theorem dL_law_421 : decode cL_law 421 = .ok (.aload_n 0, 1) := by decide +kernel
theorem dL_law_422 : decode cL_law 422 = .ok (.iload 4, 2) := by decide +kernel
theorem dL_law_424 : decode cL_law 424 = .ok (.iconst 1, 1) := by decide +kernel
theorem dL_law_425 : decode cL_law 425 = .ok (.iadd, 1) := by decide +kernel
theorem dL_law_426 : decode cL_law 426 = .ok (.iaload, 1) := by decide +kernel
theorem dL_law_427 : decode cL_law 427 = .ok (.invokevirtual 52, 3) := by decide +kernel
theorem dL_law_430 : decode cL_law 430 = .ok (.aload_n 2, 1) := by decide +kernel
theorem dL_law_431 : decode cL_law 431 = .ok (.aload_n 0, 1) := by decide +kernel
theorem dL_law_432 : decode cL_law 432 = .ok (.iload 4, 2) := by decide +kernel
theorem dL_law_434 : decode cL_law 434 = .ok (.iconst 1, 1) := by decide +kernel
theorem dL_law_435 : decode cL_law 435 = .ok (.iadd, 1) := by decide +kernel
theorem dL_law_436 : decode cL_law 436 = .ok (.iaload, 1) := by decide +kernel
theorem dL_law_437 : decode cL_law 437 = .ok (.invokevirtual 55, 3) := by decide +kernel
theorem dL_law_440 : decode cL_law 440 = .ok (.if_icmp .eq 1135, 3) := by decide +kernel
theorem dL_law_443 : decode cL_law 443 = .ok (.iconst 0, 1) := by decide +kernel
theorem dL_law_444 : decode cL_law 444 = .ok (.ireturn, 1) := by decide +kernel
theorem dL_law_445 : decode cL_law 445 = .ok (.aload_n 1, 1) := by decide +kernel
theorem dL_law_446 : decode cL_law 446 = .ok (.aload_n 0, 1) := by decide +kernel
theorem dL_law_447 : decode cL_law 447 = .ok (.iload 4, 2) := by decide +kernel
theorem dL_law_449 : decode cL_law 449 = .ok (.iconst 1, 1) := by decide +kernel
theorem dL_law_450 : decode cL_law 450 = .ok (.iadd, 1) := by decide +kernel
theorem dL_law_451 : decode cL_law 451 = .ok (.iaload, 1) := by decide +kernel
theorem dL_law_452 : decode cL_law 452 = .ok (.aload_n 0, 1) := by decide +kernel
theorem dL_law_453 : decode cL_law 453 = .ok (.iload 4, 2) := by decide +kernel
theorem dL_law_455 : decode cL_law 455 = .ok (.iconst 2, 1) := by decide +kernel
theorem dL_law_456 : decode cL_law 456 = .ok (.iadd, 1) := by decide +kernel
theorem dL_law_457 : decode cL_law 457 = .ok (.iaload, 1) := by decide +kernel
theorem dL_law_458 : decode cL_law 458 = .ok (.invokevirtual 56, 3) := by decide +kernel
theorem dL_law_461 : decode cL_law 461 = .ok (.aload_n 2, 1) := by decide +kernel
theorem dL_law_462 : decode cL_law 462 = .ok (.aload_n 0, 1) := by decide +kernel
theorem dL_law_463 : decode cL_law 463 = .ok (.iload 4, 2) := by decide +kernel
theorem dL_law_465 : decode cL_law 465 = .ok (.iconst 1, 1) := by decide +kernel
theorem dL_law_466 : decode cL_law 466 = .ok (.iadd, 1) := by decide +kernel
theorem dL_law_467 : decode cL_law 467 = .ok (.iaload, 1) := by decide +kernel
theorem dL_law_468 : decode cL_law 468 = .ok (.aload_n 0, 1) := by decide +kernel
theorem dL_law_469 : decode cL_law 469 = .ok (.iload 4, 2) := by decide +kernel
theorem dL_law_471 : decode cL_law 471 = .ok (.iconst 2, 1) := by decide +kernel
theorem dL_law_472 : decode cL_law 472 = .ok (.iadd, 1) := by decide +kernel
theorem dL_law_473 : decode cL_law 473 = .ok (.iaload, 1) := by decide +kernel
theorem dL_law_474 : decode cL_law 474 = .ok (.invokevirtual 59, 3) := by decide +kernel
theorem dL_law_477 : decode cL_law 477 = .ok (.if_icmp .eq 1098, 3) := by decide +kernel
theorem dL_law_480 : decode cL_law 480 = .ok (.iconst 0, 1) := by decide +kernel
theorem dL_law_481 : decode cL_law 481 = .ok (.ireturn, 1) := by decide +kernel
theorem dL_law_482 : decode cL_law 482 = .ok (.aload_n 1, 1) := by decide +kernel
theorem dL_law_483 : decode cL_law 483 = .ok (.invokevirtual 60, 3) := by decide +kernel
theorem dL_law_486 : decode cL_law 486 = .ok (.aload_n 2, 1) := by decide +kernel
theorem dL_law_487 : decode cL_law 487 = .ok (.invokevirtual 63, 3) := by decide +kernel
theorem dL_law_490 : decode cL_law 490 = .ok (.if_icmp .eq 1085, 3) := by decide +kernel
theorem dL_law_493 : decode cL_law 493 = .ok (.iconst 0, 1) := by decide +kernel
theorem dL_law_494 : decode cL_law 494 = .ok (.ireturn, 1) := by decide +kernel
theorem dL_law_495 : decode cL_law 495 = .ok (.aload_n 1, 1) := by decide +kernel
theorem dL_law_496 : decode cL_law 496 = .ok (.aload_n 0, 1) := by decide +kernel
theorem dL_law_497 : decode cL_law 497 = .ok (.iload 4, 2) := by decide +kernel
theorem dL_law_499 : decode cL_law 499 = .ok (.iconst 1, 1) := by decide +kernel
theorem dL_law_500 : decode cL_law 500 = .ok (.iadd, 1) := by decide +kernel
theorem dL_law_501 : decode cL_law 501 = .ok (.iaload, 1) := by decide +kernel
theorem dL_law_502 : decode cL_law 502 = .ok (.aload_n 0, 1) := by decide +kernel
theorem dL_law_503 : decode cL_law 503 = .ok (.iload 4, 2) := by decide +kernel
theorem dL_law_505 : decode cL_law 505 = .ok (.iconst 2, 1) := by decide +kernel
theorem dL_law_506 : decode cL_law 506 = .ok (.iadd, 1) := by decide +kernel
theorem dL_law_507 : decode cL_law 507 = .ok (.iaload, 1) := by decide +kernel
theorem dL_law_508 : decode cL_law 508 = .ok (.aload_n 3, 1) := by decide +kernel
theorem dL_law_509 : decode cL_law 509 = .ok (.invokestatic 64, 3) := by decide +kernel
theorem dL_law_512 : decode cL_law 512 = .ok (.istore 5, 2) := by decide +kernel
theorem dL_law_514 : decode cL_law 514 = .ok (.aload_n 2, 1) := by decide +kernel
theorem dL_law_515 : decode cL_law 515 = .ok (.aload_n 0, 1) := by decide +kernel
theorem dL_law_516 : decode cL_law 516 = .ok (.iload 4, 2) := by decide +kernel
theorem dL_law_518 : decode cL_law 518 = .ok (.iconst 1, 1) := by decide +kernel
theorem dL_law_519 : decode cL_law 519 = .ok (.iadd, 1) := by decide +kernel
theorem dL_law_520 : decode cL_law 520 = .ok (.iaload, 1) := by decide +kernel
theorem dL_law_521 : decode cL_law 521 = .ok (.aload_n 0, 1) := by decide +kernel
theorem dL_law_522 : decode cL_law 522 = .ok (.iload 4, 2) := by decide +kernel
theorem dL_law_524 : decode cL_law 524 = .ok (.iconst 2, 1) := by decide +kernel
theorem dL_law_525 : decode cL_law 525 = .ok (.iadd, 1) := by decide +kernel
theorem dL_law_526 : decode cL_law 526 = .ok (.iaload, 1) := by decide +kernel
theorem dL_law_527 : decode cL_law 527 = .ok (.invokevirtual 66, 3) := by decide +kernel
theorem dL_law_530 : decode cL_law 530 = .ok (.istore 6, 2) := by decide +kernel
theorem dL_law_532 : decode cL_law 532 = .ok (.aload_n 2, 1) := by decide +kernel
theorem dL_law_533 : decode cL_law 533 = .ok (.invokevirtual 44, 3) := by decide +kernel
theorem dL_law_536 : decode cL_law 536 = .ok (.iload 5, 2) := by decide +kernel
theorem dL_law_538 : decode cL_law 538 = .ok (.if_icmp .eq 5, 3) := by decide +kernel
theorem dL_law_541 : decode cL_law 541 = .ok (.iconst 0, 1) := by decide +kernel
theorem dL_law_542 : decode cL_law 542 = .ok (.ireturn, 1) := by decide +kernel
theorem dL_law_543 : decode cL_law 543 = .ok (.iload 5, 2) := by decide +kernel
theorem dL_law_545 : decode cL_law 545 = .ok (.ifCond .ne 15, 3) := by decide +kernel
theorem dL_law_548 : decode cL_law 548 = .ok (.aload_n 3, 1) := by decide +kernel
theorem dL_law_549 : decode cL_law 549 = .ok (.iconst 0, 1) := by decide +kernel
theorem dL_law_550 : decode cL_law 550 = .ok (.laload, 1) := by decide +kernel
theorem dL_law_551 : decode cL_law 551 = .ok (.iload 6, 2) := by decide +kernel
theorem dL_law_553 : decode cL_law 553 = .ok (.i2l, 1) := by decide +kernel
theorem dL_law_554 : decode cL_law 554 = .ok (.lcmp, 1) := by decide +kernel
theorem dL_law_555 : decode cL_law 555 = .ok (.ifCond .eq 5, 3) := by decide +kernel
theorem dL_law_558 : decode cL_law 558 = .ok (.iconst 0, 1) := by decide +kernel
theorem dL_law_559 : decode cL_law 559 = .ok (.ireturn, 1) := by decide +kernel
theorem dL_law_560 : decode cL_law 560 = .ok (.goto 1015, 3) := by decide +kernel
theorem dL_law_563 : decode cL_law 563 = .ok (.aload_n 1, 1) := by decide +kernel
theorem dL_law_564 : decode cL_law 564 = .ok (.aload_n 0, 1) := by decide +kernel
theorem dL_law_565 : decode cL_law 565 = .ok (.iload 4, 2) := by decide +kernel
theorem dL_law_567 : decode cL_law 567 = .ok (.iconst 1, 1) := by decide +kernel
theorem dL_law_568 : decode cL_law 568 = .ok (.iadd, 1) := by decide +kernel
theorem dL_law_569 : decode cL_law 569 = .ok (.iaload, 1) := by decide +kernel
theorem dL_law_570 : decode cL_law 570 = .ok (.invokevirtual 67, 3) := by decide +kernel
theorem dL_law_573 : decode cL_law 573 = .ok (.aload_n 2, 1) := by decide +kernel
theorem dL_law_574 : decode cL_law 574 = .ok (.aload_n 0, 1) := by decide +kernel
theorem dL_law_575 : decode cL_law 575 = .ok (.iload 4, 2) := by decide +kernel
theorem dL_law_577 : decode cL_law 577 = .ok (.iconst 1, 1) := by decide +kernel
theorem dL_law_578 : decode cL_law 578 = .ok (.iadd, 1) := by decide +kernel
theorem dL_law_579 : decode cL_law 579 = .ok (.iaload, 1) := by decide +kernel
theorem dL_law_580 : decode cL_law 580 = .ok (.invokevirtual 70, 3) := by decide +kernel
theorem dL_law_583 : decode cL_law 583 = .ok (.if_icmp .eq 992, 3) := by decide +kernel
theorem dL_law_586 : decode cL_law 586 = .ok (.iconst 0, 1) := by decide +kernel
theorem dL_law_587 : decode cL_law 587 = .ok (.ireturn, 1) := by decide +kernel
theorem dL_law_588 : decode cL_law 588 = .ok (.aload_n 1, 1) := by decide +kernel
theorem dL_law_589 : decode cL_law 589 = .ok (.aload_n 0, 1) := by decide +kernel
theorem dL_law_590 : decode cL_law 590 = .ok (.iload 4, 2) := by decide +kernel
theorem dL_law_592 : decode cL_law 592 = .ok (.iconst 1, 1) := by decide +kernel
theorem dL_law_593 : decode cL_law 593 = .ok (.iadd, 1) := by decide +kernel
theorem dL_law_594 : decode cL_law 594 = .ok (.iaload, 1) := by decide +kernel
theorem dL_law_595 : decode cL_law 595 = .ok (.invokevirtual 71, 3) := by decide +kernel
theorem dL_law_598 : decode cL_law 598 = .ok (.aload_n 2, 1) := by decide +kernel
theorem dL_law_599 : decode cL_law 599 = .ok (.aload_n 0, 1) := by decide +kernel
theorem dL_law_600 : decode cL_law 600 = .ok (.iload 4, 2) := by decide +kernel
theorem dL_law_602 : decode cL_law 602 = .ok (.iconst 1, 1) := by decide +kernel
theorem dL_law_603 : decode cL_law 603 = .ok (.iadd, 1) := by decide +kernel
theorem dL_law_604 : decode cL_law 604 = .ok (.iaload, 1) := by decide +kernel
theorem dL_law_605 : decode cL_law 605 = .ok (.invokevirtual 74, 3) := by decide +kernel
theorem dL_law_608 : decode cL_law 608 = .ok (.if_icmp .eq 967, 3) := by decide +kernel
theorem dL_law_611 : decode cL_law 611 = .ok (.iconst 0, 1) := by decide +kernel
theorem dL_law_612 : decode cL_law 612 = .ok (.ireturn, 1) := by decide +kernel
theorem dL_law_613 : decode cL_law 613 = .ok (.aload_n 1, 1) := by decide +kernel
theorem dL_law_614 : decode cL_law 614 = .ok (.aload_n 0, 1) := by decide +kernel
theorem dL_law_615 : decode cL_law 615 = .ok (.iload 4, 2) := by decide +kernel
theorem dL_law_617 : decode cL_law 617 = .ok (.iconst 1, 1) := by decide +kernel
theorem dL_law_618 : decode cL_law 618 = .ok (.iadd, 1) := by decide +kernel
theorem dL_law_619 : decode cL_law 619 = .ok (.iaload, 1) := by decide +kernel
theorem dL_law_620 : decode cL_law 620 = .ok (.aload_n 0, 1) := by decide +kernel
theorem dL_law_621 : decode cL_law 621 = .ok (.iload 4, 2) := by decide +kernel
theorem dL_law_623 : decode cL_law 623 = .ok (.iconst 2, 1) := by decide +kernel
theorem dL_law_624 : decode cL_law 624 = .ok (.iadd, 1) := by decide +kernel
theorem dL_law_625 : decode cL_law 625 = .ok (.iaload, 1) := by decide +kernel
theorem dL_law_626 : decode cL_law 626 = .ok (.aload_n 0, 1) := by decide +kernel
theorem dL_law_627 : decode cL_law 627 = .ok (.iload 4, 2) := by decide +kernel
theorem dL_law_629 : decode cL_law 629 = .ok (.iconst 3, 1) := by decide +kernel
theorem dL_law_630 : decode cL_law 630 = .ok (.iadd, 1) := by decide +kernel
theorem dL_law_631 : decode cL_law 631 = .ok (.iaload, 1) := by decide +kernel
theorem dL_law_632 : decode cL_law 632 = .ok (.aload_n 0, 1) := by decide +kernel
theorem dL_law_633 : decode cL_law 633 = .ok (.iload 4, 2) := by decide +kernel
theorem dL_law_635 : decode cL_law 635 = .ok (.iconst 4, 1) := by decide +kernel
theorem dL_law_636 : decode cL_law 636 = .ok (.iadd, 1) := by decide +kernel
theorem dL_law_637 : decode cL_law 637 = .ok (.iaload, 1) := by decide +kernel
theorem dL_law_638 : decode cL_law 638 = .ok (.invokevirtual 75, 3) := by decide +kernel
theorem dL_law_641 : decode cL_law 641 = .ok (.aload_n 2, 1) := by decide +kernel
theorem dL_law_642 : decode cL_law 642 = .ok (.aload_n 0, 1) := by decide +kernel
theorem dL_law_643 : decode cL_law 643 = .ok (.iload 4, 2) := by decide +kernel
theorem dL_law_645 : decode cL_law 645 = .ok (.iconst 1, 1) := by decide +kernel
theorem dL_law_646 : decode cL_law 646 = .ok (.iadd, 1) := by decide +kernel
theorem dL_law_647 : decode cL_law 647 = .ok (.iaload, 1) := by decide +kernel
theorem dL_law_648 : decode cL_law 648 = .ok (.aload_n 0, 1) := by decide +kernel
theorem dL_law_649 : decode cL_law 649 = .ok (.iload 4, 2) := by decide +kernel
theorem dL_law_651 : decode cL_law 651 = .ok (.iconst 2, 1) := by decide +kernel
theorem dL_law_652 : decode cL_law 652 = .ok (.iadd, 1) := by decide +kernel
theorem dL_law_653 : decode cL_law 653 = .ok (.iaload, 1) := by decide +kernel
theorem dL_law_654 : decode cL_law 654 = .ok (.aload_n 0, 1) := by decide +kernel
theorem dL_law_655 : decode cL_law 655 = .ok (.iload 4, 2) := by decide +kernel
theorem dL_law_657 : decode cL_law 657 = .ok (.iconst 3, 1) := by decide +kernel
theorem dL_law_658 : decode cL_law 658 = .ok (.iadd, 1) := by decide +kernel
theorem dL_law_659 : decode cL_law 659 = .ok (.iaload, 1) := by decide +kernel
theorem dL_law_660 : decode cL_law 660 = .ok (.aload_n 0, 1) := by decide +kernel
theorem dL_law_661 : decode cL_law 661 = .ok (.iload 4, 2) := by decide +kernel
theorem dL_law_663 : decode cL_law 663 = .ok (.iconst 4, 1) := by decide +kernel
theorem dL_law_664 : decode cL_law 664 = .ok (.iadd, 1) := by decide +kernel
theorem dL_law_665 : decode cL_law 665 = .ok (.iaload, 1) := by decide +kernel
theorem dL_law_666 : decode cL_law 666 = .ok (.invokevirtual 79, 3) := by decide +kernel
theorem dL_law_669 : decode cL_law 669 = .ok (.if_icmp .eq 906, 3) := by decide +kernel
theorem dL_law_672 : decode cL_law 672 = .ok (.iconst 0, 1) := by decide +kernel
theorem dL_law_673 : decode cL_law 673 = .ok (.ireturn, 1) := by decide +kernel
theorem dL_law_674 : decode cL_law 674 = .ok (.aload_n 1, 1) := by decide +kernel
theorem dL_law_675 : decode cL_law 675 = .ok (.aload_n 0, 1) := by decide +kernel
theorem dL_law_676 : decode cL_law 676 = .ok (.iload 4, 2) := by decide +kernel
theorem dL_law_678 : decode cL_law 678 = .ok (.iconst 1, 1) := by decide +kernel
theorem dL_law_679 : decode cL_law 679 = .ok (.iadd, 1) := by decide +kernel
theorem dL_law_680 : decode cL_law 680 = .ok (.iaload, 1) := by decide +kernel
theorem dL_law_681 : decode cL_law 681 = .ok (.aload_n 0, 1) := by decide +kernel
theorem dL_law_682 : decode cL_law 682 = .ok (.iload 4, 2) := by decide +kernel
theorem dL_law_684 : decode cL_law 684 = .ok (.iconst 2, 1) := by decide +kernel
theorem dL_law_685 : decode cL_law 685 = .ok (.iadd, 1) := by decide +kernel
theorem dL_law_686 : decode cL_law 686 = .ok (.iaload, 1) := by decide +kernel
theorem dL_law_687 : decode cL_law 687 = .ok (.invokevirtual 80, 3) := by decide +kernel
theorem dL_law_690 : decode cL_law 690 = .ok (.aload_n 2, 1) := by decide +kernel
theorem dL_law_691 : decode cL_law 691 = .ok (.aload_n 0, 1) := by decide +kernel
theorem dL_law_692 : decode cL_law 692 = .ok (.iload 4, 2) := by decide +kernel
theorem dL_law_694 : decode cL_law 694 = .ok (.iconst 1, 1) := by decide +kernel
theorem dL_law_695 : decode cL_law 695 = .ok (.iadd, 1) := by decide +kernel
theorem dL_law_696 : decode cL_law 696 = .ok (.iaload, 1) := by decide +kernel
theorem dL_law_697 : decode cL_law 697 = .ok (.aload_n 0, 1) := by decide +kernel
theorem dL_law_698 : decode cL_law 698 = .ok (.iload 4, 2) := by decide +kernel
theorem dL_law_700 : decode cL_law 700 = .ok (.iconst 2, 1) := by decide +kernel
theorem dL_law_701 : decode cL_law 701 = .ok (.iadd, 1) := by decide +kernel
theorem dL_law_702 : decode cL_law 702 = .ok (.iaload, 1) := by decide +kernel
theorem dL_law_703 : decode cL_law 703 = .ok (.invokevirtual 83, 3) := by decide +kernel
theorem dL_law_706 : decode cL_law 706 = .ok (.if_icmp .eq 869, 3) := by decide +kernel
theorem dL_law_709 : decode cL_law 709 = .ok (.iconst 0, 1) := by decide +kernel
theorem dL_law_710 : decode cL_law 710 = .ok (.ireturn, 1) := by decide +kernel
theorem dL_law_711 : decode cL_law 711 = .ok (.aload_n 1, 1) := by decide +kernel
theorem dL_law_712 : decode cL_law 712 = .ok (.aload_n 0, 1) := by decide +kernel
theorem dL_law_713 : decode cL_law 713 = .ok (.iload 4, 2) := by decide +kernel
theorem dL_law_715 : decode cL_law 715 = .ok (.iconst 1, 1) := by decide +kernel
theorem dL_law_716 : decode cL_law 716 = .ok (.iadd, 1) := by decide +kernel
theorem dL_law_717 : decode cL_law 717 = .ok (.iaload, 1) := by decide +kernel
theorem dL_law_718 : decode cL_law 718 = .ok (.aload_n 0, 1) := by decide +kernel
theorem dL_law_719 : decode cL_law 719 = .ok (.iload 4, 2) := by decide +kernel
theorem dL_law_721 : decode cL_law 721 = .ok (.iconst 2, 1) := by decide +kernel
theorem dL_law_722 : decode cL_law 722 = .ok (.iadd, 1) := by decide +kernel
theorem dL_law_723 : decode cL_law 723 = .ok (.iaload, 1) := by decide +kernel
theorem dL_law_724 : decode cL_law 724 = .ok (.aload_n 0, 1) := by decide +kernel
theorem dL_law_725 : decode cL_law 725 = .ok (.iload 4, 2) := by decide +kernel
theorem dL_law_727 : decode cL_law 727 = .ok (.iconst 3, 1) := by decide +kernel
theorem dL_law_728 : decode cL_law 728 = .ok (.iadd, 1) := by decide +kernel
theorem dL_law_729 : decode cL_law 729 = .ok (.iaload, 1) := by decide +kernel
theorem dL_law_730 : decode cL_law 730 = .ok (.invokevirtual 84, 3) := by decide +kernel
theorem dL_law_733 : decode cL_law 733 = .ok (.aload_n 2, 1) := by decide +kernel
theorem dL_law_734 : decode cL_law 734 = .ok (.aload_n 0, 1) := by decide +kernel
theorem dL_law_735 : decode cL_law 735 = .ok (.iload 4, 2) := by decide +kernel
theorem dL_law_737 : decode cL_law 737 = .ok (.iconst 1, 1) := by decide +kernel
theorem dL_law_738 : decode cL_law 738 = .ok (.iadd, 1) := by decide +kernel
theorem dL_law_739 : decode cL_law 739 = .ok (.iaload, 1) := by decide +kernel
theorem dL_law_740 : decode cL_law 740 = .ok (.aload_n 0, 1) := by decide +kernel
theorem dL_law_741 : decode cL_law 741 = .ok (.iload 4, 2) := by decide +kernel
theorem dL_law_743 : decode cL_law 743 = .ok (.iconst 2, 1) := by decide +kernel
theorem dL_law_744 : decode cL_law 744 = .ok (.iadd, 1) := by decide +kernel
theorem dL_law_745 : decode cL_law 745 = .ok (.iaload, 1) := by decide +kernel
theorem dL_law_746 : decode cL_law 746 = .ok (.aload_n 0, 1) := by decide +kernel
theorem dL_law_747 : decode cL_law 747 = .ok (.iload 4, 2) := by decide +kernel
theorem dL_law_749 : decode cL_law 749 = .ok (.iconst 3, 1) := by decide +kernel
theorem dL_law_750 : decode cL_law 750 = .ok (.iadd, 1) := by decide +kernel
theorem dL_law_751 : decode cL_law 751 = .ok (.iaload, 1) := by decide +kernel
theorem dL_law_752 : decode cL_law 752 = .ok (.invokevirtual 88, 3) := by decide +kernel
theorem dL_law_755 : decode cL_law 755 = .ok (.if_icmp .eq 820, 3) := by decide +kernel
theorem dL_law_758 : decode cL_law 758 = .ok (.iconst 0, 1) := by decide +kernel
theorem dL_law_759 : decode cL_law 759 = .ok (.ireturn, 1) := by decide +kernel
theorem dL_law_760 : decode cL_law 760 = .ok (.aload_n 1, 1) := by decide +kernel
theorem dL_law_761 : decode cL_law 761 = .ok (.aload_n 0, 1) := by decide +kernel
theorem dL_law_762 : decode cL_law 762 = .ok (.iload 4, 2) := by decide +kernel
theorem dL_law_764 : decode cL_law 764 = .ok (.iconst 1, 1) := by decide +kernel
theorem dL_law_765 : decode cL_law 765 = .ok (.iadd, 1) := by decide +kernel
theorem dL_law_766 : decode cL_law 766 = .ok (.iaload, 1) := by decide +kernel
theorem dL_law_767 : decode cL_law 767 = .ok (.aload_n 0, 1) := by decide +kernel
theorem dL_law_768 : decode cL_law 768 = .ok (.iload 4, 2) := by decide +kernel
theorem dL_law_770 : decode cL_law 770 = .ok (.iconst 2, 1) := by decide +kernel
theorem dL_law_771 : decode cL_law 771 = .ok (.iadd, 1) := by decide +kernel
theorem dL_law_772 : decode cL_law 772 = .ok (.iaload, 1) := by decide +kernel
theorem dL_law_773 : decode cL_law 773 = .ok (.aload_n 0, 1) := by decide +kernel
theorem dL_law_774 : decode cL_law 774 = .ok (.iload 4, 2) := by decide +kernel
theorem dL_law_776 : decode cL_law 776 = .ok (.iconst 3, 1) := by decide +kernel
theorem dL_law_777 : decode cL_law 777 = .ok (.iadd, 1) := by decide +kernel
theorem dL_law_778 : decode cL_law 778 = .ok (.iaload, 1) := by decide +kernel
theorem dL_law_779 : decode cL_law 779 = .ok (.invokevirtual 89, 3) := by decide +kernel
theorem dL_law_782 : decode cL_law 782 = .ok (.aload_n 2, 1) := by decide +kernel
theorem dL_law_783 : decode cL_law 783 = .ok (.aload_n 0, 1) := by decide +kernel
theorem dL_law_784 : decode cL_law 784 = .ok (.iload 4, 2) := by decide +kernel
theorem dL_law_786 : decode cL_law 786 = .ok (.iconst 1, 1) := by decide +kernel
theorem dL_law_787 : decode cL_law 787 = .ok (.iadd, 1) := by decide +kernel
theorem dL_law_788 : decode cL_law 788 = .ok (.iaload, 1) := by decide +kernel
theorem dL_law_789 : decode cL_law 789 = .ok (.aload_n 0, 1) := by decide +kernel
theorem dL_law_790 : decode cL_law 790 = .ok (.iload 4, 2) := by decide +kernel
theorem dL_law_792 : decode cL_law 792 = .ok (.iconst 2, 1) := by decide +kernel
theorem dL_law_793 : decode cL_law 793 = .ok (.iadd, 1) := by decide +kernel
theorem dL_law_794 : decode cL_law 794 = .ok (.iaload, 1) := by decide +kernel
theorem dL_law_795 : decode cL_law 795 = .ok (.aload_n 0, 1) := by decide +kernel
theorem dL_law_796 : decode cL_law 796 = .ok (.iload 4, 2) := by decide +kernel
theorem dL_law_798 : decode cL_law 798 = .ok (.iconst 3, 1) := by decide +kernel
theorem dL_law_799 : decode cL_law 799 = .ok (.iadd, 1) := by decide +kernel
theorem dL_law_800 : decode cL_law 800 = .ok (.iaload, 1) := by decide +kernel
theorem dL_law_801 : decode cL_law 801 = .ok (.invokevirtual 92, 3) := by decide +kernel
theorem dL_law_804 : decode cL_law 804 = .ok (.if_icmp .eq 771, 3) := by decide +kernel
theorem dL_law_807 : decode cL_law 807 = .ok (.iconst 0, 1) := by decide +kernel
theorem dL_law_808 : decode cL_law 808 = .ok (.ireturn, 1) := by decide +kernel
theorem dL_law_809 : decode cL_law 809 = .ok (.aload_n 1, 1) := by decide +kernel
theorem dL_law_810 : decode cL_law 810 = .ok (.aload_n 0, 1) := by decide +kernel
theorem dL_law_811 : decode cL_law 811 = .ok (.iload 4, 2) := by decide +kernel
theorem dL_law_813 : decode cL_law 813 = .ok (.iconst 1, 1) := by decide +kernel
theorem dL_law_814 : decode cL_law 814 = .ok (.iadd, 1) := by decide +kernel
theorem dL_law_815 : decode cL_law 815 = .ok (.iaload, 1) := by decide +kernel
theorem dL_law_816 : decode cL_law 816 = .ok (.aload_n 0, 1) := by decide +kernel
theorem dL_law_817 : decode cL_law 817 = .ok (.iload 4, 2) := by decide +kernel
theorem dL_law_819 : decode cL_law 819 = .ok (.iconst 2, 1) := by decide +kernel
theorem dL_law_820 : decode cL_law 820 = .ok (.iadd, 1) := by decide +kernel
theorem dL_law_821 : decode cL_law 821 = .ok (.iaload, 1) := by decide +kernel
theorem dL_law_822 : decode cL_law 822 = .ok (.invokevirtual 93, 3) := by decide +kernel
theorem dL_law_825 : decode cL_law 825 = .ok (.aload_n 2, 1) := by decide +kernel
theorem dL_law_826 : decode cL_law 826 = .ok (.aload_n 0, 1) := by decide +kernel
theorem dL_law_827 : decode cL_law 827 = .ok (.iload 4, 2) := by decide +kernel
theorem dL_law_829 : decode cL_law 829 = .ok (.iconst 1, 1) := by decide +kernel
theorem dL_law_830 : decode cL_law 830 = .ok (.iadd, 1) := by decide +kernel
theorem dL_law_831 : decode cL_law 831 = .ok (.iaload, 1) := by decide +kernel
theorem dL_law_832 : decode cL_law 832 = .ok (.aload_n 0, 1) := by decide +kernel
theorem dL_law_833 : decode cL_law 833 = .ok (.iload 4, 2) := by decide +kernel
theorem dL_law_835 : decode cL_law 835 = .ok (.iconst 2, 1) := by decide +kernel
theorem dL_law_836 : decode cL_law 836 = .ok (.iadd, 1) := by decide +kernel
theorem dL_law_837 : decode cL_law 837 = .ok (.iaload, 1) := by decide +kernel
theorem dL_law_838 : decode cL_law 838 = .ok (.invokevirtual 96, 3) := by decide +kernel
theorem dL_law_841 : decode cL_law 841 = .ok (.if_icmp .eq 734, 3) := by decide +kernel
theorem dL_law_844 : decode cL_law 844 = .ok (.iconst 0, 1) := by decide +kernel
theorem dL_law_845 : decode cL_law 845 = .ok (.ireturn, 1) := by decide +kernel
theorem dL_law_846 : decode cL_law 846 = .ok (.aload_n 1, 1) := by decide +kernel
theorem dL_law_847 : decode cL_law 847 = .ok (.aload_n 0, 1) := by decide +kernel
theorem dL_law_848 : decode cL_law 848 = .ok (.iload 4, 2) := by decide +kernel
theorem dL_law_850 : decode cL_law 850 = .ok (.iconst 1, 1) := by decide +kernel
theorem dL_law_851 : decode cL_law 851 = .ok (.iadd, 1) := by decide +kernel
theorem dL_law_852 : decode cL_law 852 = .ok (.iaload, 1) := by decide +kernel
theorem dL_law_853 : decode cL_law 853 = .ok (.aload_n 0, 1) := by decide +kernel
theorem dL_law_854 : decode cL_law 854 = .ok (.iload 4, 2) := by decide +kernel
theorem dL_law_856 : decode cL_law 856 = .ok (.iconst 2, 1) := by decide +kernel
theorem dL_law_857 : decode cL_law 857 = .ok (.iadd, 1) := by decide +kernel
theorem dL_law_858 : decode cL_law 858 = .ok (.iaload, 1) := by decide +kernel
theorem dL_law_859 : decode cL_law 859 = .ok (.aload_n 0, 1) := by decide +kernel
theorem dL_law_860 : decode cL_law 860 = .ok (.iload 4, 2) := by decide +kernel
theorem dL_law_862 : decode cL_law 862 = .ok (.iconst 3, 1) := by decide +kernel
theorem dL_law_863 : decode cL_law 863 = .ok (.iadd, 1) := by decide +kernel
theorem dL_law_864 : decode cL_law 864 = .ok (.iaload, 1) := by decide +kernel
theorem dL_law_865 : decode cL_law 865 = .ok (.invokevirtual 97, 3) := by decide +kernel
theorem dL_law_868 : decode cL_law 868 = .ok (.aload_n 2, 1) := by decide +kernel
theorem dL_law_869 : decode cL_law 869 = .ok (.aload_n 0, 1) := by decide +kernel
theorem dL_law_870 : decode cL_law 870 = .ok (.iload 4, 2) := by decide +kernel
theorem dL_law_872 : decode cL_law 872 = .ok (.iconst 1, 1) := by decide +kernel
theorem dL_law_873 : decode cL_law 873 = .ok (.iadd, 1) := by decide +kernel
theorem dL_law_874 : decode cL_law 874 = .ok (.iaload, 1) := by decide +kernel
theorem dL_law_875 : decode cL_law 875 = .ok (.aload_n 0, 1) := by decide +kernel
theorem dL_law_876 : decode cL_law 876 = .ok (.iload 4, 2) := by decide +kernel
theorem dL_law_878 : decode cL_law 878 = .ok (.iconst 2, 1) := by decide +kernel
theorem dL_law_879 : decode cL_law 879 = .ok (.iadd, 1) := by decide +kernel
theorem dL_law_880 : decode cL_law 880 = .ok (.iaload, 1) := by decide +kernel
theorem dL_law_881 : decode cL_law 881 = .ok (.aload_n 0, 1) := by decide +kernel
theorem dL_law_882 : decode cL_law 882 = .ok (.iload 4, 2) := by decide +kernel
theorem dL_law_884 : decode cL_law 884 = .ok (.iconst 3, 1) := by decide +kernel
theorem dL_law_885 : decode cL_law 885 = .ok (.iadd, 1) := by decide +kernel
theorem dL_law_886 : decode cL_law 886 = .ok (.iaload, 1) := by decide +kernel
theorem dL_law_887 : decode cL_law 887 = .ok (.invokevirtual 100, 3) := by decide +kernel
theorem dL_law_890 : decode cL_law 890 = .ok (.if_icmp .eq 685, 3) := by decide +kernel
theorem dL_law_893 : decode cL_law 893 = .ok (.iconst 0, 1) := by decide +kernel
theorem dL_law_894 : decode cL_law 894 = .ok (.ireturn, 1) := by decide +kernel
theorem dL_law_895 : decode cL_law 895 = .ok (.aload_n 1, 1) := by decide +kernel
theorem dL_law_896 : decode cL_law 896 = .ok (.aload_n 0, 1) := by decide +kernel
theorem dL_law_897 : decode cL_law 897 = .ok (.iload 4, 2) := by decide +kernel
theorem dL_law_899 : decode cL_law 899 = .ok (.iconst 1, 1) := by decide +kernel
theorem dL_law_900 : decode cL_law 900 = .ok (.iadd, 1) := by decide +kernel
theorem dL_law_901 : decode cL_law 901 = .ok (.iaload, 1) := by decide +kernel
theorem dL_law_902 : decode cL_law 902 = .ok (.aload_n 0, 1) := by decide +kernel
theorem dL_law_903 : decode cL_law 903 = .ok (.iload 4, 2) := by decide +kernel
theorem dL_law_905 : decode cL_law 905 = .ok (.iconst 2, 1) := by decide +kernel
theorem dL_law_906 : decode cL_law 906 = .ok (.iadd, 1) := by decide +kernel
theorem dL_law_907 : decode cL_law 907 = .ok (.iaload, 1) := by decide +kernel
theorem dL_law_908 : decode cL_law 908 = .ok (.invokevirtual 101, 3) := by decide +kernel
theorem dL_law_911 : decode cL_law 911 = .ok (.aload_n 2, 1) := by decide +kernel
theorem dL_law_912 : decode cL_law 912 = .ok (.aload_n 0, 1) := by decide +kernel
theorem dL_law_913 : decode cL_law 913 = .ok (.iload 4, 2) := by decide +kernel
theorem dL_law_915 : decode cL_law 915 = .ok (.iconst 1, 1) := by decide +kernel
theorem dL_law_916 : decode cL_law 916 = .ok (.iadd, 1) := by decide +kernel
theorem dL_law_917 : decode cL_law 917 = .ok (.iaload, 1) := by decide +kernel
theorem dL_law_918 : decode cL_law 918 = .ok (.aload_n 0, 1) := by decide +kernel
theorem dL_law_919 : decode cL_law 919 = .ok (.iload 4, 2) := by decide +kernel
theorem dL_law_921 : decode cL_law 921 = .ok (.iconst 2, 1) := by decide +kernel
theorem dL_law_922 : decode cL_law 922 = .ok (.iadd, 1) := by decide +kernel
theorem dL_law_923 : decode cL_law 923 = .ok (.iaload, 1) := by decide +kernel
theorem dL_law_924 : decode cL_law 924 = .ok (.invokevirtual 104, 3) := by decide +kernel
theorem dL_law_927 : decode cL_law 927 = .ok (.if_icmp .eq 648, 3) := by decide +kernel
theorem dL_law_930 : decode cL_law 930 = .ok (.iconst 0, 1) := by decide +kernel
theorem dL_law_931 : decode cL_law 931 = .ok (.ireturn, 1) := by decide +kernel
theorem dL_law_932 : decode cL_law 932 = .ok (.aload_n 1, 1) := by decide +kernel
theorem dL_law_933 : decode cL_law 933 = .ok (.aload_n 0, 1) := by decide +kernel
theorem dL_law_934 : decode cL_law 934 = .ok (.iload 4, 2) := by decide +kernel
theorem dL_law_936 : decode cL_law 936 = .ok (.iconst 1, 1) := by decide +kernel
theorem dL_law_937 : decode cL_law 937 = .ok (.iadd, 1) := by decide +kernel
theorem dL_law_938 : decode cL_law 938 = .ok (.iaload, 1) := by decide +kernel
theorem dL_law_939 : decode cL_law 939 = .ok (.invokevirtual 105, 3) := by decide +kernel
theorem dL_law_942 : decode cL_law 942 = .ok (.aload_n 2, 1) := by decide +kernel
theorem dL_law_943 : decode cL_law 943 = .ok (.aload_n 0, 1) := by decide +kernel
theorem dL_law_944 : decode cL_law 944 = .ok (.iload 4, 2) := by decide +kernel
theorem dL_law_946 : decode cL_law 946 = .ok (.iconst 1, 1) := by decide +kernel
theorem dL_law_947 : decode cL_law 947 = .ok (.iadd, 1) := by decide +kernel
theorem dL_law_948 : decode cL_law 948 = .ok (.iaload, 1) := by decide +kernel
theorem dL_law_949 : decode cL_law 949 = .ok (.invokevirtual 108, 3) := by decide +kernel
theorem dL_law_952 : decode cL_law 952 = .ok (.if_icmp .eq 623, 3) := by decide +kernel
theorem dL_law_955 : decode cL_law 955 = .ok (.iconst 0, 1) := by decide +kernel
theorem dL_law_956 : decode cL_law 956 = .ok (.ireturn, 1) := by decide +kernel
theorem dL_law_957 : decode cL_law 957 = .ok (.aload_n 1, 1) := by decide +kernel
theorem dL_law_958 : decode cL_law 958 = .ok (.aload_n 0, 1) := by decide +kernel
theorem dL_law_959 : decode cL_law 959 = .ok (.iload 4, 2) := by decide +kernel
theorem dL_law_961 : decode cL_law 961 = .ok (.iconst 1, 1) := by decide +kernel
theorem dL_law_962 : decode cL_law 962 = .ok (.iadd, 1) := by decide +kernel
theorem dL_law_963 : decode cL_law 963 = .ok (.iaload, 1) := by decide +kernel
theorem dL_law_964 : decode cL_law 964 = .ok (.aload_n 0, 1) := by decide +kernel
theorem dL_law_965 : decode cL_law 965 = .ok (.iload 4, 2) := by decide +kernel
theorem dL_law_967 : decode cL_law 967 = .ok (.iconst 2, 1) := by decide +kernel
theorem dL_law_968 : decode cL_law 968 = .ok (.iadd, 1) := by decide +kernel
theorem dL_law_969 : decode cL_law 969 = .ok (.iaload, 1) := by decide +kernel
theorem dL_law_970 : decode cL_law 970 = .ok (.aload_n 0, 1) := by decide +kernel
theorem dL_law_971 : decode cL_law 971 = .ok (.iload 4, 2) := by decide +kernel
theorem dL_law_973 : decode cL_law 973 = .ok (.iconst 3, 1) := by decide +kernel
theorem dL_law_974 : decode cL_law 974 = .ok (.iadd, 1) := by decide +kernel
theorem dL_law_975 : decode cL_law 975 = .ok (.iaload, 1) := by decide +kernel
theorem dL_law_976 : decode cL_law 976 = .ok (.invokevirtual 109, 3) := by decide +kernel
theorem dL_law_979 : decode cL_law 979 = .ok (.aload_n 2, 1) := by decide +kernel
theorem dL_law_980 : decode cL_law 980 = .ok (.aload_n 0, 1) := by decide +kernel
theorem dL_law_981 : decode cL_law 981 = .ok (.iload 4, 2) := by decide +kernel
theorem dL_law_983 : decode cL_law 983 = .ok (.iconst 1, 1) := by decide +kernel
theorem dL_law_984 : decode cL_law 984 = .ok (.iadd, 1) := by decide +kernel
theorem dL_law_985 : decode cL_law 985 = .ok (.iaload, 1) := by decide +kernel
theorem dL_law_986 : decode cL_law 986 = .ok (.aload_n 0, 1) := by decide +kernel
theorem dL_law_987 : decode cL_law 987 = .ok (.iload 4, 2) := by decide +kernel
theorem dL_law_989 : decode cL_law 989 = .ok (.iconst 2, 1) := by decide +kernel
theorem dL_law_990 : decode cL_law 990 = .ok (.iadd, 1) := by decide +kernel
theorem dL_law_991 : decode cL_law 991 = .ok (.iaload, 1) := by decide +kernel
theorem dL_law_992 : decode cL_law 992 = .ok (.aload_n 0, 1) := by decide +kernel
theorem dL_law_993 : decode cL_law 993 = .ok (.iload 4, 2) := by decide +kernel
theorem dL_law_995 : decode cL_law 995 = .ok (.iconst 3, 1) := by decide +kernel
theorem dL_law_996 : decode cL_law 996 = .ok (.iadd, 1) := by decide +kernel
theorem dL_law_997 : decode cL_law 997 = .ok (.iaload, 1) := by decide +kernel
theorem dL_law_998 : decode cL_law 998 = .ok (.invokevirtual 112, 3) := by decide +kernel
theorem dL_law_1001 : decode cL_law 1001 = .ok (.if_icmp .eq 574, 3) := by decide +kernel
theorem dL_law_1004 : decode cL_law 1004 = .ok (.iconst 0, 1) := by decide +kernel
theorem dL_law_1005 : decode cL_law 1005 = .ok (.ireturn, 1) := by decide +kernel
theorem dL_law_1006 : decode cL_law 1006 = .ok (.aload_n 1, 1) := by decide +kernel
theorem dL_law_1007 : decode cL_law 1007 = .ok (.aload_n 0, 1) := by decide +kernel
theorem dL_law_1008 : decode cL_law 1008 = .ok (.iload 4, 2) := by decide +kernel
theorem dL_law_1010 : decode cL_law 1010 = .ok (.iconst 1, 1) := by decide +kernel
theorem dL_law_1011 : decode cL_law 1011 = .ok (.iadd, 1) := by decide +kernel
theorem dL_law_1012 : decode cL_law 1012 = .ok (.iaload, 1) := by decide +kernel
theorem dL_law_1013 : decode cL_law 1013 = .ok (.invokevirtual 113, 3) := by decide +kernel
theorem dL_law_1016 : decode cL_law 1016 = .ok (.aload_n 2, 1) := by decide +kernel
theorem dL_law_1017 : decode cL_law 1017 = .ok (.aload_n 0, 1) := by decide +kernel
theorem dL_law_1018 : decode cL_law 1018 = .ok (.iload 4, 2) := by decide +kernel
theorem dL_law_1020 : decode cL_law 1020 = .ok (.iconst 1, 1) := by decide +kernel
theorem dL_law_1021 : decode cL_law 1021 = .ok (.iadd, 1) := by decide +kernel
theorem dL_law_1022 : decode cL_law 1022 = .ok (.iaload, 1) := by decide +kernel
theorem dL_law_1023 : decode cL_law 1023 = .ok (.invokevirtual 116, 3) := by decide +kernel
theorem dL_law_1026 : decode cL_law 1026 = .ok (.if_icmp .eq 549, 3) := by decide +kernel
theorem dL_law_1029 : decode cL_law 1029 = .ok (.iconst 0, 1) := by decide +kernel
theorem dL_law_1030 : decode cL_law 1030 = .ok (.ireturn, 1) := by decide +kernel
theorem dL_law_1031 : decode cL_law 1031 = .ok (.aload_n 1, 1) := by decide +kernel
theorem dL_law_1032 : decode cL_law 1032 = .ok (.aload_n 0, 1) := by decide +kernel
theorem dL_law_1033 : decode cL_law 1033 = .ok (.iload 4, 2) := by decide +kernel
theorem dL_law_1035 : decode cL_law 1035 = .ok (.iconst 1, 1) := by decide +kernel
theorem dL_law_1036 : decode cL_law 1036 = .ok (.iadd, 1) := by decide +kernel
theorem dL_law_1037 : decode cL_law 1037 = .ok (.iaload, 1) := by decide +kernel
theorem dL_law_1038 : decode cL_law 1038 = .ok (.aload_n 0, 1) := by decide +kernel
theorem dL_law_1039 : decode cL_law 1039 = .ok (.iload 4, 2) := by decide +kernel
theorem dL_law_1041 : decode cL_law 1041 = .ok (.iconst 2, 1) := by decide +kernel
theorem dL_law_1042 : decode cL_law 1042 = .ok (.iadd, 1) := by decide +kernel
theorem dL_law_1043 : decode cL_law 1043 = .ok (.iaload, 1) := by decide +kernel
theorem dL_law_1044 : decode cL_law 1044 = .ok (.invokevirtual 117, 3) := by decide +kernel
theorem dL_law_1047 : decode cL_law 1047 = .ok (.aload_n 2, 1) := by decide +kernel
theorem dL_law_1048 : decode cL_law 1048 = .ok (.aload_n 0, 1) := by decide +kernel
theorem dL_law_1049 : decode cL_law 1049 = .ok (.iload 4, 2) := by decide +kernel
theorem dL_law_1051 : decode cL_law 1051 = .ok (.iconst 1, 1) := by decide +kernel
theorem dL_law_1052 : decode cL_law 1052 = .ok (.iadd, 1) := by decide +kernel
theorem dL_law_1053 : decode cL_law 1053 = .ok (.iaload, 1) := by decide +kernel
theorem dL_law_1054 : decode cL_law 1054 = .ok (.aload_n 0, 1) := by decide +kernel
theorem dL_law_1055 : decode cL_law 1055 = .ok (.iload 4, 2) := by decide +kernel
theorem dL_law_1057 : decode cL_law 1057 = .ok (.iconst 2, 1) := by decide +kernel
theorem dL_law_1058 : decode cL_law 1058 = .ok (.iadd, 1) := by decide +kernel
theorem dL_law_1059 : decode cL_law 1059 = .ok (.iaload, 1) := by decide +kernel
theorem dL_law_1060 : decode cL_law 1060 = .ok (.invokevirtual 120, 3) := by decide +kernel
theorem dL_law_1063 : decode cL_law 1063 = .ok (.if_icmp .eq 512, 3) := by decide +kernel
theorem dL_law_1066 : decode cL_law 1066 = .ok (.iconst 0, 1) := by decide +kernel
theorem dL_law_1067 : decode cL_law 1067 = .ok (.ireturn, 1) := by decide +kernel
theorem dL_law_1068 : decode cL_law 1068 = .ok (.aload_n 1, 1) := by decide +kernel
theorem dL_law_1069 : decode cL_law 1069 = .ok (.invokevirtual 121, 3) := by decide +kernel
theorem dL_law_1072 : decode cL_law 1072 = .ok (.aload_n 2, 1) := by decide +kernel
theorem dL_law_1073 : decode cL_law 1073 = .ok (.invokevirtual 124, 3) := by decide +kernel
theorem dL_law_1076 : decode cL_law 1076 = .ok (.if_icmp .eq 499, 3) := by decide +kernel
theorem dL_law_1079 : decode cL_law 1079 = .ok (.iconst 0, 1) := by decide +kernel
theorem dL_law_1080 : decode cL_law 1080 = .ok (.ireturn, 1) := by decide +kernel
theorem dL_law_1081 : decode cL_law 1081 = .ok (.aload_n 1, 1) := by decide +kernel
theorem dL_law_1082 : decode cL_law 1082 = .ok (.aload_n 0, 1) := by decide +kernel
theorem dL_law_1083 : decode cL_law 1083 = .ok (.iload 4, 2) := by decide +kernel
theorem dL_law_1085 : decode cL_law 1085 = .ok (.iconst 1, 1) := by decide +kernel
theorem dL_law_1086 : decode cL_law 1086 = .ok (.iadd, 1) := by decide +kernel
theorem dL_law_1087 : decode cL_law 1087 = .ok (.iaload, 1) := by decide +kernel
theorem dL_law_1088 : decode cL_law 1088 = .ok (.invokevirtual 125, 3) := by decide +kernel
theorem dL_law_1091 : decode cL_law 1091 = .ok (.aload_n 2, 1) := by decide +kernel
theorem dL_law_1092 : decode cL_law 1092 = .ok (.aload_n 0, 1) := by decide +kernel
theorem dL_law_1093 : decode cL_law 1093 = .ok (.iload 4, 2) := by decide +kernel
theorem dL_law_1095 : decode cL_law 1095 = .ok (.iconst 1, 1) := by decide +kernel
theorem dL_law_1096 : decode cL_law 1096 = .ok (.iadd, 1) := by decide +kernel
theorem dL_law_1097 : decode cL_law 1097 = .ok (.iaload, 1) := by decide +kernel
theorem dL_law_1098 : decode cL_law 1098 = .ok (.invokevirtual 128, 3) := by decide +kernel
theorem dL_law_1101 : decode cL_law 1101 = .ok (.if_icmp .eq 474, 3) := by decide +kernel
theorem dL_law_1104 : decode cL_law 1104 = .ok (.iconst 0, 1) := by decide +kernel
theorem dL_law_1105 : decode cL_law 1105 = .ok (.ireturn, 1) := by decide +kernel
theorem dL_law_1106 : decode cL_law 1106 = .ok (.aload_n 1, 1) := by decide +kernel
theorem dL_law_1107 : decode cL_law 1107 = .ok (.aload_n 0, 1) := by decide +kernel
theorem dL_law_1108 : decode cL_law 1108 = .ok (.iload 4, 2) := by decide +kernel
theorem dL_law_1110 : decode cL_law 1110 = .ok (.iconst 1, 1) := by decide +kernel
theorem dL_law_1111 : decode cL_law 1111 = .ok (.iadd, 1) := by decide +kernel
theorem dL_law_1112 : decode cL_law 1112 = .ok (.iaload, 1) := by decide +kernel
theorem dL_law_1113 : decode cL_law 1113 = .ok (.aload_n 0, 1) := by decide +kernel
theorem dL_law_1114 : decode cL_law 1114 = .ok (.iload 4, 2) := by decide +kernel
theorem dL_law_1116 : decode cL_law 1116 = .ok (.iconst 2, 1) := by decide +kernel
theorem dL_law_1117 : decode cL_law 1117 = .ok (.iadd, 1) := by decide +kernel
theorem dL_law_1118 : decode cL_law 1118 = .ok (.iaload, 1) := by decide +kernel
theorem dL_law_1119 : decode cL_law 1119 = .ok (.invokevirtual 129, 3) := by decide +kernel
theorem dL_law_1122 : decode cL_law 1122 = .ok (.aload_n 2, 1) := by decide +kernel
theorem dL_law_1123 : decode cL_law 1123 = .ok (.aload_n 0, 1) := by decide +kernel
theorem dL_law_1124 : decode cL_law 1124 = .ok (.iload 4, 2) := by decide +kernel
theorem dL_law_1126 : decode cL_law 1126 = .ok (.iconst 1, 1) := by decide +kernel
theorem dL_law_1127 : decode cL_law 1127 = .ok (.iadd, 1) := by decide +kernel
theorem dL_law_1128 : decode cL_law 1128 = .ok (.iaload, 1) := by decide +kernel
theorem dL_law_1129 : decode cL_law 1129 = .ok (.aload_n 0, 1) := by decide +kernel
theorem dL_law_1130 : decode cL_law 1130 = .ok (.iload 4, 2) := by decide +kernel
theorem dL_law_1132 : decode cL_law 1132 = .ok (.iconst 2, 1) := by decide +kernel
theorem dL_law_1133 : decode cL_law 1133 = .ok (.iadd, 1) := by decide +kernel
theorem dL_law_1134 : decode cL_law 1134 = .ok (.iaload, 1) := by decide +kernel
theorem dL_law_1135 : decode cL_law 1135 = .ok (.invokevirtual 132, 3) := by decide +kernel
theorem dL_law_1138 : decode cL_law 1138 = .ok (.if_icmp .eq 437, 3) := by decide +kernel
theorem dL_law_1141 : decode cL_law 1141 = .ok (.iconst 0, 1) := by decide +kernel
theorem dL_law_1142 : decode cL_law 1142 = .ok (.ireturn, 1) := by decide +kernel
theorem dL_law_1143 : decode cL_law 1143 = .ok (.aload_n 1, 1) := by decide +kernel
theorem dL_law_1144 : decode cL_law 1144 = .ok (.aload_n 0, 1) := by decide +kernel
theorem dL_law_1145 : decode cL_law 1145 = .ok (.iload 4, 2) := by decide +kernel
theorem dL_law_1147 : decode cL_law 1147 = .ok (.iconst 1, 1) := by decide +kernel
theorem dL_law_1148 : decode cL_law 1148 = .ok (.iadd, 1) := by decide +kernel
theorem dL_law_1149 : decode cL_law 1149 = .ok (.iaload, 1) := by decide +kernel
theorem dL_law_1150 : decode cL_law 1150 = .ok (.invokevirtual 133, 3) := by decide +kernel
theorem dL_law_1153 : decode cL_law 1153 = .ok (.aload_n 2, 1) := by decide +kernel
theorem dL_law_1154 : decode cL_law 1154 = .ok (.aload_n 0, 1) := by decide +kernel
theorem dL_law_1155 : decode cL_law 1155 = .ok (.iload 4, 2) := by decide +kernel
theorem dL_law_1157 : decode cL_law 1157 = .ok (.iconst 1, 1) := by decide +kernel
theorem dL_law_1158 : decode cL_law 1158 = .ok (.iadd, 1) := by decide +kernel
theorem dL_law_1159 : decode cL_law 1159 = .ok (.iaload, 1) := by decide +kernel
theorem dL_law_1160 : decode cL_law 1160 = .ok (.invokevirtual 136, 3) := by decide +kernel
theorem dL_law_1163 : decode cL_law 1163 = .ok (.if_icmp .eq 412, 3) := by decide +kernel
theorem dL_law_1166 : decode cL_law 1166 = .ok (.iconst 0, 1) := by decide +kernel
theorem dL_law_1167 : decode cL_law 1167 = .ok (.ireturn, 1) := by decide +kernel
theorem dL_law_1168 : decode cL_law 1168 = .ok (.aload_n 1, 1) := by decide +kernel
theorem dL_law_1169 : decode cL_law 1169 = .ok (.aload_n 0, 1) := by decide +kernel
theorem dL_law_1170 : decode cL_law 1170 = .ok (.iload 4, 2) := by decide +kernel
theorem dL_law_1172 : decode cL_law 1172 = .ok (.iconst 1, 1) := by decide +kernel
theorem dL_law_1173 : decode cL_law 1173 = .ok (.iadd, 1) := by decide +kernel
theorem dL_law_1174 : decode cL_law 1174 = .ok (.iaload, 1) := by decide +kernel
theorem dL_law_1175 : decode cL_law 1175 = .ok (.invokevirtual 137, 3) := by decide +kernel
theorem dL_law_1178 : decode cL_law 1178 = .ok (.aload_n 2, 1) := by decide +kernel
theorem dL_law_1179 : decode cL_law 1179 = .ok (.aload_n 0, 1) := by decide +kernel
theorem dL_law_1180 : decode cL_law 1180 = .ok (.iload 4, 2) := by decide +kernel
theorem dL_law_1182 : decode cL_law 1182 = .ok (.iconst 1, 1) := by decide +kernel
theorem dL_law_1183 : decode cL_law 1183 = .ok (.iadd, 1) := by decide +kernel
theorem dL_law_1184 : decode cL_law 1184 = .ok (.iaload, 1) := by decide +kernel
theorem dL_law_1185 : decode cL_law 1185 = .ok (.invokevirtual 140, 3) := by decide +kernel
theorem dL_law_1188 : decode cL_law 1188 = .ok (.if_icmp .eq 387, 3) := by decide +kernel
theorem dL_law_1191 : decode cL_law 1191 = .ok (.iconst 0, 1) := by decide +kernel
theorem dL_law_1192 : decode cL_law 1192 = .ok (.ireturn, 1) := by decide +kernel
theorem dL_law_1193 : decode cL_law 1193 = .ok (.aload_n 1, 1) := by decide +kernel
theorem dL_law_1194 : decode cL_law 1194 = .ok (.aload_n 0, 1) := by decide +kernel
theorem dL_law_1195 : decode cL_law 1195 = .ok (.iload 4, 2) := by decide +kernel
theorem dL_law_1197 : decode cL_law 1197 = .ok (.iconst 1, 1) := by decide +kernel
theorem dL_law_1198 : decode cL_law 1198 = .ok (.iadd, 1) := by decide +kernel
theorem dL_law_1199 : decode cL_law 1199 = .ok (.iaload, 1) := by decide +kernel
theorem dL_law_1200 : decode cL_law 1200 = .ok (.aload_n 0, 1) := by decide +kernel
theorem dL_law_1201 : decode cL_law 1201 = .ok (.iload 4, 2) := by decide +kernel
theorem dL_law_1203 : decode cL_law 1203 = .ok (.iconst 2, 1) := by decide +kernel
theorem dL_law_1204 : decode cL_law 1204 = .ok (.iadd, 1) := by decide +kernel
theorem dL_law_1205 : decode cL_law 1205 = .ok (.iaload, 1) := by decide +kernel
theorem dL_law_1206 : decode cL_law 1206 = .ok (.invokevirtual 141, 3) := by decide +kernel
theorem dL_law_1209 : decode cL_law 1209 = .ok (.aload_n 2, 1) := by decide +kernel
theorem dL_law_1210 : decode cL_law 1210 = .ok (.aload_n 0, 1) := by decide +kernel
theorem dL_law_1211 : decode cL_law 1211 = .ok (.iload 4, 2) := by decide +kernel
theorem dL_law_1213 : decode cL_law 1213 = .ok (.iconst 1, 1) := by decide +kernel
theorem dL_law_1214 : decode cL_law 1214 = .ok (.iadd, 1) := by decide +kernel
theorem dL_law_1215 : decode cL_law 1215 = .ok (.iaload, 1) := by decide +kernel
theorem dL_law_1216 : decode cL_law 1216 = .ok (.aload_n 0, 1) := by decide +kernel
theorem dL_law_1217 : decode cL_law 1217 = .ok (.iload 4, 2) := by decide +kernel
theorem dL_law_1219 : decode cL_law 1219 = .ok (.iconst 2, 1) := by decide +kernel
theorem dL_law_1220 : decode cL_law 1220 = .ok (.iadd, 1) := by decide +kernel
theorem dL_law_1221 : decode cL_law 1221 = .ok (.iaload, 1) := by decide +kernel
theorem dL_law_1222 : decode cL_law 1222 = .ok (.invokevirtual 144, 3) := by decide +kernel
theorem dL_law_1225 : decode cL_law 1225 = .ok (.if_icmp .eq 350, 3) := by decide +kernel
theorem dL_law_1228 : decode cL_law 1228 = .ok (.iconst 0, 1) := by decide +kernel
theorem dL_law_1229 : decode cL_law 1229 = .ok (.ireturn, 1) := by decide +kernel
theorem dL_law_1230 : decode cL_law 1230 = .ok (.aload_n 1, 1) := by decide +kernel
theorem dL_law_1231 : decode cL_law 1231 = .ok (.aload_n 0, 1) := by decide +kernel
theorem dL_law_1232 : decode cL_law 1232 = .ok (.iload 4, 2) := by decide +kernel
theorem dL_law_1234 : decode cL_law 1234 = .ok (.iconst 1, 1) := by decide +kernel
theorem dL_law_1235 : decode cL_law 1235 = .ok (.iadd, 1) := by decide +kernel
theorem dL_law_1236 : decode cL_law 1236 = .ok (.iaload, 1) := by decide +kernel
theorem dL_law_1237 : decode cL_law 1237 = .ok (.aload_n 0, 1) := by decide +kernel
theorem dL_law_1238 : decode cL_law 1238 = .ok (.iload 4, 2) := by decide +kernel
theorem dL_law_1240 : decode cL_law 1240 = .ok (.iconst 2, 1) := by decide +kernel
theorem dL_law_1241 : decode cL_law 1241 = .ok (.iadd, 1) := by decide +kernel
theorem dL_law_1242 : decode cL_law 1242 = .ok (.iaload, 1) := by decide +kernel
theorem dL_law_1243 : decode cL_law 1243 = .ok (.aload_n 0, 1) := by decide +kernel
theorem dL_law_1244 : decode cL_law 1244 = .ok (.iload 4, 2) := by decide +kernel
theorem dL_law_1246 : decode cL_law 1246 = .ok (.iconst 3, 1) := by decide +kernel
theorem dL_law_1247 : decode cL_law 1247 = .ok (.iadd, 1) := by decide +kernel
theorem dL_law_1248 : decode cL_law 1248 = .ok (.iaload, 1) := by decide +kernel
theorem dL_law_1249 : decode cL_law 1249 = .ok (.aload_n 0, 1) := by decide +kernel
theorem dL_law_1250 : decode cL_law 1250 = .ok (.iload 4, 2) := by decide +kernel
theorem dL_law_1252 : decode cL_law 1252 = .ok (.iconst 4, 1) := by decide +kernel
theorem dL_law_1253 : decode cL_law 1253 = .ok (.iadd, 1) := by decide +kernel
theorem dL_law_1254 : decode cL_law 1254 = .ok (.iaload, 1) := by decide +kernel
theorem dL_law_1255 : decode cL_law 1255 = .ok (.invokevirtual 145, 3) := by decide +kernel
theorem dL_law_1258 : decode cL_law 1258 = .ok (.aload_n 2, 1) := by decide +kernel
theorem dL_law_1259 : decode cL_law 1259 = .ok (.aload_n 0, 1) := by decide +kernel
theorem dL_law_1260 : decode cL_law 1260 = .ok (.iload 4, 2) := by decide +kernel
theorem dL_law_1262 : decode cL_law 1262 = .ok (.iconst 1, 1) := by decide +kernel
theorem dL_law_1263 : decode cL_law 1263 = .ok (.iadd, 1) := by decide +kernel
theorem dL_law_1264 : decode cL_law 1264 = .ok (.iaload, 1) := by decide +kernel
theorem dL_law_1265 : decode cL_law 1265 = .ok (.aload_n 0, 1) := by decide +kernel
theorem dL_law_1266 : decode cL_law 1266 = .ok (.iload 4, 2) := by decide +kernel
theorem dL_law_1268 : decode cL_law 1268 = .ok (.iconst 2, 1) := by decide +kernel
theorem dL_law_1269 : decode cL_law 1269 = .ok (.iadd, 1) := by decide +kernel
theorem dL_law_1270 : decode cL_law 1270 = .ok (.iaload, 1) := by decide +kernel
theorem dL_law_1271 : decode cL_law 1271 = .ok (.aload_n 0, 1) := by decide +kernel
theorem dL_law_1272 : decode cL_law 1272 = .ok (.iload 4, 2) := by decide +kernel
theorem dL_law_1274 : decode cL_law 1274 = .ok (.iconst 3, 1) := by decide +kernel
theorem dL_law_1275 : decode cL_law 1275 = .ok (.iadd, 1) := by decide +kernel
theorem dL_law_1276 : decode cL_law 1276 = .ok (.iaload, 1) := by decide +kernel
theorem dL_law_1277 : decode cL_law 1277 = .ok (.aload_n 0, 1) := by decide +kernel
theorem dL_law_1278 : decode cL_law 1278 = .ok (.iload 4, 2) := by decide +kernel
theorem dL_law_1280 : decode cL_law 1280 = .ok (.iconst 4, 1) := by decide +kernel
theorem dL_law_1281 : decode cL_law 1281 = .ok (.iadd, 1) := by decide +kernel
theorem dL_law_1282 : decode cL_law 1282 = .ok (.iaload, 1) := by decide +kernel
theorem dL_law_1283 : decode cL_law 1283 = .ok (.invokevirtual 148, 3) := by decide +kernel
theorem dL_law_1286 : decode cL_law 1286 = .ok (.if_icmp .eq 289, 3) := by decide +kernel
theorem dL_law_1289 : decode cL_law 1289 = .ok (.iconst 0, 1) := by decide +kernel
theorem dL_law_1290 : decode cL_law 1290 = .ok (.ireturn, 1) := by decide +kernel
theorem dL_law_1291 : decode cL_law 1291 = .ok (.aload_n 1, 1) := by decide +kernel
theorem dL_law_1292 : decode cL_law 1292 = .ok (.aload_n 0, 1) := by decide +kernel
theorem dL_law_1293 : decode cL_law 1293 = .ok (.iload 4, 2) := by decide +kernel
theorem dL_law_1295 : decode cL_law 1295 = .ok (.iconst 1, 1) := by decide +kernel
theorem dL_law_1296 : decode cL_law 1296 = .ok (.iadd, 1) := by decide +kernel
theorem dL_law_1297 : decode cL_law 1297 = .ok (.iaload, 1) := by decide +kernel
theorem dL_law_1298 : decode cL_law 1298 = .ok (.aload_n 0, 1) := by decide +kernel
theorem dL_law_1299 : decode cL_law 1299 = .ok (.iload 4, 2) := by decide +kernel
theorem dL_law_1301 : decode cL_law 1301 = .ok (.iconst 2, 1) := by decide +kernel
theorem dL_law_1302 : decode cL_law 1302 = .ok (.iadd, 1) := by decide +kernel
theorem dL_law_1303 : decode cL_law 1303 = .ok (.iaload, 1) := by decide +kernel
theorem dL_law_1304 : decode cL_law 1304 = .ok (.invokevirtual 149, 3) := by decide +kernel
theorem dL_law_1307 : decode cL_law 1307 = .ok (.aload_n 2, 1) := by decide +kernel
theorem dL_law_1308 : decode cL_law 1308 = .ok (.aload_n 0, 1) := by decide +kernel
theorem dL_law_1309 : decode cL_law 1309 = .ok (.iload 4, 2) := by decide +kernel
theorem dL_law_1311 : decode cL_law 1311 = .ok (.iconst 1, 1) := by decide +kernel
theorem dL_law_1312 : decode cL_law 1312 = .ok (.iadd, 1) := by decide +kernel
theorem dL_law_1313 : decode cL_law 1313 = .ok (.iaload, 1) := by decide +kernel
theorem dL_law_1314 : decode cL_law 1314 = .ok (.aload_n 0, 1) := by decide +kernel
theorem dL_law_1315 : decode cL_law 1315 = .ok (.iload 4, 2) := by decide +kernel
theorem dL_law_1317 : decode cL_law 1317 = .ok (.iconst 2, 1) := by decide +kernel
theorem dL_law_1318 : decode cL_law 1318 = .ok (.iadd, 1) := by decide +kernel
theorem dL_law_1319 : decode cL_law 1319 = .ok (.iaload, 1) := by decide +kernel
theorem dL_law_1320 : decode cL_law 1320 = .ok (.invokevirtual 152, 3) := by decide +kernel
theorem dL_law_1323 : decode cL_law 1323 = .ok (.if_icmp .eq 252, 3) := by decide +kernel
theorem dL_law_1326 : decode cL_law 1326 = .ok (.iconst 0, 1) := by decide +kernel
theorem dL_law_1327 : decode cL_law 1327 = .ok (.ireturn, 1) := by decide +kernel
theorem dL_law_1328 : decode cL_law 1328 = .ok (.aload_n 1, 1) := by decide +kernel
theorem dL_law_1329 : decode cL_law 1329 = .ok (.aload_n 0, 1) := by decide +kernel
theorem dL_law_1330 : decode cL_law 1330 = .ok (.iload 4, 2) := by decide +kernel
theorem dL_law_1332 : decode cL_law 1332 = .ok (.iconst 1, 1) := by decide +kernel
theorem dL_law_1333 : decode cL_law 1333 = .ok (.iadd, 1) := by decide +kernel
theorem dL_law_1334 : decode cL_law 1334 = .ok (.iaload, 1) := by decide +kernel
theorem dL_law_1335 : decode cL_law 1335 = .ok (.aload_n 0, 1) := by decide +kernel
theorem dL_law_1336 : decode cL_law 1336 = .ok (.iload 4, 2) := by decide +kernel
theorem dL_law_1338 : decode cL_law 1338 = .ok (.iconst 2, 1) := by decide +kernel
theorem dL_law_1339 : decode cL_law 1339 = .ok (.iadd, 1) := by decide +kernel
theorem dL_law_1340 : decode cL_law 1340 = .ok (.iaload, 1) := by decide +kernel
theorem dL_law_1341 : decode cL_law 1341 = .ok (.invokevirtual 153, 3) := by decide +kernel
theorem dL_law_1344 : decode cL_law 1344 = .ok (.aload_n 2, 1) := by decide +kernel
theorem dL_law_1345 : decode cL_law 1345 = .ok (.aload_n 0, 1) := by decide +kernel
theorem dL_law_1346 : decode cL_law 1346 = .ok (.iload 4, 2) := by decide +kernel
theorem dL_law_1348 : decode cL_law 1348 = .ok (.iconst 1, 1) := by decide +kernel
theorem dL_law_1349 : decode cL_law 1349 = .ok (.iadd, 1) := by decide +kernel
theorem dL_law_1350 : decode cL_law 1350 = .ok (.iaload, 1) := by decide +kernel
theorem dL_law_1351 : decode cL_law 1351 = .ok (.aload_n 0, 1) := by decide +kernel
theorem dL_law_1352 : decode cL_law 1352 = .ok (.iload 4, 2) := by decide +kernel
theorem dL_law_1354 : decode cL_law 1354 = .ok (.iconst 2, 1) := by decide +kernel
theorem dL_law_1355 : decode cL_law 1355 = .ok (.iadd, 1) := by decide +kernel
theorem dL_law_1356 : decode cL_law 1356 = .ok (.iaload, 1) := by decide +kernel
theorem dL_law_1357 : decode cL_law 1357 = .ok (.invokevirtual 156, 3) := by decide +kernel
theorem dL_law_1360 : decode cL_law 1360 = .ok (.if_icmp .eq 215, 3) := by decide +kernel
theorem dL_law_1363 : decode cL_law 1363 = .ok (.iconst 0, 1) := by decide +kernel
theorem dL_law_1364 : decode cL_law 1364 = .ok (.ireturn, 1) := by decide +kernel
theorem dL_law_1365 : decode cL_law 1365 = .ok (.aload_n 1, 1) := by decide +kernel
theorem dL_law_1366 : decode cL_law 1366 = .ok (.aload_n 0, 1) := by decide +kernel
theorem dL_law_1367 : decode cL_law 1367 = .ok (.iload 4, 2) := by decide +kernel
theorem dL_law_1369 : decode cL_law 1369 = .ok (.iconst 1, 1) := by decide +kernel
theorem dL_law_1370 : decode cL_law 1370 = .ok (.iadd, 1) := by decide +kernel
theorem dL_law_1371 : decode cL_law 1371 = .ok (.iaload, 1) := by decide +kernel
theorem dL_law_1372 : decode cL_law 1372 = .ok (.invokevirtual 157, 3) := by decide +kernel
theorem dL_law_1375 : decode cL_law 1375 = .ok (.aload_n 2, 1) := by decide +kernel
theorem dL_law_1376 : decode cL_law 1376 = .ok (.aload_n 0, 1) := by decide +kernel
theorem dL_law_1377 : decode cL_law 1377 = .ok (.iload 4, 2) := by decide +kernel
theorem dL_law_1379 : decode cL_law 1379 = .ok (.iconst 1, 1) := by decide +kernel
theorem dL_law_1380 : decode cL_law 1380 = .ok (.iadd, 1) := by decide +kernel
theorem dL_law_1381 : decode cL_law 1381 = .ok (.iaload, 1) := by decide +kernel
theorem dL_law_1382 : decode cL_law 1382 = .ok (.invokevirtual 160, 3) := by decide +kernel
theorem dL_law_1385 : decode cL_law 1385 = .ok (.if_icmp .eq 190, 3) := by decide +kernel
theorem dL_law_1388 : decode cL_law 1388 = .ok (.iconst 0, 1) := by decide +kernel
theorem dL_law_1389 : decode cL_law 1389 = .ok (.ireturn, 1) := by decide +kernel
theorem dL_law_1390 : decode cL_law 1390 = .ok (.aload_n 1, 1) := by decide +kernel
theorem dL_law_1391 : decode cL_law 1391 = .ok (.aload_n 0, 1) := by decide +kernel
theorem dL_law_1392 : decode cL_law 1392 = .ok (.iload 4, 2) := by decide +kernel
theorem dL_law_1394 : decode cL_law 1394 = .ok (.iconst 1, 1) := by decide +kernel
theorem dL_law_1395 : decode cL_law 1395 = .ok (.iadd, 1) := by decide +kernel
theorem dL_law_1396 : decode cL_law 1396 = .ok (.iaload, 1) := by decide +kernel
theorem dL_law_1397 : decode cL_law 1397 = .ok (.aload_n 0, 1) := by decide +kernel
theorem dL_law_1398 : decode cL_law 1398 = .ok (.iload 4, 2) := by decide +kernel
theorem dL_law_1400 : decode cL_law 1400 = .ok (.iconst 2, 1) := by decide +kernel
theorem dL_law_1401 : decode cL_law 1401 = .ok (.iadd, 1) := by decide +kernel
theorem dL_law_1402 : decode cL_law 1402 = .ok (.iaload, 1) := by decide +kernel
theorem dL_law_1403 : decode cL_law 1403 = .ok (.invokevirtual 161, 3) := by decide +kernel
theorem dL_law_1406 : decode cL_law 1406 = .ok (.aload_n 2, 1) := by decide +kernel
theorem dL_law_1407 : decode cL_law 1407 = .ok (.aload_n 0, 1) := by decide +kernel
theorem dL_law_1408 : decode cL_law 1408 = .ok (.iload 4, 2) := by decide +kernel
theorem dL_law_1410 : decode cL_law 1410 = .ok (.iconst 1, 1) := by decide +kernel
theorem dL_law_1411 : decode cL_law 1411 = .ok (.iadd, 1) := by decide +kernel
theorem dL_law_1412 : decode cL_law 1412 = .ok (.iaload, 1) := by decide +kernel
theorem dL_law_1413 : decode cL_law 1413 = .ok (.aload_n 0, 1) := by decide +kernel
theorem dL_law_1414 : decode cL_law 1414 = .ok (.iload 4, 2) := by decide +kernel
theorem dL_law_1416 : decode cL_law 1416 = .ok (.iconst 2, 1) := by decide +kernel
theorem dL_law_1417 : decode cL_law 1417 = .ok (.iadd, 1) := by decide +kernel
theorem dL_law_1418 : decode cL_law 1418 = .ok (.iaload, 1) := by decide +kernel
theorem dL_law_1419 : decode cL_law 1419 = .ok (.invokevirtual 164, 3) := by decide +kernel
theorem dL_law_1422 : decode cL_law 1422 = .ok (.if_icmp .eq 153, 3) := by decide +kernel
theorem dL_law_1425 : decode cL_law 1425 = .ok (.iconst 0, 1) := by decide +kernel
theorem dL_law_1426 : decode cL_law 1426 = .ok (.ireturn, 1) := by decide +kernel
theorem dL_law_1427 : decode cL_law 1427 = .ok (.aload_n 1, 1) := by decide +kernel
theorem dL_law_1428 : decode cL_law 1428 = .ok (.aload_n 0, 1) := by decide +kernel
theorem dL_law_1429 : decode cL_law 1429 = .ok (.iload 4, 2) := by decide +kernel
theorem dL_law_1431 : decode cL_law 1431 = .ok (.iconst 1, 1) := by decide +kernel
theorem dL_law_1432 : decode cL_law 1432 = .ok (.iadd, 1) := by decide +kernel
theorem dL_law_1433 : decode cL_law 1433 = .ok (.iaload, 1) := by decide +kernel
theorem dL_law_1434 : decode cL_law 1434 = .ok (.aload_n 0, 1) := by decide +kernel
theorem dL_law_1435 : decode cL_law 1435 = .ok (.iload 4, 2) := by decide +kernel
theorem dL_law_1437 : decode cL_law 1437 = .ok (.iconst 2, 1) := by decide +kernel
theorem dL_law_1438 : decode cL_law 1438 = .ok (.iadd, 1) := by decide +kernel
theorem dL_law_1439 : decode cL_law 1439 = .ok (.iaload, 1) := by decide +kernel
theorem dL_law_1440 : decode cL_law 1440 = .ok (.aload_n 0, 1) := by decide +kernel
theorem dL_law_1441 : decode cL_law 1441 = .ok (.iload 4, 2) := by decide +kernel
theorem dL_law_1443 : decode cL_law 1443 = .ok (.iconst 3, 1) := by decide +kernel
theorem dL_law_1444 : decode cL_law 1444 = .ok (.iadd, 1) := by decide +kernel
theorem dL_law_1445 : decode cL_law 1445 = .ok (.iaload, 1) := by decide +kernel
theorem dL_law_1446 : decode cL_law 1446 = .ok (.invokevirtual 165, 3) := by decide +kernel
theorem dL_law_1449 : decode cL_law 1449 = .ok (.aload_n 2, 1) := by decide +kernel
theorem dL_law_1450 : decode cL_law 1450 = .ok (.aload_n 0, 1) := by decide +kernel
theorem dL_law_1451 : decode cL_law 1451 = .ok (.iload 4, 2) := by decide +kernel
theorem dL_law_1453 : decode cL_law 1453 = .ok (.iconst 1, 1) := by decide +kernel
theorem dL_law_1454 : decode cL_law 1454 = .ok (.iadd, 1) := by decide +kernel
theorem dL_law_1455 : decode cL_law 1455 = .ok (.iaload, 1) := by decide +kernel
theorem dL_law_1456 : decode cL_law 1456 = .ok (.aload_n 0, 1) := by decide +kernel
theorem dL_law_1457 : decode cL_law 1457 = .ok (.iload 4, 2) := by decide +kernel
theorem dL_law_1459 : decode cL_law 1459 = .ok (.iconst 2, 1) := by decide +kernel
theorem dL_law_1460 : decode cL_law 1460 = .ok (.iadd, 1) := by decide +kernel
theorem dL_law_1461 : decode cL_law 1461 = .ok (.iaload, 1) := by decide +kernel
theorem dL_law_1462 : decode cL_law 1462 = .ok (.aload_n 0, 1) := by decide +kernel
theorem dL_law_1463 : decode cL_law 1463 = .ok (.iload 4, 2) := by decide +kernel
theorem dL_law_1465 : decode cL_law 1465 = .ok (.iconst 3, 1) := by decide +kernel
theorem dL_law_1466 : decode cL_law 1466 = .ok (.iadd, 1) := by decide +kernel
theorem dL_law_1467 : decode cL_law 1467 = .ok (.iaload, 1) := by decide +kernel
theorem dL_law_1468 : decode cL_law 1468 = .ok (.invokevirtual 168, 3) := by decide +kernel
theorem dL_law_1471 : decode cL_law 1471 = .ok (.if_icmp .eq 104, 3) := by decide +kernel
theorem dL_law_1474 : decode cL_law 1474 = .ok (.iconst 0, 1) := by decide +kernel
theorem dL_law_1475 : decode cL_law 1475 = .ok (.ireturn, 1) := by decide +kernel
theorem dL_law_1476 : decode cL_law 1476 = .ok (.aload_n 1, 1) := by decide +kernel
theorem dL_law_1477 : decode cL_law 1477 = .ok (.aload_n 0, 1) := by decide +kernel
theorem dL_law_1478 : decode cL_law 1478 = .ok (.iload 4, 2) := by decide +kernel
theorem dL_law_1480 : decode cL_law 1480 = .ok (.iconst 1, 1) := by decide +kernel
theorem dL_law_1481 : decode cL_law 1481 = .ok (.iadd, 1) := by decide +kernel
theorem dL_law_1482 : decode cL_law 1482 = .ok (.iaload, 1) := by decide +kernel
theorem dL_law_1483 : decode cL_law 1483 = .ok (.aload_n 0, 1) := by decide +kernel
theorem dL_law_1484 : decode cL_law 1484 = .ok (.iload 4, 2) := by decide +kernel
theorem dL_law_1486 : decode cL_law 1486 = .ok (.iconst 2, 1) := by decide +kernel
theorem dL_law_1487 : decode cL_law 1487 = .ok (.iadd, 1) := by decide +kernel
theorem dL_law_1488 : decode cL_law 1488 = .ok (.iaload, 1) := by decide +kernel
theorem dL_law_1489 : decode cL_law 1489 = .ok (.invokevirtual 169, 3) := by decide +kernel
theorem dL_law_1492 : decode cL_law 1492 = .ok (.aload_n 2, 1) := by decide +kernel
theorem dL_law_1493 : decode cL_law 1493 = .ok (.aload_n 0, 1) := by decide +kernel
theorem dL_law_1494 : decode cL_law 1494 = .ok (.iload 4, 2) := by decide +kernel
theorem dL_law_1496 : decode cL_law 1496 = .ok (.iconst 1, 1) := by decide +kernel
theorem dL_law_1497 : decode cL_law 1497 = .ok (.iadd, 1) := by decide +kernel
theorem dL_law_1498 : decode cL_law 1498 = .ok (.iaload, 1) := by decide +kernel
theorem dL_law_1499 : decode cL_law 1499 = .ok (.aload_n 0, 1) := by decide +kernel
theorem dL_law_1500 : decode cL_law 1500 = .ok (.iload 4, 2) := by decide +kernel
theorem dL_law_1502 : decode cL_law 1502 = .ok (.iconst 2, 1) := by decide +kernel
theorem dL_law_1503 : decode cL_law 1503 = .ok (.iadd, 1) := by decide +kernel
theorem dL_law_1504 : decode cL_law 1504 = .ok (.iaload, 1) := by decide +kernel
theorem dL_law_1505 : decode cL_law 1505 = .ok (.invokevirtual 172, 3) := by decide +kernel
theorem dL_law_1508 : decode cL_law 1508 = .ok (.if_icmp .eq 67, 3) := by decide +kernel
theorem dL_law_1511 : decode cL_law 1511 = .ok (.iconst 0, 1) := by decide +kernel
theorem dL_law_1512 : decode cL_law 1512 = .ok (.ireturn, 1) := by decide +kernel
theorem dL_law_1513 : decode cL_law 1513 = .ok (.aload_n 1, 1) := by decide +kernel
theorem dL_law_1514 : decode cL_law 1514 = .ok (.aload_n 0, 1) := by decide +kernel
theorem dL_law_1515 : decode cL_law 1515 = .ok (.iload 4, 2) := by decide +kernel
theorem dL_law_1517 : decode cL_law 1517 = .ok (.iconst 1, 1) := by decide +kernel
theorem dL_law_1518 : decode cL_law 1518 = .ok (.iadd, 1) := by decide +kernel
theorem dL_law_1519 : decode cL_law 1519 = .ok (.iaload, 1) := by decide +kernel
theorem dL_law_1520 : decode cL_law 1520 = .ok (.aload_n 0, 1) := by decide +kernel
theorem dL_law_1521 : decode cL_law 1521 = .ok (.iload 4, 2) := by decide +kernel
theorem dL_law_1523 : decode cL_law 1523 = .ok (.iconst 2, 1) := by decide +kernel
theorem dL_law_1524 : decode cL_law 1524 = .ok (.iadd, 1) := by decide +kernel
theorem dL_law_1525 : decode cL_law 1525 = .ok (.iaload, 1) := by decide +kernel
theorem dL_law_1526 : decode cL_law 1526 = .ok (.invokevirtual 173, 3) := by decide +kernel
theorem dL_law_1529 : decode cL_law 1529 = .ok (.aload_n 2, 1) := by decide +kernel
theorem dL_law_1530 : decode cL_law 1530 = .ok (.aload_n 0, 1) := by decide +kernel
theorem dL_law_1531 : decode cL_law 1531 = .ok (.iload 4, 2) := by decide +kernel
theorem dL_law_1533 : decode cL_law 1533 = .ok (.iconst 1, 1) := by decide +kernel
theorem dL_law_1534 : decode cL_law 1534 = .ok (.iadd, 1) := by decide +kernel
theorem dL_law_1535 : decode cL_law 1535 = .ok (.iaload, 1) := by decide +kernel
theorem dL_law_1536 : decode cL_law 1536 = .ok (.aload_n 0, 1) := by decide +kernel
theorem dL_law_1537 : decode cL_law 1537 = .ok (.iload 4, 2) := by decide +kernel
theorem dL_law_1539 : decode cL_law 1539 = .ok (.iconst 2, 1) := by decide +kernel
theorem dL_law_1540 : decode cL_law 1540 = .ok (.iadd, 1) := by decide +kernel
theorem dL_law_1541 : decode cL_law 1541 = .ok (.iaload, 1) := by decide +kernel
theorem dL_law_1542 : decode cL_law 1542 = .ok (.invokevirtual 176, 3) := by decide +kernel
theorem dL_law_1545 : decode cL_law 1545 = .ok (.if_icmp .eq 30, 3) := by decide +kernel
theorem dL_law_1548 : decode cL_law 1548 = .ok (.iconst 0, 1) := by decide +kernel
theorem dL_law_1549 : decode cL_law 1549 = .ok (.ireturn, 1) := by decide +kernel
theorem dL_law_1550 : decode cL_law 1550 = .ok (.aload_n 1, 1) := by decide +kernel
theorem dL_law_1551 : decode cL_law 1551 = .ok (.aload_n 0, 1) := by decide +kernel
theorem dL_law_1552 : decode cL_law 1552 = .ok (.iload 4, 2) := by decide +kernel
theorem dL_law_1554 : decode cL_law 1554 = .ok (.iconst 1, 1) := by decide +kernel
theorem dL_law_1555 : decode cL_law 1555 = .ok (.iadd, 1) := by decide +kernel
theorem dL_law_1556 : decode cL_law 1556 = .ok (.iaload, 1) := by decide +kernel
theorem dL_law_1557 : decode cL_law 1557 = .ok (.invokevirtual 177, 3) := by decide +kernel
theorem dL_law_1560 : decode cL_law 1560 = .ok (.aload_n 2, 1) := by decide +kernel
theorem dL_law_1561 : decode cL_law 1561 = .ok (.aload_n 0, 1) := by decide +kernel
theorem dL_law_1562 : decode cL_law 1562 = .ok (.iload 4, 2) := by decide +kernel
theorem dL_law_1564 : decode cL_law 1564 = .ok (.iconst 1, 1) := by decide +kernel
theorem dL_law_1565 : decode cL_law 1565 = .ok (.iadd, 1) := by decide +kernel
theorem dL_law_1566 : decode cL_law 1566 = .ok (.iaload, 1) := by decide +kernel
theorem dL_law_1567 : decode cL_law 1567 = .ok (.invokevirtual 180, 3) := by decide +kernel
theorem dL_law_1570 : decode cL_law 1570 = .ok (.if_icmp .eq 5, 3) := by decide +kernel
theorem dL_law_1573 : decode cL_law 1573 = .ok (.iconst 0, 1) := by decide +kernel
theorem dL_law_1574 : decode cL_law 1574 = .ok (.ireturn, 1) := by decide +kernel
theorem dL_law_1575 : decode cL_law 1575 = .ok (.iinc 4 6, 3) := by decide +kernel
theorem dL_law_1578 : decode cL_law 1578 = .ok (.goto (-1555), 3) := by decide +kernel
theorem dL_law_1581 : decode cL_law 1581 = .ok (.iconst 1, 1) := by decide +kernel
theorem dL_law_1582 : decode cL_law 1582 = .ok (.ireturn, 1) := by decide +kernel
set_option maxRecDepth 20000 in
theorem k_468 : (Cond.methodLink "BeamSetterLaw" (24 : Nat) ({ cls := "BeamSetter", name := "feed", desc := "(IIIII)I" } : MethodName)) ∈ TW := tw_in 468 (by decide +kernel) rfl
set_option maxRecDepth 20000 in
theorem k_469 : (Cond.instanceMethod ({ cls := "BeamSetter", name := "feed", desc := "(IIIII)I" } : MethodName)) ∈ TW := tw_in 469 (by decide +kernel) rfl
set_option maxRecDepth 20000 in
theorem k_470 : (Cond.selects "BeamSetter" ({ cls := "BeamSetter", name := "feed", desc := "(IIIII)I" } : MethodName) ({ cls := "BeamSetter", name := "feed", desc := "(IIIII)I" } : MethodName)) ∈ TW := tw_in 470 (by decide +kernel) rfl
set_option maxRecDepth 20000 in
theorem k_480 : (Cond.methodLink "BeamSetterLaw" (29 : Nat) ({ cls := "BeamSetter", name := "text", desc := "(I)I" } : MethodName)) ∈ TW := tw_in 480 (by decide +kernel) rfl
set_option maxRecDepth 20000 in
theorem k_481 : (Cond.instanceMethod ({ cls := "BeamSetter", name := "text", desc := "(I)I" } : MethodName)) ∈ TW := tw_in 481 (by decide +kernel) rfl
set_option maxRecDepth 20000 in
theorem k_482 : (Cond.selects "BeamSetter" ({ cls := "BeamSetter", name := "text", desc := "(I)I" } : MethodName) ({ cls := "BeamSetter", name := "text", desc := "(I)I" } : MethodName)) ∈ TW := tw_in 482 (by decide +kernel) rfl
set_option maxRecDepth 20000 in
theorem k_688 : (Cond.methodLink "BeamSetterLaw" (34 : Nat) ({ cls := "BeamSetter", name := "fault", desc := "(I)I" } : MethodName)) ∈ TW := tw_in 688 (by decide +kernel) rfl
set_option maxRecDepth 20000 in
theorem k_689 : (Cond.instanceMethod ({ cls := "BeamSetter", name := "fault", desc := "(I)I" } : MethodName)) ∈ TW := tw_in 689 (by decide +kernel) rfl
set_option maxRecDepth 20000 in
theorem k_690 : (Cond.selects "BeamSetter" ({ cls := "BeamSetter", name := "fault", desc := "(I)I" } : MethodName) ({ cls := "BeamSetter", name := "fault", desc := "(I)I" } : MethodName)) ∈ TW := tw_in 690 (by decide +kernel) rfl
set_option maxRecDepth 20000 in
theorem k_692 : (Cond.methodLink "BeamSetterLaw" (48 : Nat) ({ cls := "BeamSetter", name := "position", desc := "(I)I" } : MethodName)) ∈ TW := tw_in 692 (by decide +kernel) rfl
set_option maxRecDepth 20000 in
theorem k_693 : (Cond.instanceMethod ({ cls := "BeamSetter", name := "position", desc := "(I)I" } : MethodName)) ∈ TW := tw_in 693 (by decide +kernel) rfl
set_option maxRecDepth 20000 in
theorem k_694 : (Cond.selects "BeamSetter" ({ cls := "BeamSetter", name := "position", desc := "(I)I" } : MethodName) ({ cls := "BeamSetter", name := "position", desc := "(I)I" } : MethodName)) ∈ TW := tw_in 694 (by decide +kernel) rfl
set_option maxRecDepth 20000 in
theorem k_705 : (Cond.methodLink "BeamSetterLaw" (52 : Nat) ({ cls := "BeamSetter", name := "direction", desc := "(I)I" } : MethodName)) ∈ TW := tw_in 705 (by decide +kernel) rfl
set_option maxRecDepth 20000 in
theorem k_706 : (Cond.instanceMethod ({ cls := "BeamSetter", name := "direction", desc := "(I)I" } : MethodName)) ∈ TW := tw_in 706 (by decide +kernel) rfl
set_option maxRecDepth 20000 in
theorem k_707 : (Cond.selects "BeamSetter" ({ cls := "BeamSetter", name := "direction", desc := "(I)I" } : MethodName) ({ cls := "BeamSetter", name := "direction", desc := "(I)I" } : MethodName)) ∈ TW := tw_in 707 (by decide +kernel) rfl
set_option maxRecDepth 20000 in
theorem k_756 : (Cond.methodLink "BeamSetterLaw" (56 : Nat) ({ cls := "BeamSetter", name := "put", desc := "(II)I" } : MethodName)) ∈ TW := tw_in 756 (by decide +kernel) rfl
set_option maxRecDepth 20000 in
theorem k_757 : (Cond.instanceMethod ({ cls := "BeamSetter", name := "put", desc := "(II)I" } : MethodName)) ∈ TW := tw_in 757 (by decide +kernel) rfl
set_option maxRecDepth 20000 in
theorem k_758 : (Cond.selects "BeamSetter" ({ cls := "BeamSetter", name := "put", desc := "(II)I" } : MethodName) ({ cls := "BeamSetter", name := "put", desc := "(II)I" } : MethodName)) ∈ TW := tw_in 758 (by decide +kernel) rfl
set_option maxRecDepth 20000 in
theorem k_770 : (Cond.methodLink "BeamSetterLaw" (60 : Nat) ({ cls := "BeamSetter", name := "undo", desc := "()I" } : MethodName)) ∈ TW := tw_in 770 (by decide +kernel) rfl
set_option maxRecDepth 20000 in
theorem k_771 : (Cond.instanceMethod ({ cls := "BeamSetter", name := "undo", desc := "()I" } : MethodName)) ∈ TW := tw_in 771 (by decide +kernel) rfl
set_option maxRecDepth 20000 in
theorem k_772 : (Cond.selects "BeamSetter" ({ cls := "BeamSetter", name := "undo", desc := "()I" } : MethodName) ({ cls := "BeamSetter", name := "undo", desc := "()I" } : MethodName)) ∈ TW := tw_in 772 (by decide +kernel) rfl
set_option maxRecDepth 20000 in
theorem k_787 : (Cond.methodLink "BeamSetterLaw" (67 : Nat) ({ cls := "BeamSetter", name := "want", desc := "(I)I" } : MethodName)) ∈ TW := tw_in 787 (by decide +kernel) rfl
set_option maxRecDepth 20000 in
theorem k_788 : (Cond.instanceMethod ({ cls := "BeamSetter", name := "want", desc := "(I)I" } : MethodName)) ∈ TW := tw_in 788 (by decide +kernel) rfl
set_option maxRecDepth 20000 in
theorem k_789 : (Cond.selects "BeamSetter" ({ cls := "BeamSetter", name := "want", desc := "(I)I" } : MethodName) ({ cls := "BeamSetter", name := "want", desc := "(I)I" } : MethodName)) ∈ TW := tw_in 789 (by decide +kernel) rfl
set_option maxRecDepth 20000 in
theorem k_795 : (Cond.methodLink "BeamSetterLaw" (71 : Nat) ({ cls := "BeamSetter", name := "ideal", desc := "(I)I" } : MethodName)) ∈ TW := tw_in 795 (by decide +kernel) rfl
set_option maxRecDepth 20000 in
theorem k_796 : (Cond.instanceMethod ({ cls := "BeamSetter", name := "ideal", desc := "(I)I" } : MethodName)) ∈ TW := tw_in 796 (by decide +kernel) rfl
set_option maxRecDepth 20000 in
theorem k_797 : (Cond.selects "BeamSetter" ({ cls := "BeamSetter", name := "ideal", desc := "(I)I" } : MethodName) ({ cls := "BeamSetter", name := "ideal", desc := "(I)I" } : MethodName)) ∈ TW := tw_in 797 (by decide +kernel) rfl
set_option maxRecDepth 20000 in
theorem k_799 : (Cond.methodLink "BeamSetterLaw" (75 : Nat) ({ cls := "BeamSetter", name := "ugliness", desc := "(IIII)I" } : MethodName)) ∈ TW := tw_in 799 (by decide +kernel) rfl
set_option maxRecDepth 20000 in
theorem k_800 : (Cond.instanceMethod ({ cls := "BeamSetter", name := "ugliness", desc := "(IIII)I" } : MethodName)) ∈ TW := tw_in 800 (by decide +kernel) rfl
set_option maxRecDepth 20000 in
theorem k_801 : (Cond.selects "BeamSetter" ({ cls := "BeamSetter", name := "ugliness", desc := "(IIII)I" } : MethodName) ({ cls := "BeamSetter", name := "ugliness", desc := "(IIII)I" } : MethodName)) ∈ TW := tw_in 801 (by decide +kernel) rfl
set_option maxRecDepth 20000 in
theorem k_843 : (Cond.methodLink "BeamSetterLaw" (80 : Nat) ({ cls := "BeamSetter", name := "best", desc := "(II)I" } : MethodName)) ∈ TW := tw_in 843 (by decide +kernel) rfl
set_option maxRecDepth 20000 in
theorem k_844 : (Cond.instanceMethod ({ cls := "BeamSetter", name := "best", desc := "(II)I" } : MethodName)) ∈ TW := tw_in 844 (by decide +kernel) rfl
set_option maxRecDepth 20000 in
theorem k_845 : (Cond.selects "BeamSetter" ({ cls := "BeamSetter", name := "best", desc := "(II)I" } : MethodName) ({ cls := "BeamSetter", name := "best", desc := "(II)I" } : MethodName)) ∈ TW := tw_in 845 (by decide +kernel) rfl
set_option maxRecDepth 20000 in
theorem k_890 : (Cond.methodLink "BeamSetterLaw" (84 : Nat) ({ cls := "BeamSetter", name := "ranked", desc := "(III)I" } : MethodName)) ∈ TW := tw_in 890 (by decide +kernel) rfl
set_option maxRecDepth 20000 in
theorem k_891 : (Cond.instanceMethod ({ cls := "BeamSetter", name := "ranked", desc := "(III)I" } : MethodName)) ∈ TW := tw_in 891 (by decide +kernel) rfl
set_option maxRecDepth 20000 in
theorem k_892 : (Cond.selects "BeamSetter" ({ cls := "BeamSetter", name := "ranked", desc := "(III)I" } : MethodName) ({ cls := "BeamSetter", name := "ranked", desc := "(III)I" } : MethodName)) ∈ TW := tw_in 892 (by decide +kernel) rfl
set_option maxRecDepth 20000 in
theorem k_902 : (Cond.methodLink "BeamSetterLaw" (89 : Nat) ({ cls := "BeamSetter", name := "rank", desc := "(III)I" } : MethodName)) ∈ TW := tw_in 902 (by decide +kernel) rfl
set_option maxRecDepth 20000 in
theorem k_903 : (Cond.instanceMethod ({ cls := "BeamSetter", name := "rank", desc := "(III)I" } : MethodName)) ∈ TW := tw_in 903 (by decide +kernel) rfl
set_option maxRecDepth 20000 in
theorem k_904 : (Cond.selects "BeamSetter" ({ cls := "BeamSetter", name := "rank", desc := "(III)I" } : MethodName) ({ cls := "BeamSetter", name := "rank", desc := "(III)I" } : MethodName)) ∈ TW := tw_in 904 (by decide +kernel) rfl
set_option maxRecDepth 20000 in
theorem k_915 : (Cond.methodLink "BeamSetterLaw" (93 : Nat) ({ cls := "BeamSetter", name := "stem", desc := "(II)I" } : MethodName)) ∈ TW := tw_in 915 (by decide +kernel) rfl
set_option maxRecDepth 20000 in
theorem k_916 : (Cond.instanceMethod ({ cls := "BeamSetter", name := "stem", desc := "(II)I" } : MethodName)) ∈ TW := tw_in 916 (by decide +kernel) rfl
set_option maxRecDepth 20000 in
theorem k_917 : (Cond.selects "BeamSetter" ({ cls := "BeamSetter", name := "stem", desc := "(II)I" } : MethodName) ({ cls := "BeamSetter", name := "stem", desc := "(II)I" } : MethodName)) ∈ TW := tw_in 917 (by decide +kernel) rfl
set_option maxRecDepth 20000 in
theorem k_933 : (Cond.methodLink "BeamSetterLaw" (97 : Nat) ({ cls := "BeamSetter", name := "touch", desc := "(III)I" } : MethodName)) ∈ TW := tw_in 933 (by decide +kernel) rfl
set_option maxRecDepth 20000 in
theorem k_934 : (Cond.instanceMethod ({ cls := "BeamSetter", name := "touch", desc := "(III)I" } : MethodName)) ∈ TW := tw_in 934 (by decide +kernel) rfl
set_option maxRecDepth 20000 in
theorem k_935 : (Cond.selects "BeamSetter" ({ cls := "BeamSetter", name := "touch", desc := "(III)I" } : MethodName) ({ cls := "BeamSetter", name := "touch", desc := "(III)I" } : MethodName)) ∈ TW := tw_in 935 (by decide +kernel) rfl
set_option maxRecDepth 20000 in
theorem k_953 : (Cond.methodLink "BeamSetterLaw" (101 : Nat) ({ cls := "BeamSetter", name := "beams", desc := "(II)I" } : MethodName)) ∈ TW := tw_in 953 (by decide +kernel) rfl
set_option maxRecDepth 20000 in
theorem k_954 : (Cond.instanceMethod ({ cls := "BeamSetter", name := "beams", desc := "(II)I" } : MethodName)) ∈ TW := tw_in 954 (by decide +kernel) rfl
set_option maxRecDepth 20000 in
theorem k_955 : (Cond.selects "BeamSetter" ({ cls := "BeamSetter", name := "beams", desc := "(II)I" } : MethodName) ({ cls := "BeamSetter", name := "beams", desc := "(II)I" } : MethodName)) ∈ TW := tw_in 955 (by decide +kernel) rfl
set_option maxRecDepth 20000 in
theorem k_979 : (Cond.methodLink "BeamSetterLaw" (105 : Nat) ({ cls := "BeamSetter", name := "total", desc := "(I)I" } : MethodName)) ∈ TW := tw_in 979 (by decide +kernel) rfl
set_option maxRecDepth 20000 in
theorem k_980 : (Cond.instanceMethod ({ cls := "BeamSetter", name := "total", desc := "(I)I" } : MethodName)) ∈ TW := tw_in 980 (by decide +kernel) rfl
set_option maxRecDepth 20000 in
theorem k_981 : (Cond.selects "BeamSetter" ({ cls := "BeamSetter", name := "total", desc := "(I)I" } : MethodName) ({ cls := "BeamSetter", name := "total", desc := "(I)I" } : MethodName)) ∈ TW := tw_in 981 (by decide +kernel) rfl
set_option maxRecDepth 20000 in
theorem k_999 : (Cond.methodLink "BeamSetterLaw" (109 : Nat) ({ cls := "BeamSetter", name := "ifPut", desc := "(III)I" } : MethodName)) ∈ TW := tw_in 999 (by decide +kernel) rfl
set_option maxRecDepth 20000 in
theorem k_1000 : (Cond.instanceMethod ({ cls := "BeamSetter", name := "ifPut", desc := "(III)I" } : MethodName)) ∈ TW := tw_in 1000 (by decide +kernel) rfl
set_option maxRecDepth 20000 in
theorem k_1001 : (Cond.selects "BeamSetter" ({ cls := "BeamSetter", name := "ifPut", desc := "(III)I" } : MethodName) ({ cls := "BeamSetter", name := "ifPut", desc := "(III)I" } : MethodName)) ∈ TW := tw_in 1001 (by decide +kernel) rfl
set_option maxRecDepth 20000 in
theorem k_1011 : (Cond.methodLink "BeamSetterLaw" (113 : Nat) ({ cls := "BeamSetter", name := "wish", desc := "(I)I" } : MethodName)) ∈ TW := tw_in 1011 (by decide +kernel) rfl
set_option maxRecDepth 20000 in
theorem k_1012 : (Cond.instanceMethod ({ cls := "BeamSetter", name := "wish", desc := "(I)I" } : MethodName)) ∈ TW := tw_in 1012 (by decide +kernel) rfl
set_option maxRecDepth 20000 in
theorem k_1013 : (Cond.selects "BeamSetter" ({ cls := "BeamSetter", name := "wish", desc := "(I)I" } : MethodName) ({ cls := "BeamSetter", name := "wish", desc := "(I)I" } : MethodName)) ∈ TW := tw_in 1013 (by decide +kernel) rfl
set_option maxRecDepth 20000 in
theorem k_1020 : (Cond.methodLink "BeamSetterLaw" (117 : Nat) ({ cls := "BeamSetter", name := "ifShifted", desc := "(II)I" } : MethodName)) ∈ TW := tw_in 1020 (by decide +kernel) rfl
set_option maxRecDepth 20000 in
theorem k_1021 : (Cond.instanceMethod ({ cls := "BeamSetter", name := "ifShifted", desc := "(II)I" } : MethodName)) ∈ TW := tw_in 1021 (by decide +kernel) rfl
set_option maxRecDepth 20000 in
theorem k_1022 : (Cond.selects "BeamSetter" ({ cls := "BeamSetter", name := "ifShifted", desc := "(II)I" } : MethodName) ({ cls := "BeamSetter", name := "ifShifted", desc := "(II)I" } : MethodName)) ∈ TW := tw_in 1022 (by decide +kernel) rfl
set_option maxRecDepth 20000 in
theorem k_1024 : (Cond.methodLink "BeamSetterLaw" (121 : Nat) ({ cls := "BeamSetter", name := "shift", desc := "()I" } : MethodName)) ∈ TW := tw_in 1024 (by decide +kernel) rfl
set_option maxRecDepth 20000 in
theorem k_1025 : (Cond.instanceMethod ({ cls := "BeamSetter", name := "shift", desc := "()I" } : MethodName)) ∈ TW := tw_in 1025 (by decide +kernel) rfl
set_option maxRecDepth 20000 in
theorem k_1026 : (Cond.selects "BeamSetter" ({ cls := "BeamSetter", name := "shift", desc := "()I" } : MethodName) ({ cls := "BeamSetter", name := "shift", desc := "()I" } : MethodName)) ∈ TW := tw_in 1026 (by decide +kernel) rfl
set_option maxRecDepth 20000 in
theorem k_1032 : (Cond.methodLink "BeamSetterLaw" (125 : Nat) ({ cls := "BeamSetter", name := "mirrored", desc := "(I)I" } : MethodName)) ∈ TW := tw_in 1032 (by decide +kernel) rfl
set_option maxRecDepth 20000 in
theorem k_1033 : (Cond.instanceMethod ({ cls := "BeamSetter", name := "mirrored", desc := "(I)I" } : MethodName)) ∈ TW := tw_in 1033 (by decide +kernel) rfl
set_option maxRecDepth 20000 in
theorem k_1034 : (Cond.selects "BeamSetter" ({ cls := "BeamSetter", name := "mirrored", desc := "(I)I" } : MethodName) ({ cls := "BeamSetter", name := "mirrored", desc := "(I)I" } : MethodName)) ∈ TW := tw_in 1034 (by decide +kernel) rfl
set_option maxRecDepth 20000 in
theorem k_1036 : (Cond.methodLink "BeamSetterLaw" (129 : Nat) ({ cls := "BeamSetter", name := "ifKnee", desc := "(II)I" } : MethodName)) ∈ TW := tw_in 1036 (by decide +kernel) rfl
set_option maxRecDepth 20000 in
theorem k_1037 : (Cond.instanceMethod ({ cls := "BeamSetter", name := "ifKnee", desc := "(II)I" } : MethodName)) ∈ TW := tw_in 1037 (by decide +kernel) rfl
set_option maxRecDepth 20000 in
theorem k_1038 : (Cond.selects "BeamSetter" ({ cls := "BeamSetter", name := "ifKnee", desc := "(II)I" } : MethodName) ({ cls := "BeamSetter", name := "ifKnee", desc := "(II)I" } : MethodName)) ∈ TW := tw_in 1038 (by decide +kernel) rfl
set_option maxRecDepth 20000 in
theorem k_1040 : (Cond.methodLink "BeamSetterLaw" (133 : Nat) ({ cls := "BeamSetter", name := "ifParts", desc := "(I)I" } : MethodName)) ∈ TW := tw_in 1040 (by decide +kernel) rfl
set_option maxRecDepth 20000 in
theorem k_1041 : (Cond.instanceMethod ({ cls := "BeamSetter", name := "ifParts", desc := "(I)I" } : MethodName)) ∈ TW := tw_in 1041 (by decide +kernel) rfl
set_option maxRecDepth 20000 in
theorem k_1042 : (Cond.selects "BeamSetter" ({ cls := "BeamSetter", name := "ifParts", desc := "(I)I" } : MethodName) ({ cls := "BeamSetter", name := "ifParts", desc := "(I)I" } : MethodName)) ∈ TW := tw_in 1042 (by decide +kernel) rfl
set_option maxRecDepth 20000 in
theorem k_1048 : (Cond.methodLink "BeamSetterLaw" (137 : Nat) ({ cls := "BeamSetter", name := "alone", desc := "(I)I" } : MethodName)) ∈ TW := tw_in 1048 (by decide +kernel) rfl
set_option maxRecDepth 20000 in
theorem k_1049 : (Cond.instanceMethod ({ cls := "BeamSetter", name := "alone", desc := "(I)I" } : MethodName)) ∈ TW := tw_in 1049 (by decide +kernel) rfl
set_option maxRecDepth 20000 in
theorem k_1050 : (Cond.selects "BeamSetter" ({ cls := "BeamSetter", name := "alone", desc := "(I)I" } : MethodName) ({ cls := "BeamSetter", name := "alone", desc := "(I)I" } : MethodName)) ∈ TW := tw_in 1050 (by decide +kernel) rfl
set_option maxRecDepth 20000 in
theorem k_1053 : (Cond.methodLink "BeamSetterLaw" (141 : Nat) ({ cls := "BeamSetter", name := "stretches", desc := "(II)I" } : MethodName)) ∈ TW := tw_in 1053 (by decide +kernel) rfl
set_option maxRecDepth 20000 in
theorem k_1054 : (Cond.instanceMethod ({ cls := "BeamSetter", name := "stretches", desc := "(II)I" } : MethodName)) ∈ TW := tw_in 1054 (by decide +kernel) rfl
set_option maxRecDepth 20000 in
theorem k_1055 : (Cond.selects "BeamSetter" ({ cls := "BeamSetter", name := "stretches", desc := "(II)I" } : MethodName) ({ cls := "BeamSetter", name := "stretches", desc := "(II)I" } : MethodName)) ∈ TW := tw_in 1055 (by decide +kernel) rfl
set_option maxRecDepth 20000 in
theorem k_1065 : (Cond.methodLink "BeamSetterLaw" (145 : Nat) ({ cls := "BeamSetter", name := "stretch", desc := "(IIII)I" } : MethodName)) ∈ TW := tw_in 1065 (by decide +kernel) rfl
set_option maxRecDepth 20000 in
theorem k_1066 : (Cond.instanceMethod ({ cls := "BeamSetter", name := "stretch", desc := "(IIII)I" } : MethodName)) ∈ TW := tw_in 1066 (by decide +kernel) rfl
set_option maxRecDepth 20000 in
theorem k_1067 : (Cond.selects "BeamSetter" ({ cls := "BeamSetter", name := "stretch", desc := "(IIII)I" } : MethodName) ({ cls := "BeamSetter", name := "stretch", desc := "(IIII)I" } : MethodName)) ∈ TW := tw_in 1067 (by decide +kernel) rfl
set_option maxRecDepth 20000 in
theorem k_1077 : (Cond.methodLink "BeamSetterLaw" (149 : Nat) ({ cls := "BeamSetter", name := "level", desc := "(II)I" } : MethodName)) ∈ TW := tw_in 1077 (by decide +kernel) rfl
set_option maxRecDepth 20000 in
theorem k_1078 : (Cond.instanceMethod ({ cls := "BeamSetter", name := "level", desc := "(II)I" } : MethodName)) ∈ TW := tw_in 1078 (by decide +kernel) rfl
set_option maxRecDepth 20000 in
theorem k_1079 : (Cond.selects "BeamSetter" ({ cls := "BeamSetter", name := "level", desc := "(II)I" } : MethodName) ({ cls := "BeamSetter", name := "level", desc := "(II)I" } : MethodName)) ∈ TW := tw_in 1079 (by decide +kernel) rfl
set_option maxRecDepth 20000 in
theorem k_1085 : (Cond.methodLink "BeamSetterLaw" (153 : Nat) ({ cls := "BeamSetter", name := "ifCut", desc := "(II)I" } : MethodName)) ∈ TW := tw_in 1085 (by decide +kernel) rfl
set_option maxRecDepth 20000 in
theorem k_1086 : (Cond.instanceMethod ({ cls := "BeamSetter", name := "ifCut", desc := "(II)I" } : MethodName)) ∈ TW := tw_in 1086 (by decide +kernel) rfl
set_option maxRecDepth 20000 in
theorem k_1087 : (Cond.selects "BeamSetter" ({ cls := "BeamSetter", name := "ifCut", desc := "(II)I" } : MethodName) ({ cls := "BeamSetter", name := "ifCut", desc := "(II)I" } : MethodName)) ∈ TW := tw_in 1087 (by decide +kernel) rfl
set_option maxRecDepth 20000 in
theorem k_1097 : (Cond.methodLink "BeamSetterLaw" (157 : Nat) ({ cls := "BeamSetter", name := "cut", desc := "(I)I" } : MethodName)) ∈ TW := tw_in 1097 (by decide +kernel) rfl
set_option maxRecDepth 20000 in
theorem k_1098 : (Cond.instanceMethod ({ cls := "BeamSetter", name := "cut", desc := "(I)I" } : MethodName)) ∈ TW := tw_in 1098 (by decide +kernel) rfl
set_option maxRecDepth 20000 in
theorem k_1099 : (Cond.selects "BeamSetter" ({ cls := "BeamSetter", name := "cut", desc := "(I)I" } : MethodName) ({ cls := "BeamSetter", name := "cut", desc := "(I)I" } : MethodName)) ∈ TW := tw_in 1099 (by decide +kernel) rfl
set_option maxRecDepth 20000 in
theorem k_1101 : (Cond.methodLink "BeamSetterLaw" (161 : Nat) ({ cls := "BeamSetter", name := "smooth", desc := "(II)I" } : MethodName)) ∈ TW := tw_in 1101 (by decide +kernel) rfl
set_option maxRecDepth 20000 in
theorem k_1102 : (Cond.instanceMethod ({ cls := "BeamSetter", name := "smooth", desc := "(II)I" } : MethodName)) ∈ TW := tw_in 1102 (by decide +kernel) rfl
set_option maxRecDepth 20000 in
theorem k_1103 : (Cond.selects "BeamSetter" ({ cls := "BeamSetter", name := "smooth", desc := "(II)I" } : MethodName) ({ cls := "BeamSetter", name := "smooth", desc := "(II)I" } : MethodName)) ∈ TW := tw_in 1103 (by decide +kernel) rfl
set_option maxRecDepth 20000 in
theorem k_1132 : (Cond.methodLink "BeamSetterLaw" (165 : Nat) ({ cls := "BeamSetter", name := "smoothed", desc := "(III)I" } : MethodName)) ∈ TW := tw_in 1132 (by decide +kernel) rfl
set_option maxRecDepth 20000 in
theorem k_1133 : (Cond.instanceMethod ({ cls := "BeamSetter", name := "smoothed", desc := "(III)I" } : MethodName)) ∈ TW := tw_in 1133 (by decide +kernel) rfl
set_option maxRecDepth 20000 in
theorem k_1134 : (Cond.selects "BeamSetter" ({ cls := "BeamSetter", name := "smoothed", desc := "(III)I" } : MethodName) ({ cls := "BeamSetter", name := "smoothed", desc := "(III)I" } : MethodName)) ∈ TW := tw_in 1134 (by decide +kernel) rfl
set_option maxRecDepth 20000 in
theorem k_1146 : (Cond.methodLink "BeamSetterLaw" (169 : Nat) ({ cls := "BeamSetter", name := "single", desc := "(II)I" } : MethodName)) ∈ TW := tw_in 1146 (by decide +kernel) rfl
set_option maxRecDepth 20000 in
theorem k_1147 : (Cond.instanceMethod ({ cls := "BeamSetter", name := "single", desc := "(II)I" } : MethodName)) ∈ TW := tw_in 1147 (by decide +kernel) rfl
set_option maxRecDepth 20000 in
theorem k_1148 : (Cond.selects "BeamSetter" ({ cls := "BeamSetter", name := "single", desc := "(II)I" } : MethodName) ({ cls := "BeamSetter", name := "single", desc := "(II)I" } : MethodName)) ∈ TW := tw_in 1148 (by decide +kernel) rfl
set_option maxRecDepth 20000 in
theorem k_1151 : (Cond.methodLink "BeamSetterLaw" (173 : Nat) ({ cls := "BeamSetter", name := "extreme", desc := "(II)I" } : MethodName)) ∈ TW := tw_in 1151 (by decide +kernel) rfl
set_option maxRecDepth 20000 in
theorem k_1152 : (Cond.instanceMethod ({ cls := "BeamSetter", name := "extreme", desc := "(II)I" } : MethodName)) ∈ TW := tw_in 1152 (by decide +kernel) rfl
set_option maxRecDepth 20000 in
theorem k_1153 : (Cond.selects "BeamSetter" ({ cls := "BeamSetter", name := "extreme", desc := "(II)I" } : MethodName) ({ cls := "BeamSetter", name := "extreme", desc := "(II)I" } : MethodName)) ∈ TW := tw_in 1153 (by decide +kernel) rfl
set_option maxRecDepth 20000 in
theorem k_1155 : (Cond.methodLink "BeamSetterLaw" (177 : Nat) ({ cls := "BeamSetter", name := "count", desc := "(I)I" } : MethodName)) ∈ TW := tw_in 1155 (by decide +kernel) rfl
set_option maxRecDepth 20000 in
theorem k_1156 : (Cond.instanceMethod ({ cls := "BeamSetter", name := "count", desc := "(I)I" } : MethodName)) ∈ TW := tw_in 1156 (by decide +kernel) rfl
set_option maxRecDepth 20000 in
theorem k_1157 : (Cond.selects "BeamSetter" ({ cls := "BeamSetter", name := "count", desc := "(I)I" } : MethodName) ({ cls := "BeamSetter", name := "count", desc := "(I)I" } : MethodName)) ∈ TW := tw_in 1157 (by decide +kernel) rfl
set_option maxRecDepth 20000 in
theorem k_1172 : (Cond.methodLink "BeamSetterLaw" (7 : Nat) ({ cls := "BeamSetter", name := "element", desc := "(II)I" } : MethodName)) ∈ TW := tw_in 1172 (by decide +kernel) rfl
set_option maxRecDepth 20000 in
theorem k_1173 : (Cond.instanceMethod ({ cls := "BeamSetter", name := "element", desc := "(II)I" } : MethodName)) ∈ TW := tw_in 1173 (by decide +kernel) rfl
set_option maxRecDepth 20000 in
theorem k_1174 : (Cond.selects "BeamSetter" ({ cls := "BeamSetter", name := "element", desc := "(II)I" } : MethodName) ({ cls := "BeamSetter", name := "element", desc := "(II)I" } : MethodName)) ∈ TW := tw_in 1174 (by decide +kernel) rfl
set_option maxRecDepth 20000 in
theorem k_1264 : (Cond.methodLink "BeamSetterLaw" (17 : Nat) ({ cls := "BeamSetter", name := "group", desc := "(II)I" } : MethodName)) ∈ TW := tw_in 1264 (by decide +kernel) rfl
set_option maxRecDepth 20000 in
theorem k_1265 : (Cond.instanceMethod ({ cls := "BeamSetter", name := "group", desc := "(II)I" } : MethodName)) ∈ TW := tw_in 1265 (by decide +kernel) rfl
set_option maxRecDepth 20000 in
theorem k_1266 : (Cond.selects "BeamSetter" ({ cls := "BeamSetter", name := "group", desc := "(II)I" } : MethodName) ({ cls := "BeamSetter", name := "group", desc := "(II)I" } : MethodName)) ∈ TW := tw_in 1266 (by decide +kernel) rfl
set_option maxRecDepth 20000 in
theorem k_1479 : (Cond.methodLink "BeamSetterLaw" (44 : Nat) ({ cls := "BeamSetterModel", name := "thrown", desc := "()I" } : MethodName)) ∈ TW := tw_in 1479 (by decide +kernel) rfl
set_option maxRecDepth 20000 in
theorem k_1480 : (Cond.instanceMethod ({ cls := "BeamSetterModel", name := "thrown", desc := "()I" } : MethodName)) ∈ TW := tw_in 1480 (by decide +kernel) rfl
set_option maxRecDepth 20000 in
theorem k_1481 : (Cond.selects "BeamSetterModel" ({ cls := "BeamSetterModel", name := "thrown", desc := "()I" } : MethodName) ({ cls := "BeamSetterModel", name := "thrown", desc := "()I" } : MethodName)) ∈ TW := tw_in 1481 (by decide +kernel) rfl
set_option maxRecDepth 20000 in
theorem k_1483 : (Cond.methodLink "BeamSetterLaw" (28 : Nat) ({ cls := "BeamSetterModel", name := "feed", desc := "(IIIII)I" } : MethodName)) ∈ TW := tw_in 1483 (by decide +kernel) rfl
set_option maxRecDepth 20000 in
theorem k_1484 : (Cond.instanceMethod ({ cls := "BeamSetterModel", name := "feed", desc := "(IIIII)I" } : MethodName)) ∈ TW := tw_in 1484 (by decide +kernel) rfl
set_option maxRecDepth 20000 in
theorem k_1485 : (Cond.selects "BeamSetterModel" ({ cls := "BeamSetterModel", name := "feed", desc := "(IIIII)I" } : MethodName) ({ cls := "BeamSetterModel", name := "feed", desc := "(IIIII)I" } : MethodName)) ∈ TW := tw_in 1485 (by decide +kernel) rfl
set_option maxRecDepth 20000 in
theorem k_1491 : (Cond.methodLink "BeamSetterLaw" (33 : Nat) ({ cls := "BeamSetterModel", name := "text", desc := "(I)I" } : MethodName)) ∈ TW := tw_in 1491 (by decide +kernel) rfl
set_option maxRecDepth 20000 in
theorem k_1492 : (Cond.instanceMethod ({ cls := "BeamSetterModel", name := "text", desc := "(I)I" } : MethodName)) ∈ TW := tw_in 1492 (by decide +kernel) rfl
set_option maxRecDepth 20000 in
theorem k_1493 : (Cond.selects "BeamSetterModel" ({ cls := "BeamSetterModel", name := "text", desc := "(I)I" } : MethodName) ({ cls := "BeamSetterModel", name := "text", desc := "(I)I" } : MethodName)) ∈ TW := tw_in 1493 (by decide +kernel) rfl
set_option maxRecDepth 20000 in
theorem k_1593 : (Cond.methodLink "BeamSetterLaw" (37 : Nat) ({ cls := "BeamSetterModel", name := "fault", desc := "(I)I" } : MethodName)) ∈ TW := tw_in 1593 (by decide +kernel) rfl
set_option maxRecDepth 20000 in
theorem k_1594 : (Cond.instanceMethod ({ cls := "BeamSetterModel", name := "fault", desc := "(I)I" } : MethodName)) ∈ TW := tw_in 1594 (by decide +kernel) rfl
set_option maxRecDepth 20000 in
theorem k_1595 : (Cond.selects "BeamSetterModel" ({ cls := "BeamSetterModel", name := "fault", desc := "(I)I" } : MethodName) ({ cls := "BeamSetterModel", name := "fault", desc := "(I)I" } : MethodName)) ∈ TW := tw_in 1595 (by decide +kernel) rfl
set_option maxRecDepth 20000 in
theorem k_1597 : (Cond.methodLink "BeamSetterLaw" (43 : Nat) ({ cls := "BeamSetterModel", name := "element", desc := "(II)I" } : MethodName)) ∈ TW := tw_in 1597 (by decide +kernel) rfl
set_option maxRecDepth 20000 in
theorem k_1598 : (Cond.instanceMethod ({ cls := "BeamSetterModel", name := "element", desc := "(II)I" } : MethodName)) ∈ TW := tw_in 1598 (by decide +kernel) rfl
set_option maxRecDepth 20000 in
theorem k_1599 : (Cond.selects "BeamSetterModel" ({ cls := "BeamSetterModel", name := "element", desc := "(II)I" } : MethodName) ({ cls := "BeamSetterModel", name := "element", desc := "(II)I" } : MethodName)) ∈ TW := tw_in 1599 (by decide +kernel) rfl
set_option maxRecDepth 20000 in
theorem k_1612 : (Cond.methodLink "BeamSetterLaw" (51 : Nat) ({ cls := "BeamSetterModel", name := "position", desc := "(I)I" } : MethodName)) ∈ TW := tw_in 1612 (by decide +kernel) rfl
set_option maxRecDepth 20000 in
theorem k_1613 : (Cond.instanceMethod ({ cls := "BeamSetterModel", name := "position", desc := "(I)I" } : MethodName)) ∈ TW := tw_in 1613 (by decide +kernel) rfl
set_option maxRecDepth 20000 in
theorem k_1614 : (Cond.selects "BeamSetterModel" ({ cls := "BeamSetterModel", name := "position", desc := "(I)I" } : MethodName) ({ cls := "BeamSetterModel", name := "position", desc := "(I)I" } : MethodName)) ∈ TW := tw_in 1614 (by decide +kernel) rfl
set_option maxRecDepth 20000 in
theorem k_1621 : (Cond.methodLink "BeamSetterLaw" (55 : Nat) ({ cls := "BeamSetterModel", name := "direction", desc := "(I)I" } : MethodName)) ∈ TW := tw_in 1621 (by decide +kernel) rfl
set_option maxRecDepth 20000 in
theorem k_1622 : (Cond.instanceMethod ({ cls := "BeamSetterModel", name := "direction", desc := "(I)I" } : MethodName)) ∈ TW := tw_in 1622 (by decide +kernel) rfl
set_option maxRecDepth 20000 in
theorem k_1623 : (Cond.selects "BeamSetterModel" ({ cls := "BeamSetterModel", name := "direction", desc := "(I)I" } : MethodName) ({ cls := "BeamSetterModel", name := "direction", desc := "(I)I" } : MethodName)) ∈ TW := tw_in 1623 (by decide +kernel) rfl
set_option maxRecDepth 20000 in
theorem k_1644 : (Cond.methodLink "BeamSetterLaw" (59 : Nat) ({ cls := "BeamSetterModel", name := "put", desc := "(II)I" } : MethodName)) ∈ TW := tw_in 1644 (by decide +kernel) rfl
set_option maxRecDepth 20000 in
theorem k_1645 : (Cond.instanceMethod ({ cls := "BeamSetterModel", name := "put", desc := "(II)I" } : MethodName)) ∈ TW := tw_in 1645 (by decide +kernel) rfl
set_option maxRecDepth 20000 in
theorem k_1646 : (Cond.selects "BeamSetterModel" ({ cls := "BeamSetterModel", name := "put", desc := "(II)I" } : MethodName) ({ cls := "BeamSetterModel", name := "put", desc := "(II)I" } : MethodName)) ∈ TW := tw_in 1646 (by decide +kernel) rfl
set_option maxRecDepth 20000 in
theorem k_1648 : (Cond.methodLink "BeamSetterLaw" (63 : Nat) ({ cls := "BeamSetterModel", name := "undo", desc := "()I" } : MethodName)) ∈ TW := tw_in 1648 (by decide +kernel) rfl
set_option maxRecDepth 20000 in
theorem k_1649 : (Cond.instanceMethod ({ cls := "BeamSetterModel", name := "undo", desc := "()I" } : MethodName)) ∈ TW := tw_in 1649 (by decide +kernel) rfl
set_option maxRecDepth 20000 in
theorem k_1650 : (Cond.selects "BeamSetterModel" ({ cls := "BeamSetterModel", name := "undo", desc := "()I" } : MethodName) ({ cls := "BeamSetterModel", name := "undo", desc := "()I" } : MethodName)) ∈ TW := tw_in 1650 (by decide +kernel) rfl
set_option maxRecDepth 20000 in
theorem k_1652 : (Cond.methodLink "BeamSetterLaw" (66 : Nat) ({ cls := "BeamSetterModel", name := "group", desc := "(II)I" } : MethodName)) ∈ TW := tw_in 1652 (by decide +kernel) rfl
set_option maxRecDepth 20000 in
theorem k_1653 : (Cond.instanceMethod ({ cls := "BeamSetterModel", name := "group", desc := "(II)I" } : MethodName)) ∈ TW := tw_in 1653 (by decide +kernel) rfl
set_option maxRecDepth 20000 in
theorem k_1654 : (Cond.selects "BeamSetterModel" ({ cls := "BeamSetterModel", name := "group", desc := "(II)I" } : MethodName) ({ cls := "BeamSetterModel", name := "group", desc := "(II)I" } : MethodName)) ∈ TW := tw_in 1654 (by decide +kernel) rfl
set_option maxRecDepth 20000 in
theorem k_1739 : (Cond.methodLink "BeamSetterLaw" (70 : Nat) ({ cls := "BeamSetterModel", name := "want", desc := "(I)I" } : MethodName)) ∈ TW := tw_in 1739 (by decide +kernel) rfl
set_option maxRecDepth 20000 in
theorem k_1740 : (Cond.instanceMethod ({ cls := "BeamSetterModel", name := "want", desc := "(I)I" } : MethodName)) ∈ TW := tw_in 1740 (by decide +kernel) rfl
set_option maxRecDepth 20000 in
theorem k_1741 : (Cond.selects "BeamSetterModel" ({ cls := "BeamSetterModel", name := "want", desc := "(I)I" } : MethodName) ({ cls := "BeamSetterModel", name := "want", desc := "(I)I" } : MethodName)) ∈ TW := tw_in 1741 (by decide +kernel) rfl
set_option maxRecDepth 20000 in
theorem k_1743 : (Cond.methodLink "BeamSetterLaw" (74 : Nat) ({ cls := "BeamSetterModel", name := "ideal", desc := "(I)I" } : MethodName)) ∈ TW := tw_in 1743 (by decide +kernel) rfl
set_option maxRecDepth 20000 in
theorem k_1744 : (Cond.instanceMethod ({ cls := "BeamSetterModel", name := "ideal", desc := "(I)I" } : MethodName)) ∈ TW := tw_in 1744 (by decide +kernel) rfl
set_option maxRecDepth 20000 in
theorem k_1745 : (Cond.selects "BeamSetterModel" ({ cls := "BeamSetterModel", name := "ideal", desc := "(I)I" } : MethodName) ({ cls := "BeamSetterModel", name := "ideal", desc := "(I)I" } : MethodName)) ∈ TW := tw_in 1745 (by decide +kernel) rfl
set_option maxRecDepth 20000 in
theorem k_1747 : (Cond.methodLink "BeamSetterLaw" (79 : Nat) ({ cls := "BeamSetterModel", name := "ugliness", desc := "(IIII)I" } : MethodName)) ∈ TW := tw_in 1747 (by decide +kernel) rfl
set_option maxRecDepth 20000 in
theorem k_1748 : (Cond.instanceMethod ({ cls := "BeamSetterModel", name := "ugliness", desc := "(IIII)I" } : MethodName)) ∈ TW := tw_in 1748 (by decide +kernel) rfl
set_option maxRecDepth 20000 in
theorem k_1749 : (Cond.selects "BeamSetterModel" ({ cls := "BeamSetterModel", name := "ugliness", desc := "(IIII)I" } : MethodName) ({ cls := "BeamSetterModel", name := "ugliness", desc := "(IIII)I" } : MethodName)) ∈ TW := tw_in 1749 (by decide +kernel) rfl
set_option maxRecDepth 20000 in
theorem k_1754 : (Cond.methodLink "BeamSetterLaw" (83 : Nat) ({ cls := "BeamSetterModel", name := "best", desc := "(II)I" } : MethodName)) ∈ TW := tw_in 1754 (by decide +kernel) rfl
set_option maxRecDepth 20000 in
theorem k_1755 : (Cond.instanceMethod ({ cls := "BeamSetterModel", name := "best", desc := "(II)I" } : MethodName)) ∈ TW := tw_in 1755 (by decide +kernel) rfl
set_option maxRecDepth 20000 in
theorem k_1756 : (Cond.selects "BeamSetterModel" ({ cls := "BeamSetterModel", name := "best", desc := "(II)I" } : MethodName) ({ cls := "BeamSetterModel", name := "best", desc := "(II)I" } : MethodName)) ∈ TW := tw_in 1756 (by decide +kernel) rfl
set_option maxRecDepth 20000 in
theorem k_1778 : (Cond.methodLink "BeamSetterLaw" (88 : Nat) ({ cls := "BeamSetterModel", name := "ranked", desc := "(III)I" } : MethodName)) ∈ TW := tw_in 1778 (by decide +kernel) rfl
set_option maxRecDepth 20000 in
theorem k_1779 : (Cond.instanceMethod ({ cls := "BeamSetterModel", name := "ranked", desc := "(III)I" } : MethodName)) ∈ TW := tw_in 1779 (by decide +kernel) rfl
set_option maxRecDepth 20000 in
theorem k_1780 : (Cond.selects "BeamSetterModel" ({ cls := "BeamSetterModel", name := "ranked", desc := "(III)I" } : MethodName) ({ cls := "BeamSetterModel", name := "ranked", desc := "(III)I" } : MethodName)) ∈ TW := tw_in 1780 (by decide +kernel) rfl
set_option maxRecDepth 20000 in
theorem k_1786 : (Cond.methodLink "BeamSetterLaw" (92 : Nat) ({ cls := "BeamSetterModel", name := "rank", desc := "(III)I" } : MethodName)) ∈ TW := tw_in 1786 (by decide +kernel) rfl
set_option maxRecDepth 20000 in
theorem k_1787 : (Cond.instanceMethod ({ cls := "BeamSetterModel", name := "rank", desc := "(III)I" } : MethodName)) ∈ TW := tw_in 1787 (by decide +kernel) rfl
set_option maxRecDepth 20000 in
theorem k_1788 : (Cond.selects "BeamSetterModel" ({ cls := "BeamSetterModel", name := "rank", desc := "(III)I" } : MethodName) ({ cls := "BeamSetterModel", name := "rank", desc := "(III)I" } : MethodName)) ∈ TW := tw_in 1788 (by decide +kernel) rfl
set_option maxRecDepth 20000 in
theorem k_1790 : (Cond.methodLink "BeamSetterLaw" (96 : Nat) ({ cls := "BeamSetterModel", name := "stem", desc := "(II)I" } : MethodName)) ∈ TW := tw_in 1790 (by decide +kernel) rfl
set_option maxRecDepth 20000 in
theorem k_1791 : (Cond.instanceMethod ({ cls := "BeamSetterModel", name := "stem", desc := "(II)I" } : MethodName)) ∈ TW := tw_in 1791 (by decide +kernel) rfl
set_option maxRecDepth 20000 in
theorem k_1792 : (Cond.selects "BeamSetterModel" ({ cls := "BeamSetterModel", name := "stem", desc := "(II)I" } : MethodName) ({ cls := "BeamSetterModel", name := "stem", desc := "(II)I" } : MethodName)) ∈ TW := tw_in 1792 (by decide +kernel) rfl
set_option maxRecDepth 20000 in
theorem k_1801 : (Cond.methodLink "BeamSetterLaw" (100 : Nat) ({ cls := "BeamSetterModel", name := "touch", desc := "(III)I" } : MethodName)) ∈ TW := tw_in 1801 (by decide +kernel) rfl
set_option maxRecDepth 20000 in
theorem k_1802 : (Cond.instanceMethod ({ cls := "BeamSetterModel", name := "touch", desc := "(III)I" } : MethodName)) ∈ TW := tw_in 1802 (by decide +kernel) rfl
set_option maxRecDepth 20000 in
theorem k_1803 : (Cond.selects "BeamSetterModel" ({ cls := "BeamSetterModel", name := "touch", desc := "(III)I" } : MethodName) ({ cls := "BeamSetterModel", name := "touch", desc := "(III)I" } : MethodName)) ∈ TW := tw_in 1803 (by decide +kernel) rfl
set_option maxRecDepth 20000 in
theorem k_1805 : (Cond.methodLink "BeamSetterLaw" (104 : Nat) ({ cls := "BeamSetterModel", name := "beams", desc := "(II)I" } : MethodName)) ∈ TW := tw_in 1805 (by decide +kernel) rfl
set_option maxRecDepth 20000 in
theorem k_1806 : (Cond.instanceMethod ({ cls := "BeamSetterModel", name := "beams", desc := "(II)I" } : MethodName)) ∈ TW := tw_in 1806 (by decide +kernel) rfl
set_option maxRecDepth 20000 in
theorem k_1807 : (Cond.selects "BeamSetterModel" ({ cls := "BeamSetterModel", name := "beams", desc := "(II)I" } : MethodName) ({ cls := "BeamSetterModel", name := "beams", desc := "(II)I" } : MethodName)) ∈ TW := tw_in 1807 (by decide +kernel) rfl
set_option maxRecDepth 20000 in
theorem k_1820 : (Cond.methodLink "BeamSetterLaw" (108 : Nat) ({ cls := "BeamSetterModel", name := "total", desc := "(I)I" } : MethodName)) ∈ TW := tw_in 1820 (by decide +kernel) rfl
set_option maxRecDepth 20000 in
theorem k_1821 : (Cond.instanceMethod ({ cls := "BeamSetterModel", name := "total", desc := "(I)I" } : MethodName)) ∈ TW := tw_in 1821 (by decide +kernel) rfl
set_option maxRecDepth 20000 in
theorem k_1822 : (Cond.selects "BeamSetterModel" ({ cls := "BeamSetterModel", name := "total", desc := "(I)I" } : MethodName) ({ cls := "BeamSetterModel", name := "total", desc := "(I)I" } : MethodName)) ∈ TW := tw_in 1822 (by decide +kernel) rfl
set_option maxRecDepth 20000 in
theorem k_1832 : (Cond.methodLink "BeamSetterLaw" (112 : Nat) ({ cls := "BeamSetterModel", name := "ifPut", desc := "(III)I" } : MethodName)) ∈ TW := tw_in 1832 (by decide +kernel) rfl
set_option maxRecDepth 20000 in
theorem k_1833 : (Cond.instanceMethod ({ cls := "BeamSetterModel", name := "ifPut", desc := "(III)I" } : MethodName)) ∈ TW := tw_in 1833 (by decide +kernel) rfl
set_option maxRecDepth 20000 in
theorem k_1834 : (Cond.selects "BeamSetterModel" ({ cls := "BeamSetterModel", name := "ifPut", desc := "(III)I" } : MethodName) ({ cls := "BeamSetterModel", name := "ifPut", desc := "(III)I" } : MethodName)) ∈ TW := tw_in 1834 (by decide +kernel) rfl
set_option maxRecDepth 20000 in
theorem k_1836 : (Cond.methodLink "BeamSetterLaw" (116 : Nat) ({ cls := "BeamSetterModel", name := "wish", desc := "(I)I" } : MethodName)) ∈ TW := tw_in 1836 (by decide +kernel) rfl
set_option maxRecDepth 20000 in
theorem k_1837 : (Cond.instanceMethod ({ cls := "BeamSetterModel", name := "wish", desc := "(I)I" } : MethodName)) ∈ TW := tw_in 1837 (by decide +kernel) rfl
set_option maxRecDepth 20000 in
theorem k_1838 : (Cond.selects "BeamSetterModel" ({ cls := "BeamSetterModel", name := "wish", desc := "(I)I" } : MethodName) ({ cls := "BeamSetterModel", name := "wish", desc := "(I)I" } : MethodName)) ∈ TW := tw_in 1838 (by decide +kernel) rfl
set_option maxRecDepth 20000 in
theorem k_1840 : (Cond.methodLink "BeamSetterLaw" (120 : Nat) ({ cls := "BeamSetterModel", name := "ifShifted", desc := "(II)I" } : MethodName)) ∈ TW := tw_in 1840 (by decide +kernel) rfl
set_option maxRecDepth 20000 in
theorem k_1841 : (Cond.instanceMethod ({ cls := "BeamSetterModel", name := "ifShifted", desc := "(II)I" } : MethodName)) ∈ TW := tw_in 1841 (by decide +kernel) rfl
set_option maxRecDepth 20000 in
theorem k_1842 : (Cond.selects "BeamSetterModel" ({ cls := "BeamSetterModel", name := "ifShifted", desc := "(II)I" } : MethodName) ({ cls := "BeamSetterModel", name := "ifShifted", desc := "(II)I" } : MethodName)) ∈ TW := tw_in 1842 (by decide +kernel) rfl
set_option maxRecDepth 20000 in
theorem k_1848 : (Cond.methodLink "BeamSetterLaw" (124 : Nat) ({ cls := "BeamSetterModel", name := "shift", desc := "()I" } : MethodName)) ∈ TW := tw_in 1848 (by decide +kernel) rfl
set_option maxRecDepth 20000 in
theorem k_1849 : (Cond.instanceMethod ({ cls := "BeamSetterModel", name := "shift", desc := "()I" } : MethodName)) ∈ TW := tw_in 1849 (by decide +kernel) rfl
set_option maxRecDepth 20000 in
theorem k_1850 : (Cond.selects "BeamSetterModel" ({ cls := "BeamSetterModel", name := "shift", desc := "()I" } : MethodName) ({ cls := "BeamSetterModel", name := "shift", desc := "()I" } : MethodName)) ∈ TW := tw_in 1850 (by decide +kernel) rfl
set_option maxRecDepth 20000 in
theorem k_1852 : (Cond.methodLink "BeamSetterLaw" (128 : Nat) ({ cls := "BeamSetterModel", name := "mirrored", desc := "(I)I" } : MethodName)) ∈ TW := tw_in 1852 (by decide +kernel) rfl
set_option maxRecDepth 20000 in
theorem k_1853 : (Cond.instanceMethod ({ cls := "BeamSetterModel", name := "mirrored", desc := "(I)I" } : MethodName)) ∈ TW := tw_in 1853 (by decide +kernel) rfl
set_option maxRecDepth 20000 in
theorem k_1854 : (Cond.selects "BeamSetterModel" ({ cls := "BeamSetterModel", name := "mirrored", desc := "(I)I" } : MethodName) ({ cls := "BeamSetterModel", name := "mirrored", desc := "(I)I" } : MethodName)) ∈ TW := tw_in 1854 (by decide +kernel) rfl
set_option maxRecDepth 20000 in
theorem k_1856 : (Cond.methodLink "BeamSetterLaw" (132 : Nat) ({ cls := "BeamSetterModel", name := "ifKnee", desc := "(II)I" } : MethodName)) ∈ TW := tw_in 1856 (by decide +kernel) rfl
set_option maxRecDepth 20000 in
theorem k_1857 : (Cond.instanceMethod ({ cls := "BeamSetterModel", name := "ifKnee", desc := "(II)I" } : MethodName)) ∈ TW := tw_in 1857 (by decide +kernel) rfl
set_option maxRecDepth 20000 in
theorem k_1858 : (Cond.selects "BeamSetterModel" ({ cls := "BeamSetterModel", name := "ifKnee", desc := "(II)I" } : MethodName) ({ cls := "BeamSetterModel", name := "ifKnee", desc := "(II)I" } : MethodName)) ∈ TW := tw_in 1858 (by decide +kernel) rfl
set_option maxRecDepth 20000 in
theorem k_1860 : (Cond.methodLink "BeamSetterLaw" (136 : Nat) ({ cls := "BeamSetterModel", name := "ifParts", desc := "(I)I" } : MethodName)) ∈ TW := tw_in 1860 (by decide +kernel) rfl
set_option maxRecDepth 20000 in
theorem k_1861 : (Cond.instanceMethod ({ cls := "BeamSetterModel", name := "ifParts", desc := "(I)I" } : MethodName)) ∈ TW := tw_in 1861 (by decide +kernel) rfl
set_option maxRecDepth 20000 in
theorem k_1862 : (Cond.selects "BeamSetterModel" ({ cls := "BeamSetterModel", name := "ifParts", desc := "(I)I" } : MethodName) ({ cls := "BeamSetterModel", name := "ifParts", desc := "(I)I" } : MethodName)) ∈ TW := tw_in 1862 (by decide +kernel) rfl
set_option maxRecDepth 20000 in
theorem k_1868 : (Cond.methodLink "BeamSetterLaw" (144 : Nat) ({ cls := "BeamSetterModel", name := "stretches", desc := "(II)I" } : MethodName)) ∈ TW := tw_in 1868 (by decide +kernel) rfl
set_option maxRecDepth 20000 in
theorem k_1869 : (Cond.instanceMethod ({ cls := "BeamSetterModel", name := "stretches", desc := "(II)I" } : MethodName)) ∈ TW := tw_in 1869 (by decide +kernel) rfl
set_option maxRecDepth 20000 in
theorem k_1870 : (Cond.selects "BeamSetterModel" ({ cls := "BeamSetterModel", name := "stretches", desc := "(II)I" } : MethodName) ({ cls := "BeamSetterModel", name := "stretches", desc := "(II)I" } : MethodName)) ∈ TW := tw_in 1870 (by decide +kernel) rfl
set_option maxRecDepth 20000 in
theorem k_1888 : (Cond.methodLink "BeamSetterLaw" (148 : Nat) ({ cls := "BeamSetterModel", name := "stretch", desc := "(IIII)I" } : MethodName)) ∈ TW := tw_in 1888 (by decide +kernel) rfl
set_option maxRecDepth 20000 in
theorem k_1889 : (Cond.instanceMethod ({ cls := "BeamSetterModel", name := "stretch", desc := "(IIII)I" } : MethodName)) ∈ TW := tw_in 1889 (by decide +kernel) rfl
set_option maxRecDepth 20000 in
theorem k_1890 : (Cond.selects "BeamSetterModel" ({ cls := "BeamSetterModel", name := "stretch", desc := "(IIII)I" } : MethodName) ({ cls := "BeamSetterModel", name := "stretch", desc := "(IIII)I" } : MethodName)) ∈ TW := tw_in 1890 (by decide +kernel) rfl
set_option maxRecDepth 20000 in
theorem k_1892 : (Cond.methodLink "BeamSetterLaw" (152 : Nat) ({ cls := "BeamSetterModel", name := "level", desc := "(II)I" } : MethodName)) ∈ TW := tw_in 1892 (by decide +kernel) rfl
set_option maxRecDepth 20000 in
theorem k_1893 : (Cond.instanceMethod ({ cls := "BeamSetterModel", name := "level", desc := "(II)I" } : MethodName)) ∈ TW := tw_in 1893 (by decide +kernel) rfl
set_option maxRecDepth 20000 in
theorem k_1894 : (Cond.selects "BeamSetterModel" ({ cls := "BeamSetterModel", name := "level", desc := "(II)I" } : MethodName) ({ cls := "BeamSetterModel", name := "level", desc := "(II)I" } : MethodName)) ∈ TW := tw_in 1894 (by decide +kernel) rfl
set_option maxRecDepth 20000 in
theorem k_1896 : (Cond.methodLink "BeamSetterLaw" (156 : Nat) ({ cls := "BeamSetterModel", name := "ifCut", desc := "(II)I" } : MethodName)) ∈ TW := tw_in 1896 (by decide +kernel) rfl
set_option maxRecDepth 20000 in
theorem k_1897 : (Cond.instanceMethod ({ cls := "BeamSetterModel", name := "ifCut", desc := "(II)I" } : MethodName)) ∈ TW := tw_in 1897 (by decide +kernel) rfl
set_option maxRecDepth 20000 in
theorem k_1898 : (Cond.selects "BeamSetterModel" ({ cls := "BeamSetterModel", name := "ifCut", desc := "(II)I" } : MethodName) ({ cls := "BeamSetterModel", name := "ifCut", desc := "(II)I" } : MethodName)) ∈ TW := tw_in 1898 (by decide +kernel) rfl
set_option maxRecDepth 20000 in
theorem k_1908 : (Cond.methodLink "BeamSetterLaw" (160 : Nat) ({ cls := "BeamSetterModel", name := "cut", desc := "(I)I" } : MethodName)) ∈ TW := tw_in 1908 (by decide +kernel) rfl
set_option maxRecDepth 20000 in
theorem k_1909 : (Cond.instanceMethod ({ cls := "BeamSetterModel", name := "cut", desc := "(I)I" } : MethodName)) ∈ TW := tw_in 1909 (by decide +kernel) rfl
set_option maxRecDepth 20000 in
theorem k_1910 : (Cond.selects "BeamSetterModel" ({ cls := "BeamSetterModel", name := "cut", desc := "(I)I" } : MethodName) ({ cls := "BeamSetterModel", name := "cut", desc := "(I)I" } : MethodName)) ∈ TW := tw_in 1910 (by decide +kernel) rfl
set_option maxRecDepth 20000 in
theorem k_1912 : (Cond.methodLink "BeamSetterLaw" (164 : Nat) ({ cls := "BeamSetterModel", name := "smooth", desc := "(II)I" } : MethodName)) ∈ TW := tw_in 1912 (by decide +kernel) rfl
set_option maxRecDepth 20000 in
theorem k_1913 : (Cond.instanceMethod ({ cls := "BeamSetterModel", name := "smooth", desc := "(II)I" } : MethodName)) ∈ TW := tw_in 1913 (by decide +kernel) rfl
set_option maxRecDepth 20000 in
theorem k_1914 : (Cond.selects "BeamSetterModel" ({ cls := "BeamSetterModel", name := "smooth", desc := "(II)I" } : MethodName) ({ cls := "BeamSetterModel", name := "smooth", desc := "(II)I" } : MethodName)) ∈ TW := tw_in 1914 (by decide +kernel) rfl
set_option maxRecDepth 20000 in
theorem k_1929 : (Cond.methodLink "BeamSetterLaw" (168 : Nat) ({ cls := "BeamSetterModel", name := "smoothed", desc := "(III)I" } : MethodName)) ∈ TW := tw_in 1929 (by decide +kernel) rfl
set_option maxRecDepth 20000 in
theorem k_1930 : (Cond.instanceMethod ({ cls := "BeamSetterModel", name := "smoothed", desc := "(III)I" } : MethodName)) ∈ TW := tw_in 1930 (by decide +kernel) rfl
set_option maxRecDepth 20000 in
theorem k_1931 : (Cond.selects "BeamSetterModel" ({ cls := "BeamSetterModel", name := "smoothed", desc := "(III)I" } : MethodName) ({ cls := "BeamSetterModel", name := "smoothed", desc := "(III)I" } : MethodName)) ∈ TW := tw_in 1931 (by decide +kernel) rfl
set_option maxRecDepth 20000 in
theorem k_1933 : (Cond.methodLink "BeamSetterLaw" (172 : Nat) ({ cls := "BeamSetterModel", name := "single", desc := "(II)I" } : MethodName)) ∈ TW := tw_in 1933 (by decide +kernel) rfl
set_option maxRecDepth 20000 in
theorem k_1934 : (Cond.instanceMethod ({ cls := "BeamSetterModel", name := "single", desc := "(II)I" } : MethodName)) ∈ TW := tw_in 1934 (by decide +kernel) rfl
set_option maxRecDepth 20000 in
theorem k_1935 : (Cond.selects "BeamSetterModel" ({ cls := "BeamSetterModel", name := "single", desc := "(II)I" } : MethodName) ({ cls := "BeamSetterModel", name := "single", desc := "(II)I" } : MethodName)) ∈ TW := tw_in 1935 (by decide +kernel) rfl
set_option maxRecDepth 20000 in
theorem k_1937 : (Cond.methodLink "BeamSetterLaw" (176 : Nat) ({ cls := "BeamSetterModel", name := "extreme", desc := "(II)I" } : MethodName)) ∈ TW := tw_in 1937 (by decide +kernel) rfl
set_option maxRecDepth 20000 in
theorem k_1938 : (Cond.instanceMethod ({ cls := "BeamSetterModel", name := "extreme", desc := "(II)I" } : MethodName)) ∈ TW := tw_in 1938 (by decide +kernel) rfl
set_option maxRecDepth 20000 in
theorem k_1939 : (Cond.selects "BeamSetterModel" ({ cls := "BeamSetterModel", name := "extreme", desc := "(II)I" } : MethodName) ({ cls := "BeamSetterModel", name := "extreme", desc := "(II)I" } : MethodName)) ∈ TW := tw_in 1939 (by decide +kernel) rfl
set_option maxRecDepth 20000 in
theorem k_1941 : (Cond.methodLink "BeamSetterLaw" (140 : Nat) ({ cls := "BeamSetterModel", name := "alone", desc := "(I)I" } : MethodName)) ∈ TW := tw_in 1941 (by decide +kernel) rfl
set_option maxRecDepth 20000 in
theorem k_1942 : (Cond.instanceMethod ({ cls := "BeamSetterModel", name := "alone", desc := "(I)I" } : MethodName)) ∈ TW := tw_in 1942 (by decide +kernel) rfl
set_option maxRecDepth 20000 in
theorem k_1943 : (Cond.selects "BeamSetterModel" ({ cls := "BeamSetterModel", name := "alone", desc := "(I)I" } : MethodName) ({ cls := "BeamSetterModel", name := "alone", desc := "(I)I" } : MethodName)) ∈ TW := tw_in 1943 (by decide +kernel) rfl
set_option maxRecDepth 20000 in
theorem k_1945 : (Cond.methodLink "BeamSetterLaw" (180 : Nat) ({ cls := "BeamSetterModel", name := "count", desc := "(I)I" } : MethodName)) ∈ TW := tw_in 1945 (by decide +kernel) rfl
set_option maxRecDepth 20000 in
theorem k_1946 : (Cond.instanceMethod ({ cls := "BeamSetterModel", name := "count", desc := "(I)I" } : MethodName)) ∈ TW := tw_in 1946 (by decide +kernel) rfl
set_option maxRecDepth 20000 in
theorem k_1947 : (Cond.selects "BeamSetterModel" ({ cls := "BeamSetterModel", name := "count", desc := "(I)I" } : MethodName) ({ cls := "BeamSetterModel", name := "count", desc := "(I)I" } : MethodName)) ∈ TW := tw_in 1947 (by decide +kernel) rfl
def M_LL : AMeth := (yL_law, cL_law, 7, ret, 11, 0)
def M_L_element : AMeth := (yL_element, cL_element, 5, (some .int), 10, 440)
def M_L_group : AMeth := (yL_group, cL_group, 5, (some .int), 10, 440)
theorem gL_law_235 : g_Cv M_LL 235 M_X7_feed 5 := ⟨24, dL_law_235, k_468, k_469, k_470, ok_X7_feed⟩
theorem gL_law_269 : g_Cv M_LL 269 M_X8_feed 5 := ⟨28, dL_law_269, k_1483, k_1484, k_1485, ok_X8_feed⟩
theorem gL_law_284 : g_Cv M_LL 284 M_X7_text 1 := ⟨29, dL_law_284, k_480, k_481, k_482, ok_X7_text⟩
theorem gL_law_294 : g_Cv M_LL 294 M_X8_text 1 := ⟨33, dL_law_294, k_1491, k_1492, k_1493, ok_X8_text⟩
theorem gL_law_309 : g_Cv M_LL 309 M_X7_fault 1 := ⟨34, dL_law_309, k_688, k_689, k_690, ok_X7_fault⟩
theorem gL_law_319 : g_Cv M_LL 319 M_X8_fault 1 := ⟨37, dL_law_319, k_1593, k_1594, k_1595, ok_X8_fault⟩
theorem gL_law_359 : g_Cv M_LL 359 M_X8_element 2 := ⟨43, dL_law_359, k_1597, k_1598, k_1599, ok_X8_element⟩
theorem gL_law_365 : g_Cv M_LL 365 M_X8_thrown 0 := ⟨44, dL_law_365, k_1479, k_1480, k_1481, ok_X8_thrown⟩
theorem gL_law_402 : g_Cv M_LL 402 M_X7_position 1 := ⟨48, dL_law_402, k_692, k_693, k_694, ok_X7_position⟩
theorem gL_law_412 : g_Cv M_LL 412 M_X8_position 1 := ⟨51, dL_law_412, k_1612, k_1613, k_1614, ok_X8_position⟩
theorem gL_law_427 : g_Cv M_LL 427 M_X7_direction 1 := ⟨52, dL_law_427, k_705, k_706, k_707, ok_X7_direction⟩
theorem gL_law_437 : g_Cv M_LL 437 M_X8_direction 1 := ⟨55, dL_law_437, k_1621, k_1622, k_1623, ok_X8_direction⟩
theorem gL_law_458 : g_Cv M_LL 458 M_X7_put 2 := ⟨56, dL_law_458, k_756, k_757, k_758, ok_X7_put⟩
theorem gL_law_474 : g_Cv M_LL 474 M_X8_put 2 := ⟨59, dL_law_474, k_1644, k_1645, k_1646, ok_X8_put⟩
theorem gL_law_483 : g_Cv M_LL 483 M_X7_undo 0 := ⟨60, dL_law_483, k_770, k_771, k_772, ok_X7_undo⟩
theorem gL_law_487 : g_Cv M_LL 487 M_X8_undo 0 := ⟨63, dL_law_487, k_1648, k_1649, k_1650, ok_X8_undo⟩
theorem gL_law_527 : g_Cv M_LL 527 M_X8_group 2 := ⟨66, dL_law_527, k_1652, k_1653, k_1654, ok_X8_group⟩
theorem gL_law_533 : g_Cv M_LL 533 M_X8_thrown 0 := ⟨44, dL_law_533, k_1479, k_1480, k_1481, ok_X8_thrown⟩
theorem gL_law_570 : g_Cv M_LL 570 M_X7_want 1 := ⟨67, dL_law_570, k_787, k_788, k_789, ok_X7_want⟩
theorem gL_law_580 : g_Cv M_LL 580 M_X8_want 1 := ⟨70, dL_law_580, k_1739, k_1740, k_1741, ok_X8_want⟩
theorem gL_law_595 : g_Cv M_LL 595 M_X7_ideal 1 := ⟨71, dL_law_595, k_795, k_796, k_797, ok_X7_ideal⟩
theorem gL_law_605 : g_Cv M_LL 605 M_X8_ideal 1 := ⟨74, dL_law_605, k_1743, k_1744, k_1745, ok_X8_ideal⟩
theorem gL_law_638 : g_Cv M_LL 638 M_X7_ugliness 4 := ⟨75, dL_law_638, k_799, k_800, k_801, ok_X7_ugliness⟩
theorem gL_law_666 : g_Cv M_LL 666 M_X8_ugliness 4 := ⟨79, dL_law_666, k_1747, k_1748, k_1749, ok_X8_ugliness⟩
theorem gL_law_687 : g_Cv M_LL 687 M_X7_best 2 := ⟨80, dL_law_687, k_843, k_844, k_845, ok_X7_best⟩
theorem gL_law_703 : g_Cv M_LL 703 M_X8_best 2 := ⟨83, dL_law_703, k_1754, k_1755, k_1756, ok_X8_best⟩
theorem gL_law_730 : g_Cv M_LL 730 M_X7_ranked 3 := ⟨84, dL_law_730, k_890, k_891, k_892, ok_X7_ranked⟩
theorem gL_law_752 : g_Cv M_LL 752 M_X8_ranked 3 := ⟨88, dL_law_752, k_1778, k_1779, k_1780, ok_X8_ranked⟩
theorem gL_law_779 : g_Cv M_LL 779 M_X7_rank 3 := ⟨89, dL_law_779, k_902, k_903, k_904, ok_X7_rank⟩
theorem gL_law_801 : g_Cv M_LL 801 M_X8_rank 3 := ⟨92, dL_law_801, k_1786, k_1787, k_1788, ok_X8_rank⟩
theorem gL_law_822 : g_Cv M_LL 822 M_X7_stem 2 := ⟨93, dL_law_822, k_915, k_916, k_917, ok_X7_stem⟩
theorem gL_law_838 : g_Cv M_LL 838 M_X8_stem 2 := ⟨96, dL_law_838, k_1790, k_1791, k_1792, ok_X8_stem⟩
theorem gL_law_865 : g_Cv M_LL 865 M_X7_touch 3 := ⟨97, dL_law_865, k_933, k_934, k_935, ok_X7_touch⟩
theorem gL_law_887 : g_Cv M_LL 887 M_X8_touch 3 := ⟨100, dL_law_887, k_1801, k_1802, k_1803, ok_X8_touch⟩
theorem gL_law_908 : g_Cv M_LL 908 M_X7_beams 2 := ⟨101, dL_law_908, k_953, k_954, k_955, ok_X7_beams⟩
theorem gL_law_924 : g_Cv M_LL 924 M_X8_beams 2 := ⟨104, dL_law_924, k_1805, k_1806, k_1807, ok_X8_beams⟩
theorem gL_law_939 : g_Cv M_LL 939 M_X7_total 1 := ⟨105, dL_law_939, k_979, k_980, k_981, ok_X7_total⟩
theorem gL_law_949 : g_Cv M_LL 949 M_X8_total 1 := ⟨108, dL_law_949, k_1820, k_1821, k_1822, ok_X8_total⟩
theorem gL_law_976 : g_Cv M_LL 976 M_X7_ifPut 3 := ⟨109, dL_law_976, k_999, k_1000, k_1001, ok_X7_ifPut⟩
theorem gL_law_998 : g_Cv M_LL 998 M_X8_ifPut 3 := ⟨112, dL_law_998, k_1832, k_1833, k_1834, ok_X8_ifPut⟩
theorem gL_law_1013 : g_Cv M_LL 1013 M_X7_wish 1 := ⟨113, dL_law_1013, k_1011, k_1012, k_1013, ok_X7_wish⟩
theorem gL_law_1023 : g_Cv M_LL 1023 M_X8_wish 1 := ⟨116, dL_law_1023, k_1836, k_1837, k_1838, ok_X8_wish⟩
theorem gL_law_1044 : g_Cv M_LL 1044 M_X7_ifShifted 2 := ⟨117, dL_law_1044, k_1020, k_1021, k_1022, ok_X7_ifShifted⟩
theorem gL_law_1060 : g_Cv M_LL 1060 M_X8_ifShifted 2 := ⟨120, dL_law_1060, k_1840, k_1841, k_1842, ok_X8_ifShifted⟩
theorem gL_law_1069 : g_Cv M_LL 1069 M_X7_shift 0 := ⟨121, dL_law_1069, k_1024, k_1025, k_1026, ok_X7_shift⟩
theorem gL_law_1073 : g_Cv M_LL 1073 M_X8_shift 0 := ⟨124, dL_law_1073, k_1848, k_1849, k_1850, ok_X8_shift⟩
theorem gL_law_1088 : g_Cv M_LL 1088 M_X7_mirrored 1 := ⟨125, dL_law_1088, k_1032, k_1033, k_1034, ok_X7_mirrored⟩
theorem gL_law_1098 : g_Cv M_LL 1098 M_X8_mirrored 1 := ⟨128, dL_law_1098, k_1852, k_1853, k_1854, ok_X8_mirrored⟩
theorem gL_law_1119 : g_Cv M_LL 1119 M_X7_ifKnee 2 := ⟨129, dL_law_1119, k_1036, k_1037, k_1038, ok_X7_ifKnee⟩
theorem gL_law_1135 : g_Cv M_LL 1135 M_X8_ifKnee 2 := ⟨132, dL_law_1135, k_1856, k_1857, k_1858, ok_X8_ifKnee⟩
theorem gL_law_1150 : g_Cv M_LL 1150 M_X7_ifParts 1 := ⟨133, dL_law_1150, k_1040, k_1041, k_1042, ok_X7_ifParts⟩
theorem gL_law_1160 : g_Cv M_LL 1160 M_X8_ifParts 1 := ⟨136, dL_law_1160, k_1860, k_1861, k_1862, ok_X8_ifParts⟩
theorem gL_law_1175 : g_Cv M_LL 1175 M_X7_alone 1 := ⟨137, dL_law_1175, k_1048, k_1049, k_1050, ok_X7_alone⟩
theorem gL_law_1185 : g_Cv M_LL 1185 M_X8_alone 1 := ⟨140, dL_law_1185, k_1941, k_1942, k_1943, ok_X8_alone⟩
theorem gL_law_1206 : g_Cv M_LL 1206 M_X7_stretches 2 := ⟨141, dL_law_1206, k_1053, k_1054, k_1055, ok_X7_stretches⟩
theorem gL_law_1222 : g_Cv M_LL 1222 M_X8_stretches 2 := ⟨144, dL_law_1222, k_1868, k_1869, k_1870, ok_X8_stretches⟩
theorem gL_law_1255 : g_Cv M_LL 1255 M_X7_stretch 4 := ⟨145, dL_law_1255, k_1065, k_1066, k_1067, ok_X7_stretch⟩
theorem gL_law_1283 : g_Cv M_LL 1283 M_X8_stretch 4 := ⟨148, dL_law_1283, k_1888, k_1889, k_1890, ok_X8_stretch⟩
theorem gL_law_1304 : g_Cv M_LL 1304 M_X7_level 2 := ⟨149, dL_law_1304, k_1077, k_1078, k_1079, ok_X7_level⟩
theorem gL_law_1320 : g_Cv M_LL 1320 M_X8_level 2 := ⟨152, dL_law_1320, k_1892, k_1893, k_1894, ok_X8_level⟩
theorem gL_law_1341 : g_Cv M_LL 1341 M_X7_ifCut 2 := ⟨153, dL_law_1341, k_1085, k_1086, k_1087, ok_X7_ifCut⟩
theorem gL_law_1357 : g_Cv M_LL 1357 M_X8_ifCut 2 := ⟨156, dL_law_1357, k_1896, k_1897, k_1898, ok_X8_ifCut⟩
theorem gL_law_1372 : g_Cv M_LL 1372 M_X7_cut 1 := ⟨157, dL_law_1372, k_1097, k_1098, k_1099, ok_X7_cut⟩
theorem gL_law_1382 : g_Cv M_LL 1382 M_X8_cut 1 := ⟨160, dL_law_1382, k_1908, k_1909, k_1910, ok_X8_cut⟩
theorem gL_law_1403 : g_Cv M_LL 1403 M_X7_smooth 2 := ⟨161, dL_law_1403, k_1101, k_1102, k_1103, ok_X7_smooth⟩
theorem gL_law_1419 : g_Cv M_LL 1419 M_X8_smooth 2 := ⟨164, dL_law_1419, k_1912, k_1913, k_1914, ok_X8_smooth⟩
theorem gL_law_1446 : g_Cv M_LL 1446 M_X7_smoothed 3 := ⟨165, dL_law_1446, k_1132, k_1133, k_1134, ok_X7_smoothed⟩
theorem gL_law_1468 : g_Cv M_LL 1468 M_X8_smoothed 3 := ⟨168, dL_law_1468, k_1929, k_1930, k_1931, ok_X8_smoothed⟩
theorem gL_law_1489 : g_Cv M_LL 1489 M_X7_single 2 := ⟨169, dL_law_1489, k_1146, k_1147, k_1148, ok_X7_single⟩
theorem gL_law_1505 : g_Cv M_LL 1505 M_X8_single 2 := ⟨172, dL_law_1505, k_1933, k_1934, k_1935, ok_X8_single⟩
theorem gL_law_1526 : g_Cv M_LL 1526 M_X7_extreme 2 := ⟨173, dL_law_1526, k_1151, k_1152, k_1153, ok_X7_extreme⟩
theorem gL_law_1542 : g_Cv M_LL 1542 M_X8_extreme 2 := ⟨176, dL_law_1542, k_1937, k_1938, k_1939, ok_X8_extreme⟩
theorem gL_law_1557 : g_Cv M_LL 1557 M_X7_count 1 := ⟨177, dL_law_1557, k_1155, k_1156, k_1157, ok_X7_count⟩
theorem gL_law_1567 : g_Cv M_LL 1567 M_X8_count 1 := ⟨180, dL_law_1567, k_1945, k_1946, k_1947, ok_X8_count⟩
theorem gL_element_5 : g_Cv M_L_element 5 M_X7_element 2 := ⟨7, dL_element_5, k_1172, k_1173, k_1174, ok_X7_element⟩
theorem gL_group_5 : g_Cv M_L_group 5 M_X7_group 2 := ⟨17, dL_group_5, k_1264, k_1265, k_1266, ok_X7_group⟩
