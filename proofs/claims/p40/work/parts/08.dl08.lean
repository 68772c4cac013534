theorem dL_isBest_277 : decode cL_isBest 277 = .ok (.iconst 0, 1) := by decide +kernel
theorem dL_isBest_278 : decode cL_isBest 278 = .ok (.ireturn, 1) := by decide +kernel
theorem dL_isBest_279 : decode cL_isBest 279 = .ok (.aload 9, 2) := by decide +kernel
theorem dL_isBest_281 : decode cL_isBest 281 = .ok (.ifnonnull 29, 3) := by decide +kernel
theorem dL_isBest_284 : decode cL_isBest 284 = .ok (.aload_n 0, 1) := by decide +kernel
theorem dL_isBest_285 : decode cL_isBest 285 = .ok (.iconst 0, 1) := by decide +kernel
theorem dL_isBest_286 : decode cL_isBest 286 = .ok (.iconst 0, 1) := by decide +kernel
theorem dL_isBest_287 : decode cL_isBest 287 = .ok (.invokevirtual 137, 3) := by decide +kernel
theorem dL_isBest_290 : decode cL_isBest 290 = .ok (.ldc 140, 2) := by decide +kernel
theorem dL_isBest_292 : decode cL_isBest 292 = .ok (.if_icmp .ne 16, 3) := by decide +kernel
theorem dL_isBest_295 : decode cL_isBest 295 = .ok (.aload_n 0, 1) := by decide +kernel
theorem dL_isBest_296 : decode cL_isBest 296 = .ok (.iconst 1, 1) := by decide +kernel
theorem dL_isBest_297 : decode cL_isBest 297 = .ok (.invokevirtual 141, 3) := by decide +kernel
theorem dL_isBest_300 : decode cL_isBest 300 = .ok (.iconst 1, 1) := by decide +kernel
theorem dL_isBest_301 : decode cL_isBest 301 = .ok (.if_icmp .ne 7, 3) := by decide +kernel
theorem dL_isBest_304 : decode cL_isBest 304 = .ok (.iconst 1, 1) := by decide +kernel
theorem dL_isBest_305 : decode cL_isBest 305 = .ok (.goto 4, 3) := by decide +kernel
theorem dL_isBest_308 : decode cL_isBest 308 = .ok (.iconst 0, 1) := by decide +kernel
theorem dL_isBest_309 : decode cL_isBest 309 = .ok (.ireturn, 1) := by decide +kernel
theorem dL_isBest_310 : decode cL_isBest 310 = .ok (.aload_n 0, 1) := by decide +kernel
theorem dL_isBest_311 : decode cL_isBest 311 = .ok (.iconst 0, 1) := by decide +kernel
theorem dL_isBest_312 : decode cL_isBest 312 = .ok (.iconst 0, 1) := by decide +kernel
theorem dL_isBest_313 : decode cL_isBest 313 = .ok (.invokevirtual 137, 3) := by decide +kernel
theorem dL_isBest_316 : decode cL_isBest 316 = .ok (.iload 6, 2) := by decide +kernel
theorem dL_isBest_318 : decode cL_isBest 318 = .ok (.if_icmp .ne 84, 3) := by decide +kernel
theorem dL_isBest_321 : decode cL_isBest 321 = .ok (.aload_n 0, 1) := by decide +kernel
theorem dL_isBest_322 : decode cL_isBest 322 = .ok (.iconst 0, 1) := by decide +kernel
theorem dL_isBest_323 : decode cL_isBest 323 = .ok (.iconst 1, 1) := by decide +kernel
theorem dL_isBest_324 : decode cL_isBest 324 = .ok (.invokevirtual 137, 3) := by decide +kernel
theorem dL_isBest_327 : decode cL_isBest 327 = .ok (.iload 7, 2) := by decide +kernel
theorem dL_isBest_329 : decode cL_isBest 329 = .ok (.if_icmp .ne 73, 3) := by decide +kernel
theorem dL_isBest_332 : decode cL_isBest 332 = .ok (.aload_n 0, 1) := by decide +kernel
theorem dL_isBest_333 : decode cL_isBest 333 = .ok (.iconst 0, 1) := by decide +kernel
theorem dL_isBest_334 : decode cL_isBest 334 = .ok (.iconst 3, 1) := by decide +kernel
theorem dL_isBest_335 : decode cL_isBest 335 = .ok (.invokevirtual 137, 3) := by decide +kernel
theorem dL_isBest_338 : decode cL_isBest 338 = .ok (.i2l, 1) := by decide +kernel
theorem dL_isBest_339 : decode cL_isBest 339 = .ok (.aload 9, 2) := by decide +kernel
theorem dL_isBest_341 : decode cL_isBest 341 = .ok (.iconst 0, 1) := by decide +kernel
theorem dL_isBest_342 : decode cL_isBest 342 = .ok (.laload, 1) := by decide +kernel
theorem dL_isBest_343 : decode cL_isBest 343 = .ok (.lcmp, 1) := by decide +kernel
theorem dL_isBest_344 : decode cL_isBest 344 = .ok (.ifCond .ne 58, 3) := by decide +kernel
theorem dL_isBest_347 : decode cL_isBest 347 = .ok (.aload_n 0, 1) := by decide +kernel
theorem dL_isBest_348 : decode cL_isBest 348 = .ok (.iconst 0, 1) := by decide +kernel
theorem dL_isBest_349 : decode cL_isBest 349 = .ok (.iconst 4, 1) := by decide +kernel
theorem dL_isBest_350 : decode cL_isBest 350 = .ok (.invokevirtual 137, 3) := by decide +kernel
theorem dL_isBest_353 : decode cL_isBest 353 = .ok (.i2l, 1) := by decide +kernel
theorem dL_isBest_354 : decode cL_isBest 354 = .ok (.aload 9, 2) := by decide +kernel
theorem dL_isBest_356 : decode cL_isBest 356 = .ok (.iconst 1, 1) := by decide +kernel
theorem dL_isBest_357 : decode cL_isBest 357 = .ok (.laload, 1) := by decide +kernel
theorem dL_isBest_358 : decode cL_isBest 358 = .ok (.lcmp, 1) := by decide +kernel
theorem dL_isBest_359 : decode cL_isBest 359 = .ok (.ifCond .ne 43, 3) := by decide +kernel
theorem dL_isBest_362 : decode cL_isBest 362 = .ok (.aload_n 0, 1) := by decide +kernel
theorem dL_isBest_363 : decode cL_isBest 363 = .ok (.iconst 0, 1) := by decide +kernel
theorem dL_isBest_364 : decode cL_isBest 364 = .ok (.iconst 5, 1) := by decide +kernel
theorem dL_isBest_365 : decode cL_isBest 365 = .ok (.invokevirtual 137, 3) := by decide +kernel
theorem dL_isBest_368 : decode cL_isBest 368 = .ok (.i2l, 1) := by decide +kernel
theorem dL_isBest_369 : decode cL_isBest 369 = .ok (.aload 9, 2) := by decide +kernel
theorem dL_isBest_371 : decode cL_isBest 371 = .ok (.iconst 2, 1) := by decide +kernel
theorem dL_isBest_372 : decode cL_isBest 372 = .ok (.laload, 1) := by decide +kernel
theorem dL_isBest_373 : decode cL_isBest 373 = .ok (.lcmp, 1) := by decide +kernel
theorem dL_isBest_374 : decode cL_isBest 374 = .ok (.ifCond .ne 28, 3) := by decide +kernel
theorem dL_isBest_377 : decode cL_isBest 377 = .ok (.aload_n 0, 1) := by decide +kernel
theorem dL_isBest_378 : decode cL_isBest 378 = .ok (.iconst 0, 1) := by decide +kernel
theorem dL_isBest_379 : decode cL_isBest 379 = .ok (.iconst 2, 1) := by decide +kernel
theorem dL_isBest_380 : decode cL_isBest 380 = .ok (.invokevirtual 137, 3) := by decide +kernel
theorem dL_isBest_383 : decode cL_isBest 383 = .ok (.i2l, 1) := by decide +kernel
theorem dL_isBest_384 : decode cL_isBest 384 = .ok (.aload 9, 2) := by decide +kernel
theorem dL_isBest_386 : decode cL_isBest 386 = .ok (.iconst 0, 1) := by decide +kernel
theorem dL_isBest_387 : decode cL_isBest 387 = .ok (.laload, 1) := by decide +kernel
theorem dL_isBest_388 : decode cL_isBest 388 = .ok (.aload 9, 2) := by decide +kernel
theorem dL_isBest_390 : decode cL_isBest 390 = .ok (.iconst 1, 1) := by decide +kernel
theorem dL_isBest_391 : decode cL_isBest 391 = .ok (.laload, 1) := by decide +kernel
theorem dL_isBest_392 : decode cL_isBest 392 = .ok (.ladd, 1) := by decide +kernel
theorem dL_isBest_393 : decode cL_isBest 393 = .ok (.aload 9, 2) := by decide +kernel
theorem dL_isBest_395 : decode cL_isBest 395 = .ok (.iconst 2, 1) := by decide +kernel
theorem dL_isBest_396 : decode cL_isBest 396 = .ok (.laload, 1) := by decide +kernel
theorem dL_isBest_397 : decode cL_isBest 397 = .ok (.ladd, 1) := by decide +kernel
theorem dL_isBest_398 : decode cL_isBest 398 = .ok (.lcmp, 1) := by decide +kernel
theorem dL_isBest_399 : decode cL_isBest 399 = .ok (.ifCond .eq 5, 3) := by decide +kernel
theorem dL_isBest_402 : decode cL_isBest 402 = .ok (.iconst 0, 1) := by decide +kernel
theorem dL_isBest_403 : decode cL_isBest 403 = .ok (.ireturn, 1) := by decide +kernel
theorem dL_isBest_404 : decode cL_isBest 404 = .ok (.iconst 0, 1) := by decide +kernel
theorem dL_isBest_405 : decode cL_isBest 405 = .ok (.istore 10, 2) := by decide +kernel
theorem dL_isBest_407 : decode cL_isBest 407 = .ok (.iload 10, 2) := by decide +kernel
theorem dL_isBest_409 : decode cL_isBest 409 = .ok (.iconst 4, 1) := by decide +kernel
theorem dL_isBest_410 : decode cL_isBest 410 = .ok (.if_icmp .ge 316, 3) := by decide +kernel
theorem dL_isBest_413 : decode cL_isBest 413 = .ok (.iload 6, 2) := by decide +kernel
theorem dL_isBest_415 : decode cL_isBest 415 = .ok (.aload_n 1, 1) := by decide +kernel
theorem dL_isBest_416 : decode cL_isBest 416 = .ok (.bipush 24, 2) := by decide +kernel
theorem dL_isBest_418 : decode cL_isBest 418 = .ok (.iload 10, 2) := by decide +kernel
theorem dL_isBest_420 : decode cL_isBest 420 = .ok (.iadd, 1) := by decide +kernel
theorem dL_isBest_421 : decode cL_isBest 421 = .ok (.invokestatic 37, 3) := by decide +kernel
theorem dL_isBest_424 : decode cL_isBest 424 = .ok (.bipush 9, 2) := by decide +kernel
theorem dL_isBest_426 : decode cL_isBest 426 = .ok (.invokestatic 43, 3) := by decide +kernel
theorem dL_isBest_429 : decode cL_isBest 429 = .ok (.iadd, 1) := by decide +kernel
theorem dL_isBest_430 : decode cL_isBest 430 = .ok (.iconst 4, 1) := by decide +kernel
theorem dL_isBest_431 : decode cL_isBest 431 = .ok (.isub, 1) := by decide +kernel
theorem dL_isBest_432 : decode cL_isBest 432 = .ok (.istore 11, 2) := by decide +kernel
theorem dL_isBest_434 : decode cL_isBest 434 = .ok (.iload 11, 2) := by decide +kernel
theorem dL_isBest_436 : decode cL_isBest 436 = .ok (.aload_n 1, 1) := by decide +kernel
theorem dL_isBest_437 : decode cL_isBest 437 = .ok (.bipush 24, 2) := by decide +kernel
theorem dL_isBest_439 : decode cL_isBest 439 = .ok (.iload 10, 2) := by decide +kernel
theorem dL_isBest_441 : decode cL_isBest 441 = .ok (.iadd, 1) := by decide +kernel
theorem dL_isBest_442 : decode cL_isBest 442 = .ok (.invokestatic 37, 3) := by decide +kernel
theorem dL_isBest_445 : decode cL_isBest 445 = .ok (.bipush 16, 2) := by decide +kernel
theorem dL_isBest_447 : decode cL_isBest 447 = .ok (.idiv, 1) := by decide +kernel
theorem dL_isBest_448 : decode cL_isBest 448 = .ok (.bipush 9, 2) := by decide +kernel
theorem dL_isBest_450 : decode cL_isBest 450 = .ok (.invokestatic 43, 3) := by decide +kernel
theorem dL_isBest_453 : decode cL_isBest 453 = .ok (.iadd, 1) := by decide +kernel
theorem dL_isBest_454 : decode cL_isBest 454 = .ok (.iconst 4, 1) := by decide +kernel
theorem dL_isBest_455 : decode cL_isBest 455 = .ok (.isub, 1) := by decide +kernel
theorem dL_isBest_456 : decode cL_isBest 456 = .ok (.istore 12, 2) := by decide +kernel
theorem dL_isBest_458 : decode cL_isBest 458 = .ok (.iload 11, 2) := by decide +kernel
theorem dL_isBest_460 : decode cL_isBest 460 = .ok (.invokestatic 90, 3) := by decide +kernel
theorem dL_isBest_463 : decode cL_isBest 463 = .ok (.bipush 60, 2) := by decide +kernel
theorem dL_isBest_465 : decode cL_isBest 465 = .ok (.if_icmp .gt 255, 3) := by decide +kernel
theorem dL_isBest_468 : decode cL_isBest 468 = .ok (.iload 12, 2) := by decide +kernel
theorem dL_isBest_470 : decode cL_isBest 470 = .ok (.invokestatic 90, 3) := by decide +kernel
theorem dL_isBest_473 : decode cL_isBest 473 = .ok (.bipush 60, 2) := by decide +kernel
theorem dL_isBest_475 : decode cL_isBest 475 = .ok (.if_icmp .le 6, 3) := by decide +kernel
theorem dL_isBest_478 : decode cL_isBest 478 = .ok (.goto 242, 3) := by decide +kernel
theorem dL_isBest_481 : decode cL_isBest 481 = .ok (.aload_n 1, 1) := by decide +kernel
theorem dL_isBest_482 : decode cL_isBest 482 = .ok (.aload_n 2, 1) := by decide +kernel
theorem dL_isBest_483 : decode cL_isBest 483 = .ok (.aload 5, 2) := by decide +kernel
theorem dL_isBest_485 : decode cL_isBest 485 = .ok (.aload 4, 2) := by decide +kernel
theorem dL_isBest_487 : decode cL_isBest 487 = .ok (.iload 11, 2) := by decide +kernel
theorem dL_isBest_489 : decode cL_isBest 489 = .ok (.iload 12, 2) := by decide +kernel
theorem dL_isBest_491 : decode cL_isBest 491 = .ok (.invokestatic 121, 3) := by decide +kernel
theorem dL_isBest_494 : decode cL_isBest 494 = .ok (.astore 13, 2) := by decide +kernel
theorem dL_isBest_496 : decode cL_isBest 496 = .ok (.aload_n 0, 1) := by decide +kernel
