theorem dL_judged_324 : decode cL_judged 324 = .ok (.iaload, 1) := by decide +kernel
theorem dL_judged_325 : decode cL_judged 325 = .ok (.invokestatic 53, 3) := by decide +kernel
theorem dL_judged_328 : decode cL_judged 328 = .ok (.if_icmp .ge 6, 3) := by decide +kernel
theorem dL_judged_331 : decode cL_judged 331 = .ok (.iconst 0, 1) := by decide +kernel
theorem dL_judged_332 : decode cL_judged 332 = .ok (.istore 13, 2) := by decide +kernel
theorem dL_judged_334 : decode cL_judged 334 = .ok (.iinc 14 1, 3) := by decide +kernel
theorem dL_judged_337 : decode cL_judged 337 = .ok (.goto (-69), 3) := by decide +kernel
theorem dL_judged_340 : decode cL_judged 340 = .ok (.bipush 6, 2) := by decide +kernel
theorem dL_judged_342 : decode cL_judged 342 = .ok (.iload 5, 2) := by decide +kernel
theorem dL_judged_344 : decode cL_judged 344 = .ok (.iload 4, 2) := by decide +kernel
theorem dL_judged_346 : decode cL_judged 346 = .ok (.isub, 1) := by decide +kernel
theorem dL_judged_347 : decode cL_judged 347 = .ok (.iload 13, 2) := by decide +kernel
theorem dL_judged_349 : decode cL_judged 349 = .ok (.isub, 1) := by decide +kernel
theorem dL_judged_350 : decode cL_judged 350 = .ok (.invokestatic 90, 3) := by decide +kernel
theorem dL_judged_353 : decode cL_judged 353 = .ok (.imul, 1) := by decide +kernel
theorem dL_judged_354 : decode cL_judged 354 = .ok (.iload 5, 2) := by decide +kernel
theorem dL_judged_356 : decode cL_judged 356 = .ok (.iload 4, 2) := by decide +kernel
theorem dL_judged_358 : decode cL_judged 358 = .ok (.isub, 1) := by decide +kernel
theorem dL_judged_359 : decode cL_judged 359 = .ok (.invokestatic 105, 3) := by decide +kernel
theorem dL_judged_362 : decode cL_judged 362 = .ok (.iload 13, 2) := by decide +kernel
theorem dL_judged_364 : decode cL_judged 364 = .ok (.invokestatic 105, 3) := by decide +kernel
theorem dL_judged_367 : decode cL_judged 367 = .ok (.imul, 1) := by decide +kernel
theorem dL_judged_368 : decode cL_judged 368 = .ok (.ifCond .ge 8, 3) := by decide +kernel
theorem dL_judged_371 : decode cL_judged 371 = .ok (.bipush 20, 2) := by decide +kernel
theorem dL_judged_373 : decode cL_judged 373 = .ok (.goto 4, 3) := by decide +kernel
theorem dL_judged_376 : decode cL_judged 376 = .ok (.iconst 0, 1) := by decide +kernel
theorem dL_judged_377 : decode cL_judged 377 = .ok (.iadd, 1) := by decide +kernel
theorem dL_judged_378 : decode cL_judged 378 = .ok (.i2l, 1) := by decide +kernel
theorem dL_judged_379 : decode cL_judged 379 = .ok (.lstore 14, 2) := by decide +kernel
theorem dL_judged_381 : decode cL_judged 381 = .ok (.lconst 0, 1) := by decide +kernel
theorem dL_judged_382 : decode cL_judged 382 = .ok (.lstore 16, 2) := by decide +kernel
theorem dL_judged_384 : decode cL_judged 384 = .ok (.iconst 0, 1) := by decide +kernel
theorem dL_judged_385 : decode cL_judged 385 = .ok (.istore 18, 2) := by decide +kernel
theorem dL_judged_387 : decode cL_judged 387 = .ok (.iload 18, 2) := by decide +kernel
theorem dL_judged_389 : decode cL_judged 389 = .ok (.iconst 2, 1) := by decide +kernel
theorem dL_judged_390 : decode cL_judged 390 = .ok (.if_icmp .ge 187, 3) := by decide +kernel
theorem dL_judged_393 : decode cL_judged 393 = .ok (.iload 18, 2) := by decide +kernel
theorem dL_judged_395 : decode cL_judged 395 = .ok (.ifCond .ne 7, 3) := by decide +kernel
theorem dL_judged_398 : decode cL_judged 398 = .ok (.iconst 0, 1) := by decide +kernel
theorem dL_judged_399 : decode cL_judged 399 = .ok (.goto 7, 3) := by decide +kernel
theorem dL_judged_402 : decode cL_judged 402 = .ok (.iload 6, 2) := by decide +kernel
theorem dL_judged_404 : decode cL_judged 404 = .ok (.iconst 1, 1) := by decide +kernel
theorem dL_judged_405 : decode cL_judged 405 = .ok (.isub, 1) := by decide +kernel
theorem dL_judged_406 : decode cL_judged 406 = .ok (.istore 19, 2) := by decide +kernel
theorem dL_judged_408 : decode cL_judged 408 = .ok (.iload 18, 2) := by decide +kernel
theorem dL_judged_410 : decode cL_judged 410 = .ok (.ifCond .ne 8, 3) := by decide +kernel
theorem dL_judged_413 : decode cL_judged 413 = .ok (.iload 4, 2) := by decide +kernel
theorem dL_judged_415 : decode cL_judged 415 = .ok (.goto 5, 3) := by decide +kernel
theorem dL_judged_418 : decode cL_judged 418 = .ok (.iload 5, 2) := by decide +kernel
theorem dL_judged_420 : decode cL_judged 420 = .ok (.istore 20, 2) := by decide +kernel
theorem dL_judged_422 : decode cL_judged 422 = .ok (.iload 18, 2) := by decide +kernel
theorem dL_judged_424 : decode cL_judged 424 = .ok (.ifCond .ne 8, 3) := by decide +kernel
theorem dL_judged_427 : decode cL_judged 427 = .ok (.iload 5, 2) := by decide +kernel
theorem dL_judged_429 : decode cL_judged 429 = .ok (.goto 5, 3) := by decide +kernel
theorem dL_judged_432 : decode cL_judged 432 = .ok (.iload 4, 2) := by decide +kernel
theorem dL_judged_434 : decode cL_judged 434 = .ok (.istore 21, 2) := by decide +kernel
theorem dL_judged_436 : decode cL_judged 436 = .ok (.iconst 0, 1) := by decide +kernel
theorem dL_judged_437 : decode cL_judged 437 = .ok (.istore 22, 2) := by decide +kernel
theorem dL_judged_439 : decode cL_judged 439 = .ok (.iload 22, 2) := by decide +kernel
theorem dL_judged_441 : decode cL_judged 441 = .ok (.aload_n 0, 1) := by decide +kernel
theorem dL_judged_442 : decode cL_judged 442 = .ok (.iload 19, 2) := by decide +kernel
theorem dL_judged_444 : decode cL_judged 444 = .ok (.invokestatic 47, 3) := by decide +kernel
theorem dL_judged_447 : decode cL_judged 447 = .ok (.if_icmp .ge 124, 3) := by decide +kernel
theorem dL_judged_450 : decode cL_judged 450 = .ok (.iload 20, 2) := by decide +kernel
theorem dL_judged_452 : decode cL_judged 452 = .ok (.iconst 3, 1) := by decide +kernel
theorem dL_judged_453 : decode cL_judged 453 = .ok (.iload 22, 2) := by decide +kernel
theorem dL_judged_455 : decode cL_judged 455 = .ok (.imul, 1) := by decide +kernel
theorem dL_judged_456 : decode cL_judged 456 = .ok (.aload_n 2, 1) := by decide +kernel
theorem dL_judged_457 : decode cL_judged 457 = .ok (.iload 19, 2) := by decide +kernel
theorem dL_judged_459 : decode cL_judged 459 = .ok (.iaload, 1) := by decide +kernel
theorem dL_judged_460 : decode cL_judged 460 = .ok (.imul, 1) := by decide +kernel
theorem dL_judged_461 : decode cL_judged 461 = .ok (.isub, 1) := by decide +kernel
theorem dL_judged_462 : decode cL_judged 462 = .ok (.istore 23, 2) := by decide +kernel
theorem dL_judged_464 : decode cL_judged 464 = .ok (.iload 23, 2) := by decide +kernel
theorem dL_judged_466 : decode cL_judged 466 = .ok (.bipush (-9), 2) := by decide +kernel
theorem dL_judged_468 : decode cL_judged 468 = .ok (.if_icmp .lt 97, 3) := by decide +kernel
theorem dL_judged_471 : decode cL_judged 471 = .ok (.iload 23, 2) := by decide +kernel
theorem dL_judged_473 : decode cL_judged 473 = .ok (.bipush 9, 2) := by decide +kernel
theorem dL_judged_475 : decode cL_judged 475 = .ok (.if_icmp .le 6, 3) := by decide +kernel
theorem dL_judged_478 : decode cL_judged 478 = .ok (.goto 87, 3) := by decide +kernel
theorem dL_judged_481 : decode cL_judged 481 = .ok (.iload 23, 2) := by decide +kernel
theorem dL_judged_483 : decode cL_judged 483 = .ok (.iconst 4, 1) := by decide +kernel
theorem dL_judged_484 : decode cL_judged 484 = .ok (.invokestatic 110, 3) := by decide +kernel
theorem dL_judged_487 : decode cL_judged 487 = .ok (.istore 24, 2) := by decide +kernel
theorem dL_judged_489 : decode cL_judged 489 = .ok (.lload 16, 2) := by decide +kernel
theorem dL_judged_491 : decode cL_judged 491 = .ok (.iload 24, 2) := by decide +kernel
theorem dL_judged_493 : decode cL_judged 493 = .ok (.iconst 2, 1) := by decide +kernel
theorem dL_judged_494 : decode cL_judged 494 = .ok (.if_icmp .ne 9, 3) := by decide +kernel
theorem dL_judged_497 : decode cL_judged 497 = .ok (.ldc2_w 113, 3) := by decide +kernel
theorem dL_judged_500 : decode cL_judged 500 = .ok (.goto 62, 3) := by decide +kernel
theorem dL_judged_503 : decode cL_judged 503 = .ok (.iload 24, 2) := by decide +kernel
theorem dL_judged_505 : decode cL_judged 505 = .ok (.ifCond .ne 20, 3) := by decide +kernel
theorem dL_judged_508 : decode cL_judged 508 = .ok (.iload 4, 2) := by decide +kernel
theorem dL_judged_510 : decode cL_judged 510 = .ok (.iload 5, 2) := by decide +kernel
theorem dL_judged_512 : decode cL_judged 512 = .ok (.if_icmp .ne 9, 3) := by decide +kernel
theorem dL_judged_515 : decode cL_judged 515 = .ok (.ldc2_w 97, 3) := by decide +kernel
theorem dL_judged_518 : decode cL_judged 518 = .ok (.goto 44, 3) := by decide +kernel
theorem dL_judged_521 : decode cL_judged 521 = .ok (.lconst 1, 1) := by decide +kernel
theorem dL_judged_522 : decode cL_judged 522 = .ok (.goto 40, 3) := by decide +kernel
theorem dL_judged_525 : decode cL_judged 525 = .ok (.iload 24, 2) := by decide +kernel
theorem dL_judged_527 : decode cL_judged 527 = .ok (.iconst 1, 1) := by decide +kernel
theorem dL_judged_528 : decode cL_judged 528 = .ok (.if_icmp .ne 20, 3) := by decide +kernel
theorem dL_judged_531 : decode cL_judged 531 = .ok (.iload 21, 2) := by decide +kernel
theorem dL_judged_533 : decode cL_judged 533 = .ok (.iload 20, 2) := by decide +kernel
theorem dL_judged_535 : decode cL_judged 535 = .ok (.if_icmp .ge 9, 3) := by decide +kernel
theorem dL_judged_538 : decode cL_judged 538 = .ok (.ldc2_w 115, 3) := by decide +kernel
theorem dL_judged_541 : decode cL_judged 541 = .ok (.goto 21, 3) := by decide +kernel
theorem dL_judged_544 : decode cL_judged 544 = .ok (.lconst 0, 1) := by decide +kernel
theorem dL_judged_545 : decode cL_judged 545 = .ok (.goto 17, 3) := by decide +kernel
theorem dL_judged_548 : decode cL_judged 548 = .ok (.iload 21, 2) := by decide +kernel
theorem dL_judged_550 : decode cL_judged 550 = .ok (.iload 20, 2) := by decide +kernel
theorem dL_judged_552 : decode cL_judged 552 = .ok (.if_icmp .le 9, 3) := by decide +kernel
theorem dL_judged_555 : decode cL_judged 555 = .ok (.ldc2_w 115, 3) := by decide +kernel
theorem dL_judged_558 : decode cL_judged 558 = .ok (.goto 4, 3) := by decide +kernel
theorem dL_judged_561 : decode cL_judged 561 = .ok (.lconst 0, 1) := by decide +kernel
theorem dL_judged_562 : decode cL_judged 562 = .ok (.ladd, 1) := by decide +kernel
theorem dL_judged_563 : decode cL_judged 563 = .ok (.lstore 16, 2) := by decide +kernel
theorem dL_judged_565 : decode cL_judged 565 = .ok (.iinc 22 1, 3) := by decide +kernel
theorem dL_judged_568 : decode cL_judged 568 = .ok (.goto (-129), 3) := by decide +kernel
theorem dL_judged_571 : decode cL_judged 571 = .ok (.iinc 18 1, 3) := by decide +kernel
theorem dL_judged_574 : decode cL_judged 574 = .ok (.goto (-187), 3) := by decide +kernel
theorem dL_judged_577 : decode cL_judged 577 = .ok (.iconst 4, 1) := by decide +kernel
theorem dL_judged_578 : decode cL_judged 578 = .ok (.newarray .long, 2) := by decide +kernel
theorem dL_judged_580 : decode cL_judged 580 = .ok (.dup, 1) := by decide +kernel
theorem dL_judged_581 : decode cL_judged 581 = .ok (.iconst 0, 1) := by decide +kernel
theorem dL_judged_582 : decode cL_judged 582 = .ok (.lload 9, 2) := by decide +kernel
theorem dL_judged_584 : decode cL_judged 584 = .ok (.lload 7, 2) := by decide +kernel
theorem dL_judged_586 : decode cL_judged 586 = .ok (.ldiv, 1) := by decide +kernel
theorem dL_judged_587 : decode cL_judged 587 = .ok (.lastore, 1) := by decide +kernel
theorem dL_judged_588 : decode cL_judged 588 = .ok (.dup, 1) := by decide +kernel
