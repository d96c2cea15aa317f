theorem dL_isStep_325 : decode cL_isStep 325 = .ok (.invokevirtual 15, 3) := by decide +kernel
theorem dL_isStep_328 : decode cL_isStep 328 = .ok (.iload 8, 2) := by decide +kernel
theorem dL_isStep_330 : decode cL_isStep 330 = .ok (.if_icmp .lt 7, 3) := by decide +kernel
theorem dL_isStep_333 : decode cL_isStep 333 = .ok (.iconst 1, 1) := by decide +kernel
theorem dL_isStep_334 : decode cL_isStep 334 = .ok (.goto 4, 3) := by decide +kernel
theorem dL_isStep_337 : decode cL_isStep 337 = .ok (.iconst 0, 1) := by decide +kernel
theorem dL_isStep_338 : decode cL_isStep 338 = .ok (.ireturn, 1) := by decide +kernel
theorem dL_isStep_339 : decode cL_isStep 339 = .ok (.aload_n 0, 1) := by decide +kernel
theorem dL_isStep_340 : decode cL_isStep 340 = .ok (.iload 6, 2) := by decide +kernel
theorem dL_isStep_342 : decode cL_isStep 342 = .ok (.bipush 6, 2) := by decide +kernel
theorem dL_isStep_344 : decode cL_isStep 344 = .ok (.invokevirtual 25, 3) := by decide +kernel
theorem dL_isStep_347 : decode cL_isStep 347 = .ok (.istore 9, 2) := by decide +kernel
theorem dL_isStep_349 : decode cL_isStep 349 = .ok (.aload_n 0, 1) := by decide +kernel
theorem dL_isStep_350 : decode cL_isStep 350 = .ok (.iload 6, 2) := by decide +kernel
theorem dL_isStep_352 : decode cL_isStep 352 = .ok (.invokevirtual 43, 3) := by decide +kernel
theorem dL_isStep_355 : decode cL_isStep 355 = .ok (.istore 10, 2) := by decide +kernel
theorem dL_isStep_357 : decode cL_isStep 357 = .ok (.iload 10, 2) := by decide +kernel
theorem dL_isStep_359 : decode cL_isStep 359 = .ok (.aload_n 1, 1) := by decide +kernel
theorem dL_isStep_360 : decode cL_isStep 360 = .ok (.iload 6, 2) := by decide +kernel
theorem dL_isStep_362 : decode cL_isStep 362 = .ok (.invokevirtual 43, 3) := by decide +kernel
theorem dL_isStep_365 : decode cL_isStep 365 = .ok (.if_icmp .ne 64, 3) := by decide +kernel
theorem dL_isStep_368 : decode cL_isStep 368 = .ok (.iload 10, 2) := by decide +kernel
theorem dL_isStep_370 : decode cL_isStep 370 = .ok (.iload 6, 2) := by decide +kernel
theorem dL_isStep_372 : decode cL_isStep 372 = .ok (.iload 5, 2) := by decide +kernel
theorem dL_isStep_374 : decode cL_isStep 374 = .ok (.if_icmp .ne 7, 3) := by decide +kernel
theorem dL_isStep_377 : decode cL_isStep 377 = .ok (.iconst (-1), 1) := by decide +kernel
theorem dL_isStep_378 : decode cL_isStep 378 = .ok (.goto 16, 3) := by decide +kernel
theorem dL_isStep_381 : decode cL_isStep 381 = .ok (.iload 7, 2) := by decide +kernel
theorem dL_isStep_383 : decode cL_isStep 383 = .ok (.iconst 1, 1) := by decide +kernel
theorem dL_isStep_384 : decode cL_isStep 384 = .ok (.if_icmp .le 8, 3) := by decide +kernel
theorem dL_isStep_387 : decode cL_isStep 387 = .ok (.bipush (-4), 2) := by decide +kernel
theorem dL_isStep_389 : decode cL_isStep 389 = .ok (.goto 5, 3) := by decide +kernel
theorem dL_isStep_392 : decode cL_isStep 392 = .ok (.iload 9, 2) := by decide +kernel
theorem dL_isStep_394 : decode cL_isStep 394 = .ok (.if_icmp .ne 35, 3) := by decide +kernel
theorem dL_isStep_397 : decode cL_isStep 397 = .ok (.iload 6, 2) := by decide +kernel
theorem dL_isStep_399 : decode cL_isStep 399 = .ok (.iload 5, 2) := by decide +kernel
theorem dL_isStep_401 : decode cL_isStep 401 = .ok (.if_icmp .eq 24, 3) := by decide +kernel
theorem dL_isStep_404 : decode cL_isStep 404 = .ok (.aload_n 0, 1) := by decide +kernel
theorem dL_isStep_405 : decode cL_isStep 405 = .ok (.iload 6, 2) := by decide +kernel
theorem dL_isStep_407 : decode cL_isStep 407 = .ok (.iconst 3, 1) := by decide +kernel
theorem dL_isStep_408 : decode cL_isStep 408 = .ok (.invokevirtual 25, 3) := by decide +kernel
theorem dL_isStep_411 : decode cL_isStep 411 = .ok (.iload 7, 2) := by decide +kernel
theorem dL_isStep_413 : decode cL_isStep 413 = .ok (.iconst 2, 1) := by decide +kernel
theorem dL_isStep_414 : decode cL_isStep 414 = .ok (.if_icmp .ne 7, 3) := by decide +kernel
theorem dL_isStep_417 : decode cL_isStep 417 = .ok (.iconst 2, 1) := by decide +kernel
theorem dL_isStep_418 : decode cL_isStep 418 = .ok (.goto 4, 3) := by decide +kernel
theorem dL_isStep_421 : decode cL_isStep 421 = .ok (.iconst 3, 1) := by decide +kernel
theorem dL_isStep_422 : decode cL_isStep 422 = .ok (.if_icmp .ne 7, 3) := by decide +kernel
theorem dL_isStep_425 : decode cL_isStep 425 = .ok (.iconst 1, 1) := by decide +kernel
theorem dL_isStep_426 : decode cL_isStep 426 = .ok (.goto 4, 3) := by decide +kernel
theorem dL_isStep_429 : decode cL_isStep 429 = .ok (.iconst 0, 1) := by decide +kernel
theorem dL_isStep_430 : decode cL_isStep 430 = .ok (.ireturn, 1) := by decide +kernel
theorem dL_isStep_431 : decode cL_isStep 431 = .ok (.iload_n 3, 1) := by decide +kernel
theorem dL_isStep_432 : decode cL_isStep 432 = .ok (.iconst 3, 1) := by decide +kernel
theorem dL_isStep_433 : decode cL_isStep 433 = .ok (.invokestatic 19, 3) := by decide +kernel
theorem dL_isStep_436 : decode cL_isStep 436 = .ok (.istore 9, 2) := by decide +kernel
theorem dL_isStep_438 : decode cL_isStep 438 = .ok (.aload_n 0, 1) := by decide +kernel
theorem dL_isStep_439 : decode cL_isStep 439 = .ok (.iload 6, 2) := by decide +kernel
theorem dL_isStep_441 : decode cL_isStep 441 = .ok (.iconst 0, 1) := by decide +kernel
theorem dL_isStep_442 : decode cL_isStep 442 = .ok (.invokevirtual 25, 3) := by decide +kernel
theorem dL_isStep_445 : decode cL_isStep 445 = .ok (.istore 10, 2) := by decide +kernel
theorem dL_isStep_447 : decode cL_isStep 447 = .ok (.aload_n 0, 1) := by decide +kernel
theorem dL_isStep_448 : decode cL_isStep 448 = .ok (.iload 6, 2) := by decide +kernel
theorem dL_isStep_450 : decode cL_isStep 450 = .ok (.iload 9, 2) := by decide +kernel
theorem dL_isStep_452 : decode cL_isStep 452 = .ok (.invokevirtual 46, 3) := by decide +kernel
