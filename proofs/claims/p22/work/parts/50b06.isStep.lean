theorem dL_isStep_455 : decode cL_isStep 455 = .ok (.istore 11, 2) := by decide +kernel
theorem dL_isStep_457 : decode cL_isStep 457 = .ok (.iload 11, 2) := by decide +kernel
theorem dL_isStep_459 : decode cL_isStep 459 = .ok (.aload_n 1, 1) := by decide +kernel
theorem dL_isStep_460 : decode cL_isStep 460 = .ok (.iload 6, 2) := by decide +kernel
theorem dL_isStep_462 : decode cL_isStep 462 = .ok (.iload 9, 2) := by decide +kernel
theorem dL_isStep_464 : decode cL_isStep 464 = .ok (.invokevirtual 46, 3) := by decide +kernel
theorem dL_isStep_467 : decode cL_isStep 467 = .ok (.if_icmp .ne 47, 3) := by decide +kernel
theorem dL_isStep_470 : decode cL_isStep 470 = .ok (.iload 11, 2) := by decide +kernel
theorem dL_isStep_472 : decode cL_isStep 472 = .ok (.iload 6, 2) := by decide +kernel
theorem dL_isStep_474 : decode cL_isStep 474 = .ok (.iload 5, 2) := by decide +kernel
theorem dL_isStep_476 : decode cL_isStep 476 = .ok (.if_icmp .ne 7, 3) := by decide +kernel
theorem dL_isStep_479 : decode cL_isStep 479 = .ok (.iconst (-1), 1) := by decide +kernel
theorem dL_isStep_480 : decode cL_isStep 480 = .ok (.goto 27, 3) := by decide +kernel
theorem dL_isStep_483 : decode cL_isStep 483 = .ok (.iload 7, 2) := by decide +kernel
theorem dL_isStep_485 : decode cL_isStep 485 = .ok (.ifCond .le 8, 3) := by decide +kernel
theorem dL_isStep_488 : decode cL_isStep 488 = .ok (.bipush (-4), 2) := by decide +kernel
theorem dL_isStep_490 : decode cL_isStep 490 = .ok (.goto 17, 3) := by decide +kernel
theorem dL_isStep_493 : decode cL_isStep 493 = .ok (.iload 10, 2) := by decide +kernel
theorem dL_isStep_495 : decode cL_isStep 495 = .ok (.iload 9, 2) := by decide +kernel
theorem dL_isStep_497 : decode cL_isStep 497 = .ok (.if_icmp .ne 8, 3) := by decide +kernel
theorem dL_isStep_500 : decode cL_isStep 500 = .ok (.bipush (-5), 2) := by decide +kernel
theorem dL_isStep_502 : decode cL_isStep 502 = .ok (.goto 5, 3) := by decide +kernel
theorem dL_isStep_505 : decode cL_isStep 505 = .ok (.iload 10, 2) := by decide +kernel
theorem dL_isStep_507 : decode cL_isStep 507 = .ok (.if_icmp .ne 7, 3) := by decide +kernel
theorem dL_isStep_510 : decode cL_isStep 510 = .ok (.iconst 1, 1) := by decide +kernel
theorem dL_isStep_511 : decode cL_isStep 511 = .ok (.goto 4, 3) := by decide +kernel
theorem dL_isStep_514 : decode cL_isStep 514 = .ok (.iconst 0, 1) := by decide +kernel
theorem dL_isStep_515 : decode cL_isStep 515 = .ok (.ireturn, 1) := by decide +kernel
theorem dL_isStep_516 : decode cL_isStep 516 = .ok (.iconst 1, 1) := by decide +kernel
theorem dL_isStep_517 : decode cL_isStep 517 = .ok (.iload_n 3, 1) := by decide +kernel
theorem dL_isStep_518 : decode cL_isStep 518 = .ok (.iload 4, 2) := by decide +kernel
theorem dL_isStep_520 : decode cL_isStep 520 = .ok (.iconst 4, 1) := by decide +kernel
theorem dL_isStep_521 : decode cL_isStep 521 = .ok (.invokestatic 19, 3) := by decide +kernel
theorem dL_isStep_524 : decode cL_isStep 524 = .ok (.ifCond .ne 9, 3) := by decide +kernel
theorem dL_isStep_527 : decode cL_isStep 527 = .ok (.sipush 150, 3) := by decide +kernel
theorem dL_isStep_530 : decode cL_isStep 530 = .ok (.goto 5, 3) := by decide +kernel
theorem dL_isStep_533 : decode cL_isStep 533 = .ok (.bipush 12, 2) := by decide +kernel
theorem dL_isStep_535 : decode cL_isStep 535 = .ok (.invokestatic 19, 3) := by decide +kernel
theorem dL_isStep_538 : decode cL_isStep 538 = .ok (.iadd, 1) := by decide +kernel
theorem dL_isStep_539 : decode cL_isStep 539 = .ok (.istore 9, 2) := by decide +kernel
theorem dL_isStep_541 : decode cL_isStep 541 = .ok (.aload_n 0, 1) := by decide +kernel
theorem dL_isStep_542 : decode cL_isStep 542 = .ok (.iconst 3, 1) := by decide +kernel
theorem dL_isStep_543 : decode cL_isStep 543 = .ok (.invokevirtual 15, 3) := by decide +kernel
theorem dL_isStep_546 : decode cL_isStep 546 = .ok (.istore 10, 2) := by decide +kernel
theorem dL_isStep_548 : decode cL_isStep 548 = .ok (.aload_n 0, 1) := by decide +kernel
theorem dL_isStep_549 : decode cL_isStep 549 = .ok (.iload 9, 2) := by decide +kernel
theorem dL_isStep_551 : decode cL_isStep 551 = .ok (.invokevirtual 49, 3) := by decide +kernel
theorem dL_isStep_554 : decode cL_isStep 554 = .ok (.istore 11, 2) := by decide +kernel
theorem dL_isStep_556 : decode cL_isStep 556 = .ok (.iload 11, 2) := by decide +kernel
theorem dL_isStep_558 : decode cL_isStep 558 = .ok (.aload_n 0, 1) := by decide +kernel
theorem dL_isStep_559 : decode cL_isStep 559 = .ok (.iconst 3, 1) := by decide +kernel
theorem dL_isStep_560 : decode cL_isStep 560 = .ok (.invokevirtual 15, 3) := by decide +kernel
theorem dL_isStep_563 : decode cL_isStep 563 = .ok (.iload 10, 2) := by decide +kernel
theorem dL_isStep_565 : decode cL_isStep 565 = .ok (.isub, 1) := by decide +kernel
theorem dL_isStep_566 : decode cL_isStep 566 = .ok (.if_icmp .ne 7, 3) := by decide +kernel
theorem dL_isStep_569 : decode cL_isStep 569 = .ok (.iconst 1, 1) := by decide +kernel
theorem dL_isStep_570 : decode cL_isStep 570 = .ok (.goto 4, 3) := by decide +kernel
theorem dL_isStep_573 : decode cL_isStep 573 = .ok (.iconst 0, 1) := by decide +kernel
theorem dL_isStep_574 : decode cL_isStep 574 = .ok (.istore 12, 2) := by decide +kernel
theorem dL_isStep_576 : decode cL_isStep 576 = .ok (.iconst 0, 1) := by decide +kernel
theorem dL_isStep_577 : decode cL_isStep 577 = .ok (.istore 13, 2) := by decide +kernel
theorem dL_isStep_579 : decode cL_isStep 579 = .ok (.iload 13, 2) := by decide +kernel
theorem dL_isStep_581 : decode cL_isStep 581 = .ok (.iload 9, 2) := by decide +kernel
theorem dL_isStep_583 : decode cL_isStep 583 = .ok (.if_icmp .ge 20, 3) := by decide +kernel
theorem dL_isStep_586 : decode cL_isStep 586 = .ok (.iload 12, 2) := by decide +kernel
