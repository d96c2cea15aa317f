theorem dL_isWell_399 : decode cL_isWell 399 = .ok (.if_icmp .ne 84, 3) := by decide +kernel
theorem dL_isWell_402 : decode cL_isWell 402 = .ok (.iload 10, 2) := by decide +kernel
theorem dL_isWell_404 : decode cL_isWell 404 = .ok (.iload 8, 2) := by decide +kernel
theorem dL_isWell_406 : decode cL_isWell 406 = .ok (.if_icmp .le 77, 3) := by decide +kernel
theorem dL_isWell_409 : decode cL_isWell 409 = .ok (.goto 10, 3) := by decide +kernel
theorem dL_isWell_412 : decode cL_isWell 412 = .ok (.iload 10, 2) := by decide +kernel
theorem dL_isWell_414 : decode cL_isWell 414 = .ok (.iload 8, 2) := by decide +kernel
theorem dL_isWell_416 : decode cL_isWell 416 = .ok (.if_icmp .le 67, 3) := by decide +kernel
theorem dL_isWell_419 : decode cL_isWell 419 = .ok (.aload_n 0, 1) := by decide +kernel
theorem dL_isWell_420 : decode cL_isWell 420 = .ok (.iload 10, 2) := by decide +kernel
theorem dL_isWell_422 : decode cL_isWell 422 = .ok (.invokevirtual 76, 3) := by decide +kernel
theorem dL_isWell_425 : decode cL_isWell 425 = .ok (.aload_n 0, 1) := by decide +kernel
theorem dL_isWell_426 : decode cL_isWell 426 = .ok (.iload 10, 2) := by decide +kernel
theorem dL_isWell_428 : decode cL_isWell 428 = .ok (.iconst 4, 1) := by decide +kernel
theorem dL_isWell_429 : decode cL_isWell 429 = .ok (.invokevirtual 25, 3) := by decide +kernel
theorem dL_isWell_432 : decode cL_isWell 432 = .ok (.aload_n 0, 1) := by decide +kernel
theorem dL_isWell_433 : decode cL_isWell 433 = .ok (.bipush 12, 2) := by decide +kernel
theorem dL_isWell_435 : decode cL_isWell 435 = .ok (.invokevirtual 15, 3) := by decide +kernel
theorem dL_isWell_438 : decode cL_isWell 438 = .ok (.if_icmp .le 7, 3) := by decide +kernel
theorem dL_isWell_441 : decode cL_isWell 441 = .ok (.iconst 1, 1) := by decide +kernel
theorem dL_isWell_442 : decode cL_isWell 442 = .ok (.goto 13, 3) := by decide +kernel
theorem dL_isWell_445 : decode cL_isWell 445 = .ok (.iload 9, 2) := by decide +kernel
theorem dL_isWell_447 : decode cL_isWell 447 = .ok (.ifCond .ne 7, 3) := by decide +kernel
theorem dL_isWell_450 : decode cL_isWell 450 = .ok (.iconst 3, 1) := by decide +kernel
theorem dL_isWell_451 : decode cL_isWell 451 = .ok (.goto 4, 3) := by decide +kernel
theorem dL_isWell_454 : decode cL_isWell 454 = .ok (.iconst 2, 1) := by decide +kernel
theorem dL_isWell_455 : decode cL_isWell 455 = .ok (.if_icmp .ne 28, 3) := by decide +kernel
theorem dL_isWell_458 : decode cL_isWell 458 = .ok (.iload 9, 2) := by decide +kernel
theorem dL_isWell_460 : decode cL_isWell 460 = .ok (.ifCond .gt 19, 3) := by decide +kernel
theorem dL_isWell_463 : decode cL_isWell 463 = .ok (.aload_n 0, 1) := by decide +kernel
theorem dL_isWell_464 : decode cL_isWell 464 = .ok (.iload 10, 2) := by decide +kernel
theorem dL_isWell_466 : decode cL_isWell 466 = .ok (.iconst 4, 1) := by decide +kernel
theorem dL_isWell_467 : decode cL_isWell 467 = .ok (.invokevirtual 25, 3) := by decide +kernel
theorem dL_isWell_470 : decode cL_isWell 470 = .ok (.aload_n 0, 1) := by decide +kernel
theorem dL_isWell_471 : decode cL_isWell 471 = .ok (.bipush 6, 2) := by decide +kernel
theorem dL_isWell_473 : decode cL_isWell 473 = .ok (.invokevirtual 15, 3) := by decide +kernel
theorem dL_isWell_476 : decode cL_isWell 476 = .ok (.if_icmp .le 7, 3) := by decide +kernel
theorem dL_isWell_479 : decode cL_isWell 479 = .ok (.iconst 1, 1) := by decide +kernel
theorem dL_isWell_480 : decode cL_isWell 480 = .ok (.goto 4, 3) := by decide +kernel
theorem dL_isWell_483 : decode cL_isWell 483 = .ok (.iconst 0, 1) := by decide +kernel
theorem dL_isWell_484 : decode cL_isWell 484 = .ok (.istore 7, 2) := by decide +kernel
theorem dL_isWell_486 : decode cL_isWell 486 = .ok (.iload 10, 2) := by decide +kernel
theorem dL_isWell_488 : decode cL_isWell 488 = .ok (.istore 8, 2) := by decide +kernel
theorem dL_isWell_490 : decode cL_isWell 490 = .ok (.iinc 9 1, 3) := by decide +kernel
theorem dL_isWell_493 : decode cL_isWell 493 = .ok (.goto (-176), 3) := by decide +kernel
theorem dL_isWell_496 : decode cL_isWell 496 = .ok (.iconst 0, 1) := by decide +kernel
theorem dL_isWell_497 : decode cL_isWell 497 = .ok (.istore 9, 2) := by decide +kernel
theorem dL_isWell_499 : decode cL_isWell 499 = .ok (.iload 9, 2) := by decide +kernel
theorem dL_isWell_501 : decode cL_isWell 501 = .ok (.iconst 4, 1) := by decide +kernel
theorem dL_isWell_502 : decode cL_isWell 502 = .ok (.if_icmp .ge 36, 3) := by decide +kernel
theorem dL_isWell_505 : decode cL_isWell 505 = .ok (.iload 7, 2) := by decide +kernel
theorem dL_isWell_507 : decode cL_isWell 507 = .ok (.ifCond .eq 22, 3) := by decide +kernel
theorem dL_isWell_510 : decode cL_isWell 510 = .ok (.aload_n 0, 1) := by decide +kernel
theorem dL_isWell_511 : decode cL_isWell 511 = .ok (.iconst 1, 1) := by decide +kernel
theorem dL_isWell_512 : decode cL_isWell 512 = .ok (.iload 9, 2) := by decide +kernel
theorem dL_isWell_514 : decode cL_isWell 514 = .ok (.iadd, 1) := by decide +kernel
theorem dL_isWell_515 : decode cL_isWell 515 = .ok (.invokevirtual 15, 3) := by decide +kernel
theorem dL_isWell_518 : decode cL_isWell 518 = .ok (.aload_n 2, 1) := by decide +kernel
theorem dL_isWell_519 : decode cL_isWell 519 = .ok (.iload 9, 2) := by decide +kernel
theorem dL_isWell_521 : decode cL_isWell 521 = .ok (.iaload, 1) := by decide +kernel
theorem dL_isWell_522 : decode cL_isWell 522 = .ok (.if_icmp .ne 7, 3) := by decide +kernel
theorem dL_isWell_525 : decode cL_isWell 525 = .ok (.iconst 1, 1) := by decide +kernel
theorem dL_isWell_526 : decode cL_isWell 526 = .ok (.goto 4, 3) := by decide +kernel
theorem dL_isWell_529 : decode cL_isWell 529 = .ok (.iconst 0, 1) := by decide +kernel
theorem dL_isWell_530 : decode cL_isWell 530 = .ok (.istore 7, 2) := by decide +kernel
theorem dL_isWell_532 : decode cL_isWell 532 = .ok (.iinc 9 1, 3) := by decide +kernel
theorem dL_isWell_535 : decode cL_isWell 535 = .ok (.goto (-36), 3) := by decide +kernel
theorem dL_isWell_538 : decode cL_isWell 538 = .ok (.iload 7, 2) := by decide +kernel
theorem dL_isWell_540 : decode cL_isWell 540 = .ok (.ifCond .eq 100, 3) := by decide +kernel
theorem dL_isWell_543 : decode cL_isWell 543 = .ok (.aload_n 0, 1) := by decide +kernel
