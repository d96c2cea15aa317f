theorem dL_isWell_544 : decode cL_isWell 544 = .ok (.aload_n 2, 1) := by decide +kernel
theorem dL_isWell_545 : decode cL_isWell 545 = .ok (.iconst 0, 1) := by decide +kernel
theorem dL_isWell_546 : decode cL_isWell 546 = .ok (.iaload, 1) := by decide +kernel
theorem dL_isWell_547 : decode cL_isWell 547 = .ok (.invokevirtual 79, 3) := by decide +kernel
theorem dL_isWell_550 : decode cL_isWell 550 = .ok (.bipush (-5), 2) := by decide +kernel
theorem dL_isWell_552 : decode cL_isWell 552 = .ok (.if_icmp .ne 88, 3) := by decide +kernel
theorem dL_isWell_555 : decode cL_isWell 555 = .ok (.iload_n 3, 1) := by decide +kernel
theorem dL_isWell_556 : decode cL_isWell 556 = .ok (.aload_n 0, 1) := by decide +kernel
theorem dL_isWell_557 : decode cL_isWell 557 = .ok (.iconst 5, 1) := by decide +kernel
theorem dL_isWell_558 : decode cL_isWell 558 = .ok (.invokevirtual 15, 3) := by decide +kernel
theorem dL_isWell_561 : decode cL_isWell 561 = .ok (.if_icmp .ne 79, 3) := by decide +kernel
theorem dL_isWell_564 : decode cL_isWell 564 = .ok (.aload_n 0, 1) := by decide +kernel
theorem dL_isWell_565 : decode cL_isWell 565 = .ok (.bipush 6, 2) := by decide +kernel
theorem dL_isWell_567 : decode cL_isWell 567 = .ok (.invokevirtual 15, 3) := by decide +kernel
theorem dL_isWell_570 : decode cL_isWell 570 = .ok (.aload_n 0, 1) := by decide +kernel
theorem dL_isWell_571 : decode cL_isWell 571 = .ok (.bipush 12, 2) := by decide +kernel
theorem dL_isWell_573 : decode cL_isWell 573 = .ok (.invokevirtual 15, 3) := by decide +kernel
theorem dL_isWell_576 : decode cL_isWell 576 = .ok (.iload_n 3, 1) := by decide +kernel
theorem dL_isWell_577 : decode cL_isWell 577 = .ok (.if_icmp .le 14, 3) := by decide +kernel
theorem dL_isWell_580 : decode cL_isWell 580 = .ok (.aload_n 0, 1) := by decide +kernel
theorem dL_isWell_581 : decode cL_isWell 581 = .ok (.bipush 12, 2) := by decide +kernel
theorem dL_isWell_583 : decode cL_isWell 583 = .ok (.invokevirtual 15, 3) := by decide +kernel
theorem dL_isWell_586 : decode cL_isWell 586 = .ok (.iload_n 3, 1) := by decide +kernel
theorem dL_isWell_587 : decode cL_isWell 587 = .ok (.isub, 1) := by decide +kernel
theorem dL_isWell_588 : decode cL_isWell 588 = .ok (.goto 4, 3) := by decide +kernel
theorem dL_isWell_591 : decode cL_isWell 591 = .ok (.iconst 0, 1) := by decide +kernel
theorem dL_isWell_592 : decode cL_isWell 592 = .ok (.if_icmp .ne 48, 3) := by decide +kernel
theorem dL_isWell_595 : decode cL_isWell 595 = .ok (.iload_n 3, 1) := by decide +kernel
theorem dL_isWell_596 : decode cL_isWell 596 = .ok (.aload_n 0, 1) := by decide +kernel
theorem dL_isWell_597 : decode cL_isWell 597 = .ok (.bipush 7, 2) := by decide +kernel
theorem dL_isWell_599 : decode cL_isWell 599 = .ok (.invokevirtual 15, 3) := by decide +kernel
theorem dL_isWell_602 : decode cL_isWell 602 = .ok (.if_icmp .gt 38, 3) := by decide +kernel
theorem dL_isWell_605 : decode cL_isWell 605 = .ok (.iload 4, 2) := by decide +kernel
theorem dL_isWell_607 : decode cL_isWell 607 = .ok (.aload_n 0, 1) := by decide +kernel
theorem dL_isWell_608 : decode cL_isWell 608 = .ok (.invokevirtual 73, 3) := by decide +kernel
theorem dL_isWell_611 : decode cL_isWell 611 = .ok (.if_icmp .ne 29, 3) := by decide +kernel
theorem dL_isWell_614 : decode cL_isWell 614 = .ok (.iload 5, 2) := by decide +kernel
theorem dL_isWell_616 : decode cL_isWell 616 = .ok (.aload_n 0, 1) := by decide +kernel
theorem dL_isWell_617 : decode cL_isWell 617 = .ok (.bipush 10, 2) := by decide +kernel
theorem dL_isWell_619 : decode cL_isWell 619 = .ok (.invokevirtual 15, 3) := by decide +kernel
theorem dL_isWell_622 : decode cL_isWell 622 = .ok (.if_icmp .ne 18, 3) := by decide +kernel
theorem dL_isWell_625 : decode cL_isWell 625 = .ok (.iload 6, 2) := by decide +kernel
theorem dL_isWell_627 : decode cL_isWell 627 = .ok (.aload_n 0, 1) := by decide +kernel
theorem dL_isWell_628 : decode cL_isWell 628 = .ok (.bipush 11, 2) := by decide +kernel
theorem dL_isWell_630 : decode cL_isWell 630 = .ok (.invokevirtual 15, 3) := by decide +kernel
theorem dL_isWell_633 : decode cL_isWell 633 = .ok (.if_icmp .ne 7, 3) := by decide +kernel
theorem dL_isWell_636 : decode cL_isWell 636 = .ok (.iconst 1, 1) := by decide +kernel
theorem dL_isWell_637 : decode cL_isWell 637 = .ok (.goto 4, 3) := by decide +kernel
theorem dL_isWell_640 : decode cL_isWell 640 = .ok (.iconst 0, 1) := by decide +kernel
theorem dL_isWell_641 : decode cL_isWell 641 = .ok (.ireturn, 1) := by decide +kernel
