theorem dL_isStep_588 : decode cL_isStep 588 = .ok (.ifCond .eq 15, 3) := by decide +kernel
theorem dL_isStep_591 : decode cL_isStep 591 = .ok (.aload_n 1, 1) := by decide +kernel
theorem dL_isStep_592 : decode cL_isStep 592 = .ok (.invokestatic 52, 3) := by decide +kernel
theorem dL_isStep_595 : decode cL_isStep 595 = .ok (.istore 12, 2) := by decide +kernel
theorem dL_isStep_597 : decode cL_isStep 597 = .ok (.iinc 13 1, 3) := by decide +kernel
theorem dL_isStep_600 : decode cL_isStep 600 = .ok (.goto (-21), 3) := by decide +kernel
theorem dL_isStep_603 : decode cL_isStep 603 = .ok (.iload 12, 2) := by decide +kernel
theorem dL_isStep_605 : decode cL_isStep 605 = .ok (.ifCond .eq 20, 3) := by decide +kernel
theorem dL_isStep_608 : decode cL_isStep 608 = .ok (.aload_n 1, 1) := by decide +kernel
theorem dL_isStep_609 : decode cL_isStep 609 = .ok (.iconst 3, 1) := by decide +kernel
theorem dL_isStep_610 : decode cL_isStep 610 = .ok (.invokevirtual 15, 3) := by decide +kernel
theorem dL_isStep_613 : decode cL_isStep 613 = .ok (.aload_n 0, 1) := by decide +kernel
theorem dL_isStep_614 : decode cL_isStep 614 = .ok (.iconst 3, 1) := by decide +kernel
theorem dL_isStep_615 : decode cL_isStep 615 = .ok (.invokevirtual 15, 3) := by decide +kernel
theorem dL_isStep_618 : decode cL_isStep 618 = .ok (.if_icmp .ne 7, 3) := by decide +kernel
theorem dL_isStep_621 : decode cL_isStep 621 = .ok (.iconst 1, 1) := by decide +kernel
theorem dL_isStep_622 : decode cL_isStep 622 = .ok (.goto 4, 3) := by decide +kernel
theorem dL_isStep_625 : decode cL_isStep 625 = .ok (.iconst 0, 1) := by decide +kernel
theorem dL_isStep_626 : decode cL_isStep 626 = .ok (.ireturn, 1) := by decide +kernel
theorem dL_isStep_627 : decode cL_isStep 627 = .ok (.iload 4, 2) := by decide +kernel
theorem dL_isStep_629 : decode cL_isStep 629 = .ok (.iconst 4, 1) := by decide +kernel
theorem dL_isStep_630 : decode cL_isStep 630 = .ok (.invokestatic 19, 3) := by decide +kernel
theorem dL_isStep_633 : decode cL_isStep 633 = .ok (.istore 9, 2) := by decide +kernel
theorem dL_isStep_635 : decode cL_isStep 635 = .ok (.iload 9, 2) := by decide +kernel
theorem dL_isStep_637 : decode cL_isStep 637 = .ok (.ifCond .ne 30, 3) := by decide +kernel
theorem dL_isStep_640 : decode cL_isStep 640 = .ok (.bipush 20, 2) := by decide +kernel
theorem dL_isStep_642 : decode cL_isStep 642 = .ok (.iload_n 3, 1) := by decide +kernel
theorem dL_isStep_643 : decode cL_isStep 643 = .ok (.iload 4, 2) := by decide +kernel
theorem dL_isStep_645 : decode cL_isStep 645 = .ok (.iconst 3, 1) := by decide +kernel
theorem dL_isStep_646 : decode cL_isStep 646 = .ok (.invokestatic 19, 3) := by decide +kernel
theorem dL_isStep_649 : decode cL_isStep 649 = .ok (.ifCond .ne 9, 3) := by decide +kernel
theorem dL_isStep_652 : decode cL_isStep 652 = .ok (.sipush 481, 3) := by decide +kernel
theorem dL_isStep_655 : decode cL_isStep 655 = .ok (.goto 5, 3) := by decide +kernel
theorem dL_isStep_658 : decode cL_isStep 658 = .ok (.bipush 60, 2) := by decide +kernel
theorem dL_isStep_660 : decode cL_isStep 660 = .ok (.invokestatic 19, 3) := by decide +kernel
theorem dL_isStep_663 : decode cL_isStep 663 = .ok (.iadd, 1) := by decide +kernel
theorem dL_isStep_664 : decode cL_isStep 664 = .ok (.goto 25, 3) := by decide +kernel
theorem dL_isStep_667 : decode cL_isStep 667 = .ok (.iload 9, 2) := by decide +kernel
theorem dL_isStep_669 : decode cL_isStep 669 = .ok (.iconst 3, 1) := by decide +kernel
theorem dL_isStep_670 : decode cL_isStep 670 = .ok (.if_icmp .ne 14, 3) := by decide +kernel
theorem dL_isStep_673 : decode cL_isStep 673 = .ok (.iconst 1, 1) := by decide +kernel
theorem dL_isStep_674 : decode cL_isStep 674 = .ok (.iload_n 3, 1) := by decide +kernel
theorem dL_isStep_675 : decode cL_isStep 675 = .ok (.bipush 50, 2) := by decide +kernel
theorem dL_isStep_677 : decode cL_isStep 677 = .ok (.invokestatic 19, 3) := by decide +kernel
theorem dL_isStep_680 : decode cL_isStep 680 = .ok (.iadd, 1) := by decide +kernel
theorem dL_isStep_681 : decode cL_isStep 681 = .ok (.goto 8, 3) := by decide +kernel
theorem dL_isStep_684 : decode cL_isStep 684 = .ok (.iload_n 3, 1) := by decide +kernel
theorem dL_isStep_685 : decode cL_isStep 685 = .ok (.iconst 2, 1) := by decide +kernel
theorem dL_isStep_686 : decode cL_isStep 686 = .ok (.invokestatic 19, 3) := by decide +kernel
theorem dL_isStep_689 : decode cL_isStep 689 = .ok (.istore 10, 2) := by decide +kernel
theorem dL_isStep_691 : decode cL_isStep 691 = .ok (.aload_n 0, 1) := by decide +kernel
theorem dL_isStep_692 : decode cL_isStep 692 = .ok (.bipush 12, 2) := by decide +kernel
theorem dL_isStep_694 : decode cL_isStep 694 = .ok (.iload 9, 2) := by decide +kernel
theorem dL_isStep_696 : decode cL_isStep 696 = .ok (.iadd, 1) := by decide +kernel
theorem dL_isStep_697 : decode cL_isStep 697 = .ok (.invokevirtual 15, 3) := by decide +kernel
theorem dL_isStep_700 : decode cL_isStep 700 = .ok (.istore 11, 2) := by decide +kernel
theorem dL_isStep_702 : decode cL_isStep 702 = .ok (.aload_n 0, 1) := by decide +kernel
theorem dL_isStep_703 : decode cL_isStep 703 = .ok (.iload 9, 2) := by decide +kernel
theorem dL_isStep_705 : decode cL_isStep 705 = .ok (.iload 10, 2) := by decide +kernel
theorem dL_isStep_707 : decode cL_isStep 707 = .ok (.invokevirtual 56, 3) := by decide +kernel
theorem dL_isStep_710 : decode cL_isStep 710 = .ok (.iload 11, 2) := by decide +kernel
theorem dL_isStep_712 : decode cL_isStep 712 = .ok (.iload 10, 2) := by decide +kernel
theorem dL_isStep_714 : decode cL_isStep 714 = .ok (.if_icmp .ne 8, 3) := by decide +kernel
theorem dL_isStep_717 : decode cL_isStep 717 = .ok (.bipush (-5), 2) := by decide +kernel
theorem dL_isStep_719 : decode cL_isStep 719 = .ok (.goto 5, 3) := by decide +kernel
