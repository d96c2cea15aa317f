theorem dL_isStep_722 : decode cL_isStep 722 = .ok (.iload 11, 2) := by decide +kernel
theorem dL_isStep_724 : decode cL_isStep 724 = .ok (.if_icmp .ne 46, 3) := by decide +kernel
theorem dL_isStep_727 : decode cL_isStep 727 = .ok (.aload_n 1, 1) := by decide +kernel
theorem dL_isStep_728 : decode cL_isStep 728 = .ok (.iload 9, 2) := by decide +kernel
theorem dL_isStep_730 : decode cL_isStep 730 = .ok (.iload 10, 2) := by decide +kernel
theorem dL_isStep_732 : decode cL_isStep 732 = .ok (.invokevirtual 56, 3) := by decide +kernel
theorem dL_isStep_735 : decode cL_isStep 735 = .ok (.iload 11, 2) := by decide +kernel
theorem dL_isStep_737 : decode cL_isStep 737 = .ok (.iload 10, 2) := by decide +kernel
theorem dL_isStep_739 : decode cL_isStep 739 = .ok (.if_icmp .ne 8, 3) := by decide +kernel
theorem dL_isStep_742 : decode cL_isStep 742 = .ok (.bipush (-5), 2) := by decide +kernel
theorem dL_isStep_744 : decode cL_isStep 744 = .ok (.goto 5, 3) := by decide +kernel
theorem dL_isStep_747 : decode cL_isStep 747 = .ok (.iload 11, 2) := by decide +kernel
theorem dL_isStep_749 : decode cL_isStep 749 = .ok (.if_icmp .ne 21, 3) := by decide +kernel
theorem dL_isStep_752 : decode cL_isStep 752 = .ok (.aload_n 0, 1) := by decide +kernel
theorem dL_isStep_753 : decode cL_isStep 753 = .ok (.bipush 12, 2) := by decide +kernel
theorem dL_isStep_755 : decode cL_isStep 755 = .ok (.iload 9, 2) := by decide +kernel
theorem dL_isStep_757 : decode cL_isStep 757 = .ok (.iadd, 1) := by decide +kernel
theorem dL_isStep_758 : decode cL_isStep 758 = .ok (.invokevirtual 15, 3) := by decide +kernel
theorem dL_isStep_761 : decode cL_isStep 761 = .ok (.iload 10, 2) := by decide +kernel
theorem dL_isStep_763 : decode cL_isStep 763 = .ok (.if_icmp .ne 7, 3) := by decide +kernel
theorem dL_isStep_766 : decode cL_isStep 766 = .ok (.iconst 1, 1) := by decide +kernel
theorem dL_isStep_767 : decode cL_isStep 767 = .ok (.goto 4, 3) := by decide +kernel
theorem dL_isStep_770 : decode cL_isStep 770 = .ok (.iconst 0, 1) := by decide +kernel
theorem dL_isStep_771 : decode cL_isStep 771 = .ok (.ireturn, 1) := by decide +kernel
theorem dL_isStep_772 : decode cL_isStep 772 = .ok (.aload_n 0, 1) := by decide +kernel
theorem dL_isStep_773 : decode cL_isStep 773 = .ok (.iconst 1, 1) := by decide +kernel
theorem dL_isStep_774 : decode cL_isStep 774 = .ok (.iload_n 3, 1) := by decide +kernel
theorem dL_isStep_775 : decode cL_isStep 775 = .ok (.sipush 200, 3) := by decide +kernel
theorem dL_isStep_778 : decode cL_isStep 778 = .ok (.invokestatic 19, 3) := by decide +kernel
theorem dL_isStep_781 : decode cL_isStep 781 = .ok (.iadd, 1) := by decide +kernel
theorem dL_isStep_782 : decode cL_isStep 782 = .ok (.iconst 1, 1) := by decide +kernel
theorem dL_isStep_783 : decode cL_isStep 783 = .ok (.iload_n 3, 1) := by decide +kernel
theorem dL_isStep_784 : decode cL_isStep 784 = .ok (.bipush 7, 2) := by decide +kernel
theorem dL_isStep_786 : decode cL_isStep 786 = .ok (.ishr, 1) := by decide +kernel
theorem dL_isStep_787 : decode cL_isStep 787 = .ok (.sipush 200, 3) := by decide +kernel
theorem dL_isStep_790 : decode cL_isStep 790 = .ok (.invokestatic 19, 3) := by decide +kernel
theorem dL_isStep_793 : decode cL_isStep 793 = .ok (.iadd, 1) := by decide +kernel
theorem dL_isStep_794 : decode cL_isStep 794 = .ok (.iconst 3, 1) := by decide +kernel
theorem dL_isStep_795 : decode cL_isStep 795 = .ok (.iload 4, 2) := by decide +kernel
theorem dL_isStep_797 : decode cL_isStep 797 = .ok (.iload 4, 2) := by decide +kernel
theorem dL_isStep_799 : decode cL_isStep 799 = .ok (.iconst 2, 1) := by decide +kernel
theorem dL_isStep_800 : decode cL_isStep 800 = .ok (.invokestatic 19, 3) := by decide +kernel
theorem dL_isStep_803 : decode cL_isStep 803 = .ok (.ifCond .ne 9, 3) := by decide +kernel
theorem dL_isStep_806 : decode cL_isStep 806 = .ok (.sipush 498, 3) := by decide +kernel
theorem dL_isStep_809 : decode cL_isStep 809 = .ok (.goto 5, 3) := by decide +kernel
theorem dL_isStep_812 : decode cL_isStep 812 = .ok (.bipush 25, 2) := by decide +kernel
theorem dL_isStep_814 : decode cL_isStep 814 = .ok (.invokestatic 19, 3) := by decide +kernel
theorem dL_isStep_817 : decode cL_isStep 817 = .ok (.iadd, 1) := by decide +kernel
theorem dL_isStep_818 : decode cL_isStep 818 = .ok (.invokestatic 59, 3) := by decide +kernel
theorem dL_isStep_821 : decode cL_isStep 821 = .ok (.ifCond .eq 22, 3) := by decide +kernel
theorem dL_isStep_824 : decode cL_isStep 824 = .ok (.aload_n 0, 1) := by decide +kernel
theorem dL_isStep_825 : decode cL_isStep 825 = .ok (.iload 6, 2) := by decide +kernel
theorem dL_isStep_827 : decode cL_isStep 827 = .ok (.invokevirtual 63, 3) := by decide +kernel
theorem dL_isStep_830 : decode cL_isStep 830 = .ok (.aload_n 1, 1) := by decide +kernel
theorem dL_isStep_831 : decode cL_isStep 831 = .ok (.iload 6, 2) := by decide +kernel
theorem dL_isStep_833 : decode cL_isStep 833 = .ok (.invokevirtual 63, 3) := by decide +kernel
theorem dL_isStep_836 : decode cL_isStep 836 = .ok (.if_icmp .ne 7, 3) := by decide +kernel
theorem dL_isStep_839 : decode cL_isStep 839 = .ok (.iconst 1, 1) := by decide +kernel
theorem dL_isStep_840 : decode cL_isStep 840 = .ok (.goto 4, 3) := by decide +kernel
theorem dL_isStep_843 : decode cL_isStep 843 = .ok (.iconst 0, 1) := by decide +kernel
theorem dL_isStep_844 : decode cL_isStep 844 = .ok (.ireturn, 1) := by decide +kernel
