theorem dL_isWell_0 : decode cL_isWell 0 = .ok (.aload_n 0, 1) := by decide +kernel
theorem dL_isWell_1 : decode cL_isWell 1 = .ok (.iconst 0, 1) := by decide +kernel
theorem dL_isWell_2 : decode cL_isWell 2 = .ok (.invokevirtual 15, 3) := by decide +kernel
theorem dL_isWell_5 : decode cL_isWell 5 = .ok (.istore_n 1, 1) := by decide +kernel
theorem dL_isWell_6 : decode cL_isWell 6 = .ok (.iconst 4, 1) := by decide +kernel
theorem dL_isWell_7 : decode cL_isWell 7 = .ok (.newarray .int, 2) := by decide +kernel
theorem dL_isWell_9 : decode cL_isWell 9 = .ok (.astore_n 2, 1) := by decide +kernel
theorem dL_isWell_10 : decode cL_isWell 10 = .ok (.iconst 0, 1) := by decide +kernel
theorem dL_isWell_11 : decode cL_isWell 11 = .ok (.istore_n 3, 1) := by decide +kernel
theorem dL_isWell_12 : decode cL_isWell 12 = .ok (.iconst 0, 1) := by decide +kernel
theorem dL_isWell_13 : decode cL_isWell 13 = .ok (.istore 4, 2) := by decide +kernel
theorem dL_isWell_15 : decode cL_isWell 15 = .ok (.iconst 0, 1) := by decide +kernel
theorem dL_isWell_16 : decode cL_isWell 16 = .ok (.istore 5, 2) := by decide +kernel
theorem dL_isWell_18 : decode cL_isWell 18 = .ok (.iconst 0, 1) := by decide +kernel
theorem dL_isWell_19 : decode cL_isWell 19 = .ok (.istore 6, 2) := by decide +kernel
theorem dL_isWell_21 : decode cL_isWell 21 = .ok (.iconst 1, 1) := by decide +kernel
theorem dL_isWell_22 : decode cL_isWell 22 = .ok (.istore 7, 2) := by decide +kernel
theorem dL_isWell_24 : decode cL_isWell 24 = .ok (.iconst 0, 1) := by decide +kernel
theorem dL_isWell_25 : decode cL_isWell 25 = .ok (.istore 8, 2) := by decide +kernel
theorem dL_isWell_27 : decode cL_isWell 27 = .ok (.iload 8, 2) := by decide +kernel
theorem dL_isWell_29 : decode cL_isWell 29 = .ok (.iload_n 1, 1) := by decide +kernel
theorem dL_isWell_30 : decode cL_isWell 30 = .ok (.if_icmp .ge 281, 3) := by decide +kernel
theorem dL_isWell_33 : decode cL_isWell 33 = .ok (.iload 7, 2) := by decide +kernel
theorem dL_isWell_35 : decode cL_isWell 35 = .ok (.ifCond .eq 276, 3) := by decide +kernel
theorem dL_isWell_38 : decode cL_isWell 38 = .ok (.aload_n 0, 1) := by decide +kernel
theorem dL_isWell_39 : decode cL_isWell 39 = .ok (.iload 8, 2) := by decide +kernel
theorem dL_isWell_41 : decode cL_isWell 41 = .ok (.iconst 3, 1) := by decide +kernel
theorem dL_isWell_42 : decode cL_isWell 42 = .ok (.invokevirtual 25, 3) := by decide +kernel
theorem dL_isWell_45 : decode cL_isWell 45 = .ok (.istore 9, 2) := by decide +kernel
theorem dL_isWell_47 : decode cL_isWell 47 = .ok (.aload_n 0, 1) := by decide +kernel
theorem dL_isWell_48 : decode cL_isWell 48 = .ok (.iload 8, 2) := by decide +kernel
theorem dL_isWell_50 : decode cL_isWell 50 = .ok (.bipush 6, 2) := by decide +kernel
theorem dL_isWell_52 : decode cL_isWell 52 = .ok (.invokevirtual 25, 3) := by decide +kernel
theorem dL_isWell_55 : decode cL_isWell 55 = .ok (.istore 10, 2) := by decide +kernel
theorem dL_isWell_57 : decode cL_isWell 57 = .ok (.aload_n 0, 1) := by decide +kernel
theorem dL_isWell_58 : decode cL_isWell 58 = .ok (.iload 8, 2) := by decide +kernel
theorem dL_isWell_60 : decode cL_isWell 60 = .ok (.iconst 4, 1) := by decide +kernel
theorem dL_isWell_61 : decode cL_isWell 61 = .ok (.invokevirtual 25, 3) := by decide +kernel
theorem dL_isWell_64 : decode cL_isWell 64 = .ok (.istore 11, 2) := by decide +kernel
theorem dL_isWell_66 : decode cL_isWell 66 = .ok (.aload_n 0, 1) := by decide +kernel
theorem dL_isWell_67 : decode cL_isWell 67 = .ok (.iload 8, 2) := by decide +kernel
theorem dL_isWell_69 : decode cL_isWell 69 = .ok (.iconst 5, 1) := by decide +kernel
theorem dL_isWell_70 : decode cL_isWell 70 = .ok (.invokevirtual 25, 3) := by decide +kernel
theorem dL_isWell_73 : decode cL_isWell 73 = .ok (.istore 12, 2) := by decide +kernel
theorem dL_isWell_75 : decode cL_isWell 75 = .ok (.aload_n 2, 1) := by decide +kernel
theorem dL_isWell_76 : decode cL_isWell 76 = .ok (.iload 9, 2) := by decide +kernel
theorem dL_isWell_78 : decode cL_isWell 78 = .ok (.dup2, 1) := by decide +kernel
theorem dL_isWell_79 : decode cL_isWell 79 = .ok (.iaload, 1) := by decide +kernel
theorem dL_isWell_80 : decode cL_isWell 80 = .ok (.iconst 1, 1) := by decide +kernel
theorem dL_isWell_81 : decode cL_isWell 81 = .ok (.iadd, 1) := by decide +kernel
theorem dL_isWell_82 : decode cL_isWell 82 = .ok (.iastore, 1) := by decide +kernel
theorem dL_isWell_83 : decode cL_isWell 83 = .ok (.iload_n 3, 1) := by decide +kernel
theorem dL_isWell_84 : decode cL_isWell 84 = .ok (.iload 10, 2) := by decide +kernel
theorem dL_isWell_86 : decode cL_isWell 86 = .ok (.iadd, 1) := by decide +kernel
theorem dL_isWell_87 : decode cL_isWell 87 = .ok (.istore_n 3, 1) := by decide +kernel
theorem dL_isWell_88 : decode cL_isWell 88 = .ok (.iload 4, 2) := by decide +kernel
theorem dL_isWell_90 : decode cL_isWell 90 = .ok (.iload 9, 2) := by decide +kernel
theorem dL_isWell_92 : decode cL_isWell 92 = .ok (.iconst 1, 1) := by decide +kernel
theorem dL_isWell_93 : decode cL_isWell 93 = .ok (.if_icmp .ne 11, 3) := by decide +kernel
theorem dL_isWell_96 : decode cL_isWell 96 = .ok (.iload 10, 2) := by decide +kernel
theorem dL_isWell_98 : decode cL_isWell 98 = .ok (.iload 11, 2) := by decide +kernel
theorem dL_isWell_100 : decode cL_isWell 100 = .ok (.isub, 1) := by decide +kernel
theorem dL_isWell_101 : decode cL_isWell 101 = .ok (.goto 4, 3) := by decide +kernel
theorem dL_isWell_104 : decode cL_isWell 104 = .ok (.iconst 0, 1) := by decide +kernel
theorem dL_isWell_105 : decode cL_isWell 105 = .ok (.iadd, 1) := by decide +kernel
theorem dL_isWell_106 : decode cL_isWell 106 = .ok (.istore 4, 2) := by decide +kernel
theorem dL_isWell_108 : decode cL_isWell 108 = .ok (.iload 5, 2) := by decide +kernel
theorem dL_isWell_110 : decode cL_isWell 110 = .ok (.aload_n 0, 1) := by decide +kernel
theorem dL_isWell_111 : decode cL_isWell 111 = .ok (.iload 8, 2) := by decide +kernel
theorem dL_isWell_113 : decode cL_isWell 113 = .ok (.bipush 10, 2) := by decide +kernel
