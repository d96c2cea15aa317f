theorem dL_isStep_0 : decode cL_isStep 0 = .ok (.iload_n 2, 1) := by decide +kernel
theorem dL_isStep_1 : decode cL_isStep 1 = .ok (.iconst 4, 1) := by decide +kernel
theorem dL_isStep_2 : decode cL_isStep 2 = .ok (.ishr, 1) := by decide +kernel
theorem dL_isStep_3 : decode cL_isStep 3 = .ok (.istore 4, 2) := by decide +kernel
theorem dL_isStep_5 : decode cL_isStep 5 = .ok (.aload_n 0, 1) := by decide +kernel
theorem dL_isStep_6 : decode cL_isStep 6 = .ok (.iconst 0, 1) := by decide +kernel
theorem dL_isStep_7 : decode cL_isStep 7 = .ok (.invokevirtual 15, 3) := by decide +kernel
theorem dL_isStep_10 : decode cL_isStep 10 = .ok (.istore 5, 2) := by decide +kernel
theorem dL_isStep_12 : decode cL_isStep 12 = .ok (.iload 4, 2) := by decide +kernel
theorem dL_isStep_14 : decode cL_isStep 14 = .ok (.iload 5, 2) := by decide +kernel
theorem dL_isStep_16 : decode cL_isStep 16 = .ok (.iconst 1, 1) := by decide +kernel
theorem dL_isStep_17 : decode cL_isStep 17 = .ok (.iadd, 1) := by decide +kernel
theorem dL_isStep_18 : decode cL_isStep 18 = .ok (.invokestatic 19, 3) := by decide +kernel
theorem dL_isStep_21 : decode cL_isStep 21 = .ok (.istore 6, 2) := by decide +kernel
theorem dL_isStep_23 : decode cL_isStep 23 = .ok (.aload_n 0, 1) := by decide +kernel
theorem dL_isStep_24 : decode cL_isStep 24 = .ok (.iload 6, 2) := by decide +kernel
theorem dL_isStep_26 : decode cL_isStep 26 = .ok (.iconst 3, 1) := by decide +kernel
theorem dL_isStep_27 : decode cL_isStep 27 = .ok (.invokevirtual 25, 3) := by decide +kernel
theorem dL_isStep_30 : decode cL_isStep 30 = .ok (.istore 7, 2) := by decide +kernel
theorem dL_isStep_32 : decode cL_isStep 32 = .ok (.aload_n 0, 1) := by decide +kernel
theorem dL_isStep_33 : decode cL_isStep 33 = .ok (.iconst 5, 1) := by decide +kernel
theorem dL_isStep_34 : decode cL_isStep 34 = .ok (.invokevirtual 15, 3) := by decide +kernel
theorem dL_isStep_37 : decode cL_isStep 37 = .ok (.istore 8, 2) := by decide +kernel
theorem dL_isStep_39 : decode cL_isStep 39 = .ok (.iload_n 2, 1) := by decide +kernel
theorem dL_isStep_40 : decode cL_isStep 40 = .ok (.bipush 14, 2) := by decide +kernel
theorem dL_isStep_42 : decode cL_isStep 42 = .ok (.invokestatic 19, 3) := by decide +kernel
theorem dL_isStep_45 : decode cL_isStep 45 = .ok (.tableswitch 727 0 11 #[63, 63, 63, 63, 294, 386, 471, 471, 471, 471, 582, 582], 63) := by decide +kernel
theorem dL_isStep_108 : decode cL_isStep 108 = .ok (.iload 4, 2) := by decide +kernel
theorem dL_isStep_110 : decode cL_isStep 110 = .ok (.iconst 3, 1) := by decide +kernel
theorem dL_isStep_111 : decode cL_isStep 111 = .ok (.invokestatic 19, 3) := by decide +kernel
theorem dL_isStep_114 : decode cL_isStep 114 = .ok (.istore 9, 2) := by decide +kernel
theorem dL_isStep_116 : decode cL_isStep 116 = .ok (.iconst 1, 1) := by decide +kernel
theorem dL_isStep_117 : decode cL_isStep 117 = .ok (.iload_n 3, 1) := by decide +kernel
theorem dL_isStep_118 : decode cL_isStep 118 = .ok (.iload 4, 2) := by decide +kernel
theorem dL_isStep_120 : decode cL_isStep 120 = .ok (.iconst 4, 1) := by decide +kernel
theorem dL_isStep_121 : decode cL_isStep 121 = .ok (.invokestatic 19, 3) := by decide +kernel
theorem dL_isStep_124 : decode cL_isStep 124 = .ok (.ifCond .ne 9, 3) := by decide +kernel
theorem dL_isStep_127 : decode cL_isStep 127 = .ok (.sipush 200, 3) := by decide +kernel
theorem dL_isStep_130 : decode cL_isStep 130 = .ok (.goto 5, 3) := by decide +kernel
theorem dL_isStep_133 : decode cL_isStep 133 = .ok (.bipush 50, 2) := by decide +kernel
theorem dL_isStep_135 : decode cL_isStep 135 = .ok (.invokestatic 19, 3) := by decide +kernel
theorem dL_isStep_138 : decode cL_isStep 138 = .ok (.iadd, 1) := by decide +kernel
theorem dL_isStep_139 : decode cL_isStep 139 = .ok (.istore 10, 2) := by decide +kernel
theorem dL_isStep_141 : decode cL_isStep 141 = .ok (.iconst 1, 1) := by decide +kernel
theorem dL_isStep_142 : decode cL_isStep 142 = .ok (.iload_n 3, 1) := by decide +kernel
theorem dL_isStep_143 : decode cL_isStep 143 = .ok (.bipush 7, 2) := by decide +kernel
theorem dL_isStep_145 : decode cL_isStep 145 = .ok (.ishr, 1) := by decide +kernel
theorem dL_isStep_146 : decode cL_isStep 146 = .ok (.iload 4, 2) := by decide +kernel
theorem dL_isStep_148 : decode cL_isStep 148 = .ok (.iconst 4, 1) := by decide +kernel
theorem dL_isStep_149 : decode cL_isStep 149 = .ok (.invokestatic 19, 3) := by decide +kernel
theorem dL_isStep_152 : decode cL_isStep 152 = .ok (.ifCond .ne 9, 3) := by decide +kernel
theorem dL_isStep_155 : decode cL_isStep 155 = .ok (.sipush 200, 3) := by decide +kernel
theorem dL_isStep_158 : decode cL_isStep 158 = .ok (.goto 5, 3) := by decide +kernel
theorem dL_isStep_161 : decode cL_isStep 161 = .ok (.bipush 50, 2) := by decide +kernel
theorem dL_isStep_163 : decode cL_isStep 163 = .ok (.invokestatic 19, 3) := by decide +kernel
theorem dL_isStep_166 : decode cL_isStep 166 = .ok (.iadd, 1) := by decide +kernel
theorem dL_isStep_167 : decode cL_isStep 167 = .ok (.istore 11, 2) := by decide +kernel
theorem dL_isStep_169 : decode cL_isStep 169 = .ok (.aload_n 0, 1) := by decide +kernel
theorem dL_isStep_170 : decode cL_isStep 170 = .ok (.iload 9, 2) := by decide +kernel
theorem dL_isStep_172 : decode cL_isStep 172 = .ok (.iload 10, 2) := by decide +kernel
theorem dL_isStep_174 : decode cL_isStep 174 = .ok (.iload 11, 2) := by decide +kernel
theorem dL_isStep_176 : decode cL_isStep 176 = .ok (.invokevirtual 28, 3) := by decide +kernel
theorem dL_isStep_179 : decode cL_isStep 179 = .ok (.istore 12, 2) := by decide +kernel
theorem dL_isStep_181 : decode cL_isStep 181 = .ok (.aload_n 1, 1) := by decide +kernel
theorem dL_isStep_182 : decode cL_isStep 182 = .ok (.invokevirtual 32, 3) := by decide +kernel
