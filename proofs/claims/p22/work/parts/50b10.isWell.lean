theorem dL_isWell_115 : decode cL_isWell 115 = .ok (.invokevirtual 25, 3) := by decide +kernel
theorem dL_isWell_118 : decode cL_isWell 118 = .ok (.iadd, 1) := by decide +kernel
theorem dL_isWell_119 : decode cL_isWell 119 = .ok (.istore 5, 2) := by decide +kernel
theorem dL_isWell_121 : decode cL_isWell 121 = .ok (.iload 6, 2) := by decide +kernel
theorem dL_isWell_123 : decode cL_isWell 123 = .ok (.aload_n 0, 1) := by decide +kernel
theorem dL_isWell_124 : decode cL_isWell 124 = .ok (.iload 8, 2) := by decide +kernel
theorem dL_isWell_126 : decode cL_isWell 126 = .ok (.bipush 11, 2) := by decide +kernel
theorem dL_isWell_128 : decode cL_isWell 128 = .ok (.invokevirtual 25, 3) := by decide +kernel
theorem dL_isWell_131 : decode cL_isWell 131 = .ok (.iadd, 1) := by decide +kernel
theorem dL_isWell_132 : decode cL_isWell 132 = .ok (.istore 6, 2) := by decide +kernel
theorem dL_isWell_134 : decode cL_isWell 134 = .ok (.iload 11, 2) := by decide +kernel
theorem dL_isWell_136 : decode cL_isWell 136 = .ok (.iconst 3, 1) := by decide +kernel
theorem dL_isWell_137 : decode cL_isWell 137 = .ok (.if_icmp .lt 165, 3) := by decide +kernel
theorem dL_isWell_140 : decode cL_isWell 140 = .ok (.iload 12, 2) := by decide +kernel
theorem dL_isWell_142 : decode cL_isWell 142 = .ok (.iload 11, 2) := by decide +kernel
theorem dL_isWell_144 : decode cL_isWell 144 = .ok (.if_icmp .lt 158, 3) := by decide +kernel
theorem dL_isWell_147 : decode cL_isWell 147 = .ok (.iload 9, 2) := by decide +kernel
theorem dL_isWell_149 : decode cL_isWell 149 = .ok (.iconst 1, 1) := by decide +kernel
theorem dL_isWell_150 : decode cL_isWell 150 = .ok (.if_icmp .ne 31, 3) := by decide +kernel
theorem dL_isWell_153 : decode cL_isWell 153 = .ok (.iload 10, 2) := by decide +kernel
theorem dL_isWell_155 : decode cL_isWell 155 = .ok (.iload 11, 2) := by decide +kernel
theorem dL_isWell_157 : decode cL_isWell 157 = .ok (.if_icmp .lt 145, 3) := by decide +kernel
theorem dL_isWell_160 : decode cL_isWell 160 = .ok (.iload 10, 2) := by decide +kernel
theorem dL_isWell_162 : decode cL_isWell 162 = .ok (.iload 12, 2) := by decide +kernel
theorem dL_isWell_164 : decode cL_isWell 164 = .ok (.if_icmp .gt 138, 3) := by decide +kernel
theorem dL_isWell_167 : decode cL_isWell 167 = .ok (.aload_n 0, 1) := by decide +kernel
theorem dL_isWell_168 : decode cL_isWell 168 = .ok (.iload 8, 2) := by decide +kernel
theorem dL_isWell_170 : decode cL_isWell 170 = .ok (.bipush 7, 2) := by decide +kernel
theorem dL_isWell_172 : decode cL_isWell 172 = .ok (.invokevirtual 25, 3) := by decide +kernel
theorem dL_isWell_175 : decode cL_isWell 175 = .ok (.ifCond .le 127, 3) := by decide +kernel
theorem dL_isWell_178 : decode cL_isWell 178 = .ok (.goto 19, 3) := by decide +kernel
theorem dL_isWell_181 : decode cL_isWell 181 = .ok (.iload 10, 2) := by decide +kernel
theorem dL_isWell_183 : decode cL_isWell 183 = .ok (.ifCond .ne 119, 3) := by decide +kernel
theorem dL_isWell_186 : decode cL_isWell 186 = .ok (.aload_n 0, 1) := by decide +kernel
theorem dL_isWell_187 : decode cL_isWell 187 = .ok (.iload 8, 2) := by decide +kernel
theorem dL_isWell_189 : decode cL_isWell 189 = .ok (.bipush 7, 2) := by decide +kernel
theorem dL_isWell_191 : decode cL_isWell 191 = .ok (.invokevirtual 25, 3) := by decide +kernel
theorem dL_isWell_194 : decode cL_isWell 194 = .ok (.ifCond .ne 108, 3) := by decide +kernel
theorem dL_isWell_197 : decode cL_isWell 197 = .ok (.iload 9, 2) := by decide +kernel
theorem dL_isWell_199 : decode cL_isWell 199 = .ok (.ifCond .le 7, 3) := by decide +kernel
theorem dL_isWell_202 : decode cL_isWell 202 = .ok (.iconst 1, 1) := by decide +kernel
theorem dL_isWell_203 : decode cL_isWell 203 = .ok (.goto 4, 3) := by decide +kernel
theorem dL_isWell_206 : decode cL_isWell 206 = .ok (.iconst 0, 1) := by decide +kernel
theorem dL_isWell_207 : decode cL_isWell 207 = .ok (.aload_n 0, 1) := by decide +kernel
theorem dL_isWell_208 : decode cL_isWell 208 = .ok (.iload 8, 2) := by decide +kernel
theorem dL_isWell_210 : decode cL_isWell 210 = .ok (.invokevirtual 76, 3) := by decide +kernel
theorem dL_isWell_213 : decode cL_isWell 213 = .ok (.ifCond .ne 7, 3) := by decide +kernel
theorem dL_isWell_216 : decode cL_isWell 216 = .ok (.iconst 1, 1) := by decide +kernel
theorem dL_isWell_217 : decode cL_isWell 217 = .ok (.goto 4, 3) := by decide +kernel
theorem dL_isWell_220 : decode cL_isWell 220 = .ok (.iconst 0, 1) := by decide +kernel
theorem dL_isWell_221 : decode cL_isWell 221 = .ok (.if_icmp .ne 81, 3) := by decide +kernel
theorem dL_isWell_224 : decode cL_isWell 224 = .ok (.aload_n 0, 1) := by decide +kernel
theorem dL_isWell_225 : decode cL_isWell 225 = .ok (.iload 8, 2) := by decide +kernel
theorem dL_isWell_227 : decode cL_isWell 227 = .ok (.bipush 8, 2) := by decide +kernel
theorem dL_isWell_229 : decode cL_isWell 229 = .ok (.invokevirtual 25, 3) := by decide +kernel
theorem dL_isWell_232 : decode cL_isWell 232 = .ok (.aload_n 0, 1) := by decide +kernel
theorem dL_isWell_233 : decode cL_isWell 233 = .ok (.iload 8, 2) := by decide +kernel
theorem dL_isWell_235 : decode cL_isWell 235 = .ok (.bipush 9, 2) := by decide +kernel
theorem dL_isWell_237 : decode cL_isWell 237 = .ok (.invokevirtual 25, 3) := by decide +kernel
theorem dL_isWell_240 : decode cL_isWell 240 = .ok (.iadd, 1) := by decide +kernel
theorem dL_isWell_241 : decode cL_isWell 241 = .ok (.aload_n 0, 1) := by decide +kernel
theorem dL_isWell_242 : decode cL_isWell 242 = .ok (.bipush 8, 2) := by decide +kernel
theorem dL_isWell_244 : decode cL_isWell 244 = .ok (.invokevirtual 15, 3) := by decide +kernel
theorem dL_isWell_247 : decode cL_isWell 247 = .ok (.if_icmp .gt 55, 3) := by decide +kernel
theorem dL_isWell_250 : decode cL_isWell 250 = .ok (.aload_n 0, 1) := by decide +kernel
theorem dL_isWell_251 : decode cL_isWell 251 = .ok (.iload 8, 2) := by decide +kernel
theorem dL_isWell_253 : decode cL_isWell 253 = .ok (.bipush 11, 2) := by decide +kernel
theorem dL_isWell_255 : decode cL_isWell 255 = .ok (.invokevirtual 25, 3) := by decide +kernel
theorem dL_isWell_258 : decode cL_isWell 258 = .ok (.iconst 1, 1) := by decide +kernel
theorem dL_isWell_259 : decode cL_isWell 259 = .ok (.if_icmp .ne 7, 3) := by decide +kernel
