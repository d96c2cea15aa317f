theorem dL_isSingle_0 : decode cL_isSingle 0 = .ok (.aload_n 0, 1) := by decide +kernel
theorem dL_isSingle_1 : decode cL_isSingle 1 = .ok (.iconst 2, 1) := by decide +kernel
theorem dL_isSingle_2 : decode cL_isSingle 2 = .ok (.invokevirtual 15, 3) := by decide +kernel
theorem dL_isSingle_5 : decode cL_isSingle 5 = .ok (.istore_n 1, 1) := by decide +kernel
theorem dL_isSingle_6 : decode cL_isSingle 6 = .ok (.aload_n 0, 1) := by decide +kernel
theorem dL_isSingle_7 : decode cL_isSingle 7 = .ok (.bipush 15, 2) := by decide +kernel
theorem dL_isSingle_9 : decode cL_isSingle 9 = .ok (.invokevirtual 15, 3) := by decide +kernel
theorem dL_isSingle_12 : decode cL_isSingle 12 = .ok (.istore_n 2, 1) := by decide +kernel
theorem dL_isSingle_13 : decode cL_isSingle 13 = .ok (.aload_n 0, 1) := by decide +kernel
theorem dL_isSingle_14 : decode cL_isSingle 14 = .ok (.bipush 9, 2) := by decide +kernel
theorem dL_isSingle_16 : decode cL_isSingle 16 = .ok (.invokevirtual 15, 3) := by decide +kernel
theorem dL_isSingle_19 : decode cL_isSingle 19 = .ok (.istore_n 3, 1) := by decide +kernel
theorem dL_isSingle_20 : decode cL_isSingle 20 = .ok (.bipush 16, 2) := by decide +kernel
theorem dL_isSingle_22 : decode cL_isSingle 22 = .ok (.newarray .int, 2) := by decide +kernel
theorem dL_isSingle_24 : decode cL_isSingle 24 = .ok (.astore 4, 2) := by decide +kernel
theorem dL_isSingle_26 : decode cL_isSingle 26 = .ok (.iconst 0, 1) := by decide +kernel
theorem dL_isSingle_27 : decode cL_isSingle 27 = .ok (.istore 5, 2) := by decide +kernel
theorem dL_isSingle_29 : decode cL_isSingle 29 = .ok (.iconst 0, 1) := by decide +kernel
theorem dL_isSingle_30 : decode cL_isSingle 30 = .ok (.istore 6, 2) := by decide +kernel
theorem dL_isSingle_32 : decode cL_isSingle 32 = .ok (.aload_n 0, 1) := by decide +kernel
theorem dL_isSingle_33 : decode cL_isSingle 33 = .ok (.iconst 0, 1) := by decide +kernel
theorem dL_isSingle_34 : decode cL_isSingle 34 = .ok (.invokevirtual 15, 3) := by decide +kernel
theorem dL_isSingle_37 : decode cL_isSingle 37 = .ok (.istore 7, 2) := by decide +kernel
theorem dL_isSingle_39 : decode cL_isSingle 39 = .ok (.iconst 0, 1) := by decide +kernel
theorem dL_isSingle_40 : decode cL_isSingle 40 = .ok (.istore 8, 2) := by decide +kernel
theorem dL_isSingle_42 : decode cL_isSingle 42 = .ok (.iload 8, 2) := by decide +kernel
theorem dL_isSingle_44 : decode cL_isSingle 44 = .ok (.iload 7, 2) := by decide +kernel
theorem dL_isSingle_46 : decode cL_isSingle 46 = .ok (.if_icmp .ge 99, 3) := by decide +kernel
theorem dL_isSingle_49 : decode cL_isSingle 49 = .ok (.aload 4, 2) := by decide +kernel
theorem dL_isSingle_51 : decode cL_isSingle 51 = .ok (.iload 8, 2) := by decide +kernel
theorem dL_isSingle_53 : decode cL_isSingle 53 = .ok (.aload_n 0, 1) := by decide +kernel
theorem dL_isSingle_54 : decode cL_isSingle 54 = .ok (.iload 8, 2) := by decide +kernel
theorem dL_isSingle_56 : decode cL_isSingle 56 = .ok (.iconst 3, 1) := by decide +kernel
theorem dL_isSingle_57 : decode cL_isSingle 57 = .ok (.invokevirtual 25, 3) := by decide +kernel
theorem dL_isSingle_60 : decode cL_isSingle 60 = .ok (.iconst 1, 1) := by decide +kernel
theorem dL_isSingle_61 : decode cL_isSingle 61 = .ok (.if_icmp .ne 14, 3) := by decide +kernel
theorem dL_isSingle_64 : decode cL_isSingle 64 = .ok (.aload_n 0, 1) := by decide +kernel
theorem dL_isSingle_65 : decode cL_isSingle 65 = .ok (.iload 8, 2) := by decide +kernel
theorem dL_isSingle_67 : decode cL_isSingle 67 = .ok (.bipush 7, 2) := by decide +kernel
theorem dL_isSingle_69 : decode cL_isSingle 69 = .ok (.invokevirtual 25, 3) := by decide +kernel
theorem dL_isSingle_72 : decode cL_isSingle 72 = .ok (.goto 4, 3) := by decide +kernel
theorem dL_isSingle_75 : decode cL_isSingle 75 = .ok (.iconst (-1), 1) := by decide +kernel
theorem dL_isSingle_76 : decode cL_isSingle 76 = .ok (.iastore, 1) := by decide +kernel
theorem dL_isSingle_77 : decode cL_isSingle 77 = .ok (.iload 5, 2) := by decide +kernel
theorem dL_isSingle_79 : decode cL_isSingle 79 = .ok (.aload 4, 2) := by decide +kernel
theorem dL_isSingle_81 : decode cL_isSingle 81 = .ok (.iload 8, 2) := by decide +kernel
theorem dL_isSingle_83 : decode cL_isSingle 83 = .ok (.iaload, 1) := by decide +kernel
theorem dL_isSingle_84 : decode cL_isSingle 84 = .ok (.ifCond .ge 7, 3) := by decide +kernel
theorem dL_isSingle_87 : decode cL_isSingle 87 = .ok (.iconst 0, 1) := by decide +kernel
theorem dL_isSingle_88 : decode cL_isSingle 88 = .ok (.goto 21, 3) := by decide +kernel
theorem dL_isSingle_91 : decode cL_isSingle 91 = .ok (.aload 4, 2) := by decide +kernel
theorem dL_isSingle_93 : decode cL_isSingle 93 = .ok (.iload 8, 2) := by decide +kernel
theorem dL_isSingle_95 : decode cL_isSingle 95 = .ok (.iaload, 1) := by decide +kernel
theorem dL_isSingle_96 : decode cL_isSingle 96 = .ok (.iload_n 2, 1) := by decide +kernel
theorem dL_isSingle_97 : decode cL_isSingle 97 = .ok (.if_icmp .ge 11, 3) := by decide +kernel
theorem dL_isSingle_100 : decode cL_isSingle 100 = .ok (.aload 4, 2) := by decide +kernel
theorem dL_isSingle_102 : decode cL_isSingle 102 = .ok (.iload 8, 2) := by decide +kernel
theorem dL_isSingle_104 : decode cL_isSingle 104 = .ok (.iaload, 1) := by decide +kernel
theorem dL_isSingle_105 : decode cL_isSingle 105 = .ok (.goto 4, 3) := by decide +kernel
theorem dL_isSingle_108 : decode cL_isSingle 108 = .ok (.iload_n 2, 1) := by decide +kernel
theorem dL_isSingle_109 : decode cL_isSingle 109 = .ok (.iadd, 1) := by decide +kernel
theorem dL_isSingle_110 : decode cL_isSingle 110 = .ok (.istore 5, 2) := by decide +kernel
theorem dL_isSingle_112 : decode cL_isSingle 112 = .ok (.iload 6, 2) := by decide +kernel
theorem dL_isSingle_114 : decode cL_isSingle 114 = .ok (.aload 4, 2) := by decide +kernel
theorem dL_isSingle_116 : decode cL_isSingle 116 = .ok (.iload 8, 2) := by decide +kernel
theorem dL_isSingle_118 : decode cL_isSingle 118 = .ok (.iaload, 1) := by decide +kernel
theorem dL_isSingle_119 : decode cL_isSingle 119 = .ok (.ifCond .lt 16, 3) := by decide +kernel
theorem dL_isSingle_122 : decode cL_isSingle 122 = .ok (.aload 4, 2) := by decide +kernel
theorem dL_isSingle_124 : decode cL_isSingle 124 = .ok (.iload 8, 2) := by decide +kernel
theorem dL_isSingle_126 : decode cL_isSingle 126 = .ok (.iaload, 1) := by decide +kernel
theorem dL_isSingle_127 : decode cL_isSingle 127 = .ok (.iload_n 2, 1) := by decide +kernel
theorem dL_isSingle_128 : decode cL_isSingle 128 = .ok (.if_icmp .gt 7, 3) := by decide +kernel
theorem dL_isSingle_131 : decode cL_isSingle 131 = .ok (.iconst 1, 1) := by decide +kernel
theorem dL_isSingle_132 : decode cL_isSingle 132 = .ok (.goto 4, 3) := by decide +kernel
theorem dL_isSingle_135 : decode cL_isSingle 135 = .ok (.iconst 0, 1) := by decide +kernel
theorem dL_isSingle_136 : decode cL_isSingle 136 = .ok (.iadd, 1) := by decide +kernel
theorem dL_isSingle_137 : decode cL_isSingle 137 = .ok (.istore 6, 2) := by decide +kernel
theorem dL_isSingle_139 : decode cL_isSingle 139 = .ok (.iinc 8 1, 3) := by decide +kernel
theorem dL_isSingle_142 : decode cL_isSingle 142 = .ok (.goto (-100), 3) := by decide +kernel
theorem dL_isSingle_145 : decode cL_isSingle 145 = .ok (.aload_n 0, 1) := by decide +kernel
theorem dL_isSingle_146 : decode cL_isSingle 146 = .ok (.bipush 8, 2) := by decide +kernel
theorem dL_isSingle_148 : decode cL_isSingle 148 = .ok (.invokevirtual 15, 3) := by decide +kernel
theorem dL_isSingle_151 : decode cL_isSingle 151 = .ok (.istore 8, 2) := by decide +kernel
theorem dL_isSingle_153 : decode cL_isSingle 153 = .ok (.aload_n 0, 1) := by decide +kernel
theorem dL_isSingle_154 : decode cL_isSingle 154 = .ok (.iconst 1, 1) := by decide +kernel
theorem dL_isSingle_155 : decode cL_isSingle 155 = .ok (.invokevirtual 49, 3) := by decide +kernel
theorem dL_isSingle_158 : decode cL_isSingle 158 = .ok (.istore 9, 2) := by decide +kernel
theorem dL_isSingle_160 : decode cL_isSingle 160 = .ok (.iload 9, 2) := by decide +kernel
theorem dL_isSingle_162 : decode cL_isSingle 162 = .ok (.iload 6, 2) := by decide +kernel
theorem dL_isSingle_164 : decode cL_isSingle 164 = .ok (.if_icmp .ne 45, 3) := by decide +kernel
theorem dL_isSingle_167 : decode cL_isSingle 167 = .ok (.aload_n 0, 1) := by decide +kernel
theorem dL_isSingle_168 : decode cL_isSingle 168 = .ok (.bipush 9, 2) := by decide +kernel
theorem dL_isSingle_170 : decode cL_isSingle 170 = .ok (.invokevirtual 15, 3) := by decide +kernel
theorem dL_isSingle_173 : decode cL_isSingle 173 = .ok (.iload_n 3, 1) := by decide +kernel
theorem dL_isSingle_174 : decode cL_isSingle 174 = .ok (.iload 5, 2) := by decide +kernel
theorem dL_isSingle_176 : decode cL_isSingle 176 = .ok (.iadd, 1) := by decide +kernel
theorem dL_isSingle_177 : decode cL_isSingle 177 = .ok (.if_icmp .ne 32, 3) := by decide +kernel
theorem dL_isSingle_180 : decode cL_isSingle 180 = .ok (.aload_n 0, 1) := by decide +kernel
theorem dL_isSingle_181 : decode cL_isSingle 181 = .ok (.bipush 8, 2) := by decide +kernel
theorem dL_isSingle_183 : decode cL_isSingle 183 = .ok (.invokevirtual 15, 3) := by decide +kernel
theorem dL_isSingle_186 : decode cL_isSingle 186 = .ok (.iload 8, 2) := by decide +kernel
theorem dL_isSingle_188 : decode cL_isSingle 188 = .ok (.iconst 1, 1) := by decide +kernel
theorem dL_isSingle_189 : decode cL_isSingle 189 = .ok (.iadd, 1) := by decide +kernel
theorem dL_isSingle_190 : decode cL_isSingle 190 = .ok (.if_icmp .ne 19, 3) := by decide +kernel
theorem dL_isSingle_193 : decode cL_isSingle 193 = .ok (.aload_n 0, 1) := by decide +kernel
theorem dL_isSingle_194 : decode cL_isSingle 194 = .ok (.iconst 2, 1) := by decide +kernel
theorem dL_isSingle_195 : decode cL_isSingle 195 = .ok (.invokevirtual 15, 3) := by decide +kernel
theorem dL_isSingle_198 : decode cL_isSingle 198 = .ok (.iload_n 1, 1) := by decide +kernel
theorem dL_isSingle_199 : decode cL_isSingle 199 = .ok (.iload 6, 2) := by decide +kernel
theorem dL_isSingle_201 : decode cL_isSingle 201 = .ok (.isub, 1) := by decide +kernel
theorem dL_isSingle_202 : decode cL_isSingle 202 = .ok (.if_icmp .lt 7, 3) := by decide +kernel
theorem dL_isSingle_205 : decode cL_isSingle 205 = .ok (.iconst 1, 1) := by decide +kernel
theorem dL_isSingle_206 : decode cL_isSingle 206 = .ok (.goto 4, 3) := by decide +kernel
theorem dL_isSingle_209 : decode cL_isSingle 209 = .ok (.iconst 0, 1) := by decide +kernel
theorem dL_isSingle_210 : decode cL_isSingle 210 = .ok (.istore 10, 2) := by decide +kernel
theorem dL_isSingle_212 : decode cL_isSingle 212 = .ok (.iconst 0, 1) := by decide +kernel
theorem dL_isSingle_213 : decode cL_isSingle 213 = .ok (.istore 11, 2) := by decide +kernel
theorem dL_isSingle_215 : decode cL_isSingle 215 = .ok (.iload 11, 2) := by decide +kernel
theorem dL_isSingle_217 : decode cL_isSingle 217 = .ok (.iload 7, 2) := by decide +kernel
theorem dL_isSingle_219 : decode cL_isSingle 219 = .ok (.if_icmp .ge 97, 3) := by decide +kernel
theorem dL_isSingle_222 : decode cL_isSingle 222 = .ok (.iload 10, 2) := by decide +kernel
theorem dL_isSingle_224 : decode cL_isSingle 224 = .ok (.ifCond .eq 92, 3) := by decide +kernel
theorem dL_isSingle_227 : decode cL_isSingle 227 = .ok (.aload 4, 2) := by decide +kernel
theorem dL_isSingle_229 : decode cL_isSingle 229 = .ok (.iload 11, 2) := by decide +kernel
theorem dL_isSingle_231 : decode cL_isSingle 231 = .ok (.iaload, 1) := by decide +kernel
theorem dL_isSingle_232 : decode cL_isSingle 232 = .ok (.ifCond .lt 71, 3) := by decide +kernel
theorem dL_isSingle_235 : decode cL_isSingle 235 = .ok (.aload 4, 2) := by decide +kernel
theorem dL_isSingle_237 : decode cL_isSingle 237 = .ok (.iload 11, 2) := by decide +kernel
theorem dL_isSingle_239 : decode cL_isSingle 239 = .ok (.iaload, 1) := by decide +kernel
theorem dL_isSingle_240 : decode cL_isSingle 240 = .ok (.iload_n 2, 1) := by decide +kernel
theorem dL_isSingle_241 : decode cL_isSingle 241 = .ok (.if_icmp .gt 28, 3) := by decide +kernel
theorem dL_isSingle_244 : decode cL_isSingle 244 = .ok (.aload_n 0, 1) := by decide +kernel
theorem dL_isSingle_245 : decode cL_isSingle 245 = .ok (.iload 11, 2) := by decide +kernel
theorem dL_isSingle_247 : decode cL_isSingle 247 = .ok (.iconst 3, 1) := by decide +kernel
theorem dL_isSingle_248 : decode cL_isSingle 248 = .ok (.invokevirtual 25, 3) := by decide +kernel
theorem dL_isSingle_251 : decode cL_isSingle 251 = .ok (.iconst 2, 1) := by decide +kernel
theorem dL_isSingle_252 : decode cL_isSingle 252 = .ok (.if_icmp .ne 55, 3) := by decide +kernel
theorem dL_isSingle_255 : decode cL_isSingle 255 = .ok (.aload_n 0, 1) := by decide +kernel
theorem dL_isSingle_256 : decode cL_isSingle 256 = .ok (.iload 11, 2) := by decide +kernel
theorem dL_isSingle_258 : decode cL_isSingle 258 = .ok (.bipush 6, 2) := by decide +kernel
theorem dL_isSingle_260 : decode cL_isSingle 260 = .ok (.invokevirtual 25, 3) := by decide +kernel
theorem dL_isSingle_263 : decode cL_isSingle 263 = .ok (.ifCond .ne 44, 3) := by decide +kernel
theorem dL_isSingle_266 : decode cL_isSingle 266 = .ok (.goto 37, 3) := by decide +kernel
theorem dL_isSingle_269 : decode cL_isSingle 269 = .ok (.aload_n 0, 1) := by decide +kernel
theorem dL_isSingle_270 : decode cL_isSingle 270 = .ok (.iload 11, 2) := by decide +kernel
theorem dL_isSingle_272 : decode cL_isSingle 272 = .ok (.iconst 3, 1) := by decide +kernel
theorem dL_isSingle_273 : decode cL_isSingle 273 = .ok (.invokevirtual 25, 3) := by decide +kernel
theorem dL_isSingle_276 : decode cL_isSingle 276 = .ok (.iconst 1, 1) := by decide +kernel
theorem dL_isSingle_277 : decode cL_isSingle 277 = .ok (.if_icmp .ne 30, 3) := by decide +kernel
theorem dL_isSingle_280 : decode cL_isSingle 280 = .ok (.iload 6, 2) := by decide +kernel
theorem dL_isSingle_282 : decode cL_isSingle 282 = .ok (.ifCond .gt 21, 3) := by decide +kernel
theorem dL_isSingle_285 : decode cL_isSingle 285 = .ok (.aload_n 0, 1) := by decide +kernel
theorem dL_isSingle_286 : decode cL_isSingle 286 = .ok (.iload 11, 2) := by decide +kernel
theorem dL_isSingle_288 : decode cL_isSingle 288 = .ok (.bipush 7, 2) := by decide +kernel
theorem dL_isSingle_290 : decode cL_isSingle 290 = .ok (.invokevirtual 25, 3) := by decide +kernel
theorem dL_isSingle_293 : decode cL_isSingle 293 = .ok (.aload 4, 2) := by decide +kernel
theorem dL_isSingle_295 : decode cL_isSingle 295 = .ok (.iload 11, 2) := by decide +kernel
theorem dL_isSingle_297 : decode cL_isSingle 297 = .ok (.iaload, 1) := by decide +kernel
theorem dL_isSingle_298 : decode cL_isSingle 298 = .ok (.iload_n 2, 1) := by decide +kernel
theorem dL_isSingle_299 : decode cL_isSingle 299 = .ok (.isub, 1) := by decide +kernel
theorem dL_isSingle_300 : decode cL_isSingle 300 = .ok (.if_icmp .ne 7, 3) := by decide +kernel
theorem dL_isSingle_303 : decode cL_isSingle 303 = .ok (.iconst 1, 1) := by decide +kernel
theorem dL_isSingle_304 : decode cL_isSingle 304 = .ok (.goto 4, 3) := by decide +kernel
theorem dL_isSingle_307 : decode cL_isSingle 307 = .ok (.iconst 0, 1) := by decide +kernel
theorem dL_isSingle_308 : decode cL_isSingle 308 = .ok (.istore 10, 2) := by decide +kernel
theorem dL_isSingle_310 : decode cL_isSingle 310 = .ok (.iinc 11 1, 3) := by decide +kernel
theorem dL_isSingle_313 : decode cL_isSingle 313 = .ok (.goto (-98), 3) := by decide +kernel
theorem dL_isSingle_316 : decode cL_isSingle 316 = .ok (.iload 10, 2) := by decide +kernel
theorem dL_isSingle_318 : decode cL_isSingle 318 = .ok (.ireturn, 1) := by decide +kernel
