theorem dL_isStep_185 : decode cL_isStep 185 = .ok (.ifCond .lt 65, 3) := by decide +kernel
theorem dL_isStep_188 : decode cL_isStep 188 = .ok (.aload_n 1, 1) := by decide +kernel
theorem dL_isStep_189 : decode cL_isStep 189 = .ok (.iload 9, 2) := by decide +kernel
theorem dL_isStep_191 : decode cL_isStep 191 = .ok (.ifCond .ne 8, 3) := by decide +kernel
theorem dL_isStep_194 : decode cL_isStep 194 = .ok (.bipush 108, 2) := by decide +kernel
theorem dL_isStep_196 : decode cL_isStep 196 = .ok (.goto 16, 3) := by decide +kernel
theorem dL_isStep_199 : decode cL_isStep 199 = .ok (.iload 9, 2) := by decide +kernel
theorem dL_isStep_201 : decode cL_isStep 201 = .ok (.iconst 1, 1) := by decide +kernel
theorem dL_isStep_202 : decode cL_isStep 202 = .ok (.if_icmp .ne 8, 3) := by decide +kernel
theorem dL_isStep_205 : decode cL_isStep 205 = .ok (.bipush 98, 2) := by decide +kernel
theorem dL_isStep_207 : decode cL_isStep 207 = .ok (.goto 5, 3) := by decide +kernel
theorem dL_isStep_210 : decode cL_isStep 210 = .ok (.bipush 109, 2) := by decide +kernel
theorem dL_isStep_212 : decode cL_isStep 212 = .ok (.invokevirtual 9, 3) := by decide +kernel
theorem dL_isStep_215 : decode cL_isStep 215 = .ok (.iconst 1, 1) := by decide +kernel
theorem dL_isStep_216 : decode cL_isStep 216 = .ok (.if_icmp .ne 34, 3) := by decide +kernel
theorem dL_isStep_219 : decode cL_isStep 219 = .ok (.aload_n 1, 1) := by decide +kernel
theorem dL_isStep_220 : decode cL_isStep 220 = .ok (.iload 10, 2) := by decide +kernel
theorem dL_isStep_222 : decode cL_isStep 222 = .ok (.invokestatic 36, 3) := by decide +kernel
theorem dL_isStep_225 : decode cL_isStep 225 = .ok (.ifCond .eq 25, 3) := by decide +kernel
theorem dL_isStep_228 : decode cL_isStep 228 = .ok (.aload_n 1, 1) := by decide +kernel
theorem dL_isStep_229 : decode cL_isStep 229 = .ok (.bipush 120, 2) := by decide +kernel
theorem dL_isStep_231 : decode cL_isStep 231 = .ok (.invokevirtual 9, 3) := by decide +kernel
theorem dL_isStep_234 : decode cL_isStep 234 = .ok (.ifCond .le 16, 3) := by decide +kernel
theorem dL_isStep_237 : decode cL_isStep 237 = .ok (.aload_n 1, 1) := by decide +kernel
theorem dL_isStep_238 : decode cL_isStep 238 = .ok (.iload 11, 2) := by decide +kernel
theorem dL_isStep_240 : decode cL_isStep 240 = .ok (.invokestatic 36, 3) := by decide +kernel
theorem dL_isStep_243 : decode cL_isStep 243 = .ok (.ifCond .eq 7, 3) := by decide +kernel
theorem dL_isStep_246 : decode cL_isStep 246 = .ok (.iconst 1, 1) := by decide +kernel
theorem dL_isStep_247 : decode cL_isStep 247 = .ok (.goto 4, 3) := by decide +kernel
theorem dL_isStep_250 : decode cL_isStep 250 = .ok (.iconst 0, 1) := by decide +kernel
theorem dL_isStep_251 : decode cL_isStep 251 = .ok (.istore 13, 2) := by decide +kernel
theorem dL_isStep_253 : decode cL_isStep 253 = .ok (.aload_n 1, 1) := by decide +kernel
theorem dL_isStep_254 : decode cL_isStep 254 = .ok (.invokevirtual 40, 3) := by decide +kernel
theorem dL_isStep_257 : decode cL_isStep 257 = .ok (.istore 14, 2) := by decide +kernel
theorem dL_isStep_259 : decode cL_isStep 259 = .ok (.iload 13, 2) := by decide +kernel
theorem dL_isStep_261 : decode cL_isStep 261 = .ok (.ifCond .eq 76, 3) := by decide +kernel
theorem dL_isStep_264 : decode cL_isStep 264 = .ok (.iload 5, 2) := by decide +kernel
theorem dL_isStep_266 : decode cL_isStep 266 = .ok (.bipush 16, 2) := by decide +kernel
theorem dL_isStep_268 : decode cL_isStep 268 = .ok (.if_icmp .ne 20, 3) := by decide +kernel
theorem dL_isStep_271 : decode cL_isStep 271 = .ok (.iload 12, 2) := by decide +kernel
theorem dL_isStep_273 : decode cL_isStep 273 = .ok (.bipush (-3), 2) := by decide +kernel
theorem dL_isStep_275 : decode cL_isStep 275 = .ok (.if_icmp .ne 62, 3) := by decide +kernel
theorem dL_isStep_278 : decode cL_isStep 278 = .ok (.iload 14, 2) := by decide +kernel
theorem dL_isStep_280 : decode cL_isStep 280 = .ok (.iload 12, 2) := by decide +kernel
theorem dL_isStep_282 : decode cL_isStep 282 = .ok (.if_icmp .ne 55, 3) := by decide +kernel
theorem dL_isStep_285 : decode cL_isStep 285 = .ok (.goto 48, 3) := by decide +kernel
theorem dL_isStep_288 : decode cL_isStep 288 = .ok (.iload 12, 2) := by decide +kernel
theorem dL_isStep_290 : decode cL_isStep 290 = .ok (.iload 5, 2) := by decide +kernel
theorem dL_isStep_292 : decode cL_isStep 292 = .ok (.if_icmp .ne 45, 3) := by decide +kernel
theorem dL_isStep_295 : decode cL_isStep 295 = .ok (.iload 14, 2) := by decide +kernel
theorem dL_isStep_297 : decode cL_isStep 297 = .ok (.iconst 1, 1) := by decide +kernel
theorem dL_isStep_298 : decode cL_isStep 298 = .ok (.if_icmp .ne 39, 3) := by decide +kernel
theorem dL_isStep_301 : decode cL_isStep 301 = .ok (.aload_n 0, 1) := by decide +kernel
theorem dL_isStep_302 : decode cL_isStep 302 = .ok (.iload 5, 2) := by decide +kernel
theorem dL_isStep_304 : decode cL_isStep 304 = .ok (.bipush 8, 2) := by decide +kernel
theorem dL_isStep_306 : decode cL_isStep 306 = .ok (.invokevirtual 25, 3) := by decide +kernel
theorem dL_isStep_309 : decode cL_isStep 309 = .ok (.ifCond .ne 28, 3) := by decide +kernel
theorem dL_isStep_312 : decode cL_isStep 312 = .ok (.aload_n 0, 1) := by decide +kernel
theorem dL_isStep_313 : decode cL_isStep 313 = .ok (.iload 5, 2) := by decide +kernel
theorem dL_isStep_315 : decode cL_isStep 315 = .ok (.iconst 3, 1) := by decide +kernel
theorem dL_isStep_316 : decode cL_isStep 316 = .ok (.invokevirtual 25, 3) := by decide +kernel
theorem dL_isStep_319 : decode cL_isStep 319 = .ok (.iconst 2, 1) := by decide +kernel
theorem dL_isStep_320 : decode cL_isStep 320 = .ok (.if_icmp .ge 17, 3) := by decide +kernel
theorem dL_isStep_323 : decode cL_isStep 323 = .ok (.aload_n 0, 1) := by decide +kernel
theorem dL_isStep_324 : decode cL_isStep 324 = .ok (.iconst 5, 1) := by decide +kernel
