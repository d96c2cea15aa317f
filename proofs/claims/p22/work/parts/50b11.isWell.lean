theorem dL_isWell_262 : decode cL_isWell 262 = .ok (.iconst 1, 1) := by decide +kernel
theorem dL_isWell_263 : decode cL_isWell 263 = .ok (.goto 4, 3) := by decide +kernel
theorem dL_isWell_266 : decode cL_isWell 266 = .ok (.iconst 0, 1) := by decide +kernel
theorem dL_isWell_267 : decode cL_isWell 267 = .ok (.iload 9, 2) := by decide +kernel
theorem dL_isWell_269 : decode cL_isWell 269 = .ok (.iconst 1, 1) := by decide +kernel
theorem dL_isWell_270 : decode cL_isWell 270 = .ok (.if_icmp .ne 24, 3) := by decide +kernel
theorem dL_isWell_273 : decode cL_isWell 273 = .ok (.aload_n 0, 1) := by decide +kernel
theorem dL_isWell_274 : decode cL_isWell 274 = .ok (.iload 8, 2) := by decide +kernel
theorem dL_isWell_276 : decode cL_isWell 276 = .ok (.iconst 0, 1) := by decide +kernel
theorem dL_isWell_277 : decode cL_isWell 277 = .ok (.invokevirtual 25, 3) := by decide +kernel
theorem dL_isWell_280 : decode cL_isWell 280 = .ok (.ifCond .le 14, 3) := by decide +kernel
theorem dL_isWell_283 : decode cL_isWell 283 = .ok (.iload 10, 2) := by decide +kernel
theorem dL_isWell_285 : decode cL_isWell 285 = .ok (.iload 12, 2) := by decide +kernel
theorem dL_isWell_287 : decode cL_isWell 287 = .ok (.if_icmp .ge 7, 3) := by decide +kernel
theorem dL_isWell_290 : decode cL_isWell 290 = .ok (.iconst 1, 1) := by decide +kernel
theorem dL_isWell_291 : decode cL_isWell 291 = .ok (.goto 4, 3) := by decide +kernel
theorem dL_isWell_294 : decode cL_isWell 294 = .ok (.iconst 0, 1) := by decide +kernel
theorem dL_isWell_295 : decode cL_isWell 295 = .ok (.if_icmp .ne 7, 3) := by decide +kernel
theorem dL_isWell_298 : decode cL_isWell 298 = .ok (.iconst 1, 1) := by decide +kernel
theorem dL_isWell_299 : decode cL_isWell 299 = .ok (.goto 4, 3) := by decide +kernel
theorem dL_isWell_302 : decode cL_isWell 302 = .ok (.iconst 0, 1) := by decide +kernel
theorem dL_isWell_303 : decode cL_isWell 303 = .ok (.istore 7, 2) := by decide +kernel
theorem dL_isWell_305 : decode cL_isWell 305 = .ok (.iinc 8 1, 3) := by decide +kernel
theorem dL_isWell_308 : decode cL_isWell 308 = .ok (.goto (-281), 3) := by decide +kernel
theorem dL_isWell_311 : decode cL_isWell 311 = .ok (.iconst (-1), 1) := by decide +kernel
theorem dL_isWell_312 : decode cL_isWell 312 = .ok (.istore 8, 2) := by decide +kernel
theorem dL_isWell_314 : decode cL_isWell 314 = .ok (.iconst 0, 1) := by decide +kernel
theorem dL_isWell_315 : decode cL_isWell 315 = .ok (.istore 9, 2) := by decide +kernel
theorem dL_isWell_317 : decode cL_isWell 317 = .ok (.iload 9, 2) := by decide +kernel
theorem dL_isWell_319 : decode cL_isWell 319 = .ok (.aload_n 2, 1) := by decide +kernel
theorem dL_isWell_320 : decode cL_isWell 320 = .ok (.iconst 0, 1) := by decide +kernel
theorem dL_isWell_321 : decode cL_isWell 321 = .ok (.iaload, 1) := by decide +kernel
theorem dL_isWell_322 : decode cL_isWell 322 = .ok (.if_icmp .ge 174, 3) := by decide +kernel
theorem dL_isWell_325 : decode cL_isWell 325 = .ok (.iload 7, 2) := by decide +kernel
theorem dL_isWell_327 : decode cL_isWell 327 = .ok (.ifCond .eq 169, 3) := by decide +kernel
theorem dL_isWell_330 : decode cL_isWell 330 = .ok (.aload_n 0, 1) := by decide +kernel
theorem dL_isWell_331 : decode cL_isWell 331 = .ok (.iload 9, 2) := by decide +kernel
theorem dL_isWell_333 : decode cL_isWell 333 = .ok (.invokevirtual 79, 3) := by decide +kernel
theorem dL_isWell_336 : decode cL_isWell 336 = .ok (.istore 10, 2) := by decide +kernel
theorem dL_isWell_338 : decode cL_isWell 338 = .ok (.iload 10, 2) := by decide +kernel
theorem dL_isWell_340 : decode cL_isWell 340 = .ok (.ifCond .lt 143, 3) := by decide +kernel
theorem dL_isWell_343 : decode cL_isWell 343 = .ok (.aload_n 0, 1) := by decide +kernel
theorem dL_isWell_344 : decode cL_isWell 344 = .ok (.iload 10, 2) := by decide +kernel
theorem dL_isWell_346 : decode cL_isWell 346 = .ok (.iconst 3, 1) := by decide +kernel
theorem dL_isWell_347 : decode cL_isWell 347 = .ok (.invokevirtual 25, 3) := by decide +kernel
theorem dL_isWell_350 : decode cL_isWell 350 = .ok (.ifCond .ne 133, 3) := by decide +kernel
theorem dL_isWell_353 : decode cL_isWell 353 = .ok (.iload 9, 2) := by decide +kernel
theorem dL_isWell_355 : decode cL_isWell 355 = .ok (.ifCond .eq 64, 3) := by decide +kernel
theorem dL_isWell_358 : decode cL_isWell 358 = .ok (.aload_n 0, 1) := by decide +kernel
theorem dL_isWell_359 : decode cL_isWell 359 = .ok (.bipush 13, 2) := by decide +kernel
theorem dL_isWell_361 : decode cL_isWell 361 = .ok (.invokevirtual 15, 3) := by decide +kernel
theorem dL_isWell_364 : decode cL_isWell 364 = .ok (.iconst 1, 1) := by decide +kernel
theorem dL_isWell_365 : decode cL_isWell 365 = .ok (.if_icmp .ne 47, 3) := by decide +kernel
theorem dL_isWell_368 : decode cL_isWell 368 = .ok (.aload_n 0, 1) := by decide +kernel
theorem dL_isWell_369 : decode cL_isWell 369 = .ok (.iload 10, 2) := by decide +kernel
theorem dL_isWell_371 : decode cL_isWell 371 = .ok (.iconst 4, 1) := by decide +kernel
theorem dL_isWell_372 : decode cL_isWell 372 = .ok (.invokevirtual 25, 3) := by decide +kernel
theorem dL_isWell_375 : decode cL_isWell 375 = .ok (.aload_n 0, 1) := by decide +kernel
theorem dL_isWell_376 : decode cL_isWell 376 = .ok (.iload 8, 2) := by decide +kernel
theorem dL_isWell_378 : decode cL_isWell 378 = .ok (.iconst 4, 1) := by decide +kernel
theorem dL_isWell_379 : decode cL_isWell 379 = .ok (.invokevirtual 25, 3) := by decide +kernel
theorem dL_isWell_382 : decode cL_isWell 382 = .ok (.if_icmp .gt 37, 3) := by decide +kernel
theorem dL_isWell_385 : decode cL_isWell 385 = .ok (.aload_n 0, 1) := by decide +kernel
theorem dL_isWell_386 : decode cL_isWell 386 = .ok (.iload 10, 2) := by decide +kernel
theorem dL_isWell_388 : decode cL_isWell 388 = .ok (.iconst 4, 1) := by decide +kernel
theorem dL_isWell_389 : decode cL_isWell 389 = .ok (.invokevirtual 25, 3) := by decide +kernel
theorem dL_isWell_392 : decode cL_isWell 392 = .ok (.aload_n 0, 1) := by decide +kernel
theorem dL_isWell_393 : decode cL_isWell 393 = .ok (.iload 8, 2) := by decide +kernel
theorem dL_isWell_395 : decode cL_isWell 395 = .ok (.iconst 4, 1) := by decide +kernel
theorem dL_isWell_396 : decode cL_isWell 396 = .ok (.invokevirtual 25, 3) := by decide +kernel
