def wsL_isWell_t : List Cond := ((wsL_isWell_r1 ++ (wsL_isWell_r2 ++ (wsL_isWell_r3 ++ (wsL_isWell_r4 ++ (wsL_isWell_r5 ++ (wsL_isWell_r6 ++ wsL_isWell_r7)))))) ++ wsX50 ++ wsX00 ++ wsX20 ++ wsX40 ++ wsX10 ++ wsX30)
set_option maxRecDepth 20000 in
theorem gc_isWell_wsL_isWell_r1 : GoodIn wsL_law wsL_isWell_r1 := goodIn_r _ [67, 79, 80, 81, 2, 82, 16, 20, 12, 83, 84, 85, 15, 86, 87, 88, 89, 90, 19, 91, 92, 93, 94, 11] (by decide +kernel) (by decide +kernel)
set_option maxRecDepth 20000 in
theorem gc_isWell_wsL_isWell_r2 : GoodIn wsL_law wsL_isWell_r2 := goodIn_r _ [95, 96, 97, 98, 99, 100, 101, 102, 103, 104, 105, 106, 107, 108, 41, 109, 110, 111, 43, 112, 50, 113, 114, 115] (by decide +kernel) (by decide +kernel)
set_option maxRecDepth 20000 in
theorem gc_isWell_wsL_isWell_r3 : GoodIn wsL_law wsL_isWell_r3 := goodIn_r _ [116, 117, 118, 119, 120, 121, 122, 123, 124, 125, 126, 127, 128, 129, 130, 131, 132, 133, 39, 134, 135, 136, 137, 138] (by decide +kernel) (by decide +kernel)
set_option maxRecDepth 20000 in
theorem gc_isWell_wsL_isWell_r4 : GoodIn wsL_law wsL_isWell_r4 := goodIn_r _ [139, 140, 141, 49, 142, 143, 144, 25, 145, 146, 147, 152, 153, 154, 155, 156, 157, 158, 159, 160, 161, 162, 163, 164] (by decide +kernel) (by decide +kernel)
set_option maxRecDepth 20000 in
theorem gc_isWell_wsL_isWell_r5 : GoodIn wsL_law wsL_isWell_r5 := goodIn_r _ [165, 166, 167, 168, 169, 170, 171, 457, 458, 459, 460, 461, 462, 463, 464, 252, 253, 254, 255, 465, 466, 467, 468, 248] (by decide +kernel) (by decide +kernel)
set_option maxRecDepth 20000 in
theorem gc_isWell_wsL_isWell_r6 : GoodIn wsL_law wsL_isWell_r6 := goodIn_r _ [249, 250, 251, 256, 257, 258, 259, 51, 469, 470, 471, 472, 473, 474, 475, 476, 477, 478, 479, 480, 481, 482, 284, 285] (by decide +kernel) (by decide +kernel)
set_option maxRecDepth 20000 in
theorem gc_isWell_wsL_isWell_r7 : GoodIn wsL_law wsL_isWell_r7 := goodIn_r _ [286, 287, 288, 289, 290] (by decide +kernel) (by decide +kernel)
set_option maxRecDepth 20000 in
theorem gc_isWell_wsX50 : GoodIn wsL_law wsX50 := goodIn_r _ [486, 487, 488, 489, 490, 491, 492] (by decide +kernel) (by decide +kernel)
set_option maxRecDepth 20000 in
theorem gc_isWell_wsX00 : GoodIn wsL_law wsX00 := goodIn_r _ [500, 501] (by decide +kernel) (by decide +kernel)
set_option maxRecDepth 20000 in
theorem gc_isWell_wsX20 : GoodIn wsL_law wsX20 := goodIn_r _ [502, 503, 504, 505, 506, 507, 508, 509, 510, 511] (by decide +kernel) (by decide +kernel)
set_option maxRecDepth 20000 in
theorem gc_isWell_wsX40 : GoodIn wsL_law wsX40 := goodIn_r _ [493, 494, 495, 496, 497, 498, 499] (by decide +kernel) (by decide +kernel)
set_option maxRecDepth 20000 in
theorem gc_isWell_wsX10 : GoodIn wsL_law wsX10 := goodIn_r _ [517, 518, 519, 520, 521, 522, 523, 524] (by decide +kernel) (by decide +kernel)
set_option maxRecDepth 20000 in
theorem gc_isWell_wsX30 : GoodIn wsL_law wsX30 := goodIn_r _ [512, 513, 514, 515, 516] (by decide +kernel) (by decide +kernel)
theorem ggL_law_L_isWell_tl : GoodIn wsL_law wsL_isWell_t := (goodIn_app (goodIn_app (goodIn_app (goodIn_app (goodIn_app (goodIn_app (goodIn_app gc_isWell_wsL_isWell_r1 (goodIn_app gc_isWell_wsL_isWell_r2 (goodIn_app gc_isWell_wsL_isWell_r3 (goodIn_app gc_isWell_wsL_isWell_r4 (goodIn_app gc_isWell_wsL_isWell_r5 (goodIn_app gc_isWell_wsL_isWell_r6 gc_isWell_wsL_isWell_r7)))))) gc_isWell_wsX50) gc_isWell_wsX00) gc_isWell_wsX20) gc_isWell_wsX40) gc_isWell_wsX10) gc_isWell_wsX30)
set_option maxRecDepth 20000 in
theorem ggL_law_L_isWell_hd : Cond.code yL_isWell cL_isWell 13 (some .boolean) ∈ wsL_law := List.mem_of_getElem? (i := 456) rfl
theorem ggL_law_L_isWell : GoodIn wsL_law wsL_isWell := fun w hw => (List.mem_cons.mp (show w ∈ (Cond.code yL_isWell cL_isWell 13 (some .boolean) :: wsL_isWell_t) from hw)).elim (fun e => e ▸ ⟨ggL_law_L_isWell_hd, Or.inl rfl⟩) (fun h => ggL_law_L_isWell_tl w h)
set_option maxRecDepth 20000 in
theorem gL_law_L_isWell : GoodIn wsL_law (va_wsS RL 91 yL_isWell wsL_isWell) := goodIn_app (goodIn_of _ (by decide +kernel)) ggL_law_L_isWell
