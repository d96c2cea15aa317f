def wsL_isStep_t : List Cond := ((wsL_isStep_r1 ++ (wsL_isStep_r2 ++ (wsL_isStep_r3 ++ (wsL_isStep_r4 ++ (wsL_isStep_r5 ++ (wsL_isStep_r6 ++ (wsL_isStep_r7 ++ (wsL_isStep_r8 ++ (wsL_isStep_r9 ++ (wsL_isStep_r10 ++ (wsL_isStep_r11 ++ (wsL_isStep_r12 ++ (wsL_isStep_r13 ++ (wsL_isStep_r14 ++ (wsL_isStep_r15 ++ (wsL_isStep_r16 ++ wsL_isStep_r17)))))))))))))))) ++ wsX50 ++ wsX00 ++ wsX20 ++ wsX40 ++ wsX10 ++ wsX30)
set_option maxRecDepth 20000 in
theorem gc_isStep_wsL_isStep_r1 : GoodIn wsL_law wsL_isStep_r1 := goodIn_r _ [79, 80, 81, 2, 82, 16, 20, 12, 83, 84, 85, 15, 86, 87, 88, 89, 90, 19, 91, 92, 93, 94, 11, 95] (by decide +kernel) (by decide +kernel)
set_option maxRecDepth 20000 in
theorem gc_isStep_wsL_isStep_r2 : GoodIn wsL_law wsL_isStep_r2 := goodIn_r _ [96, 97, 98, 99, 100, 101, 102, 103, 104, 105, 106, 107, 108, 41, 109, 110, 111, 43, 112, 50, 113, 114, 115, 116] (by decide +kernel) (by decide +kernel)
set_option maxRecDepth 20000 in
theorem gc_isStep_wsL_isStep_r3 : GoodIn wsL_law wsL_isStep_r3 := goodIn_r _ [117, 118, 119, 120, 121, 122, 123, 124, 125, 126, 127, 128, 129, 130, 131, 132, 133, 39, 134, 135, 136, 137, 138, 139] (by decide +kernel) (by decide +kernel)
set_option maxRecDepth 20000 in
theorem gc_isStep_wsL_isStep_r4 : GoodIn wsL_law wsL_isStep_r4 := goodIn_r _ [140, 141, 49, 142, 143, 144, 25, 145, 146, 147, 148, 149, 73, 150, 151, 152, 153, 154, 155, 156, 157, 158, 159, 160] (by decide +kernel) (by decide +kernel)
set_option maxRecDepth 20000 in
theorem gc_isStep_wsL_isStep_r5 : GoodIn wsL_law wsL_isStep_r5 := goodIn_r _ [161, 162, 163, 164, 165, 166, 167, 168, 169, 170, 171, 172, 173, 174, 175, 176, 177, 178, 179, 180, 181, 182, 183, 184] (by decide +kernel) (by decide +kernel)
set_option maxRecDepth 20000 in
theorem gc_isStep_wsL_isStep_r6 : GoodIn wsL_law wsL_isStep_r6 := goodIn_r _ [185, 186, 187, 188, 189, 190, 191, 192, 60, 193, 194, 195, 196, 197, 198, 199, 200, 201, 202, 203, 204, 205, 206, 207] (by decide +kernel) (by decide +kernel)
set_option maxRecDepth 20000 in
theorem gc_isStep_wsL_isStep_r7 : GoodIn wsL_law wsL_isStep_r7 := goodIn_r _ [208, 209, 210, 211, 212, 213, 214, 215, 216, 217, 218, 219, 220, 221, 222, 223, 224, 225, 226, 227, 228, 229, 230, 231] (by decide +kernel) (by decide +kernel)
set_option maxRecDepth 20000 in
theorem gc_isStep_wsL_isStep_r8 : GoodIn wsL_law wsL_isStep_r8 := goodIn_r _ [232, 233, 234, 235, 236, 237, 238, 239, 240, 241, 242, 243, 244, 245, 246, 247, 248, 249, 250, 251, 252, 253, 254, 255] (by decide +kernel) (by decide +kernel)
set_option maxRecDepth 20000 in
theorem gc_isStep_wsL_isStep_r9 : GoodIn wsL_law wsL_isStep_r9 := goodIn_r _ [256, 257, 258, 259, 51, 260, 261, 262, 263, 264, 265, 266, 267, 268, 269, 270, 271, 272, 273, 274, 275, 276, 277, 278] (by decide +kernel) (by decide +kernel)
set_option maxRecDepth 20000 in
theorem gc_isStep_wsL_isStep_r10 : GoodIn wsL_law wsL_isStep_r10 := goodIn_r _ [279, 280, 281, 282, 283, 284, 285, 286, 287, 288, 289, 290, 291, 292, 293, 294, 295, 296, 297, 298, 299, 300, 301, 302] (by decide +kernel) (by decide +kernel)
set_option maxRecDepth 20000 in
theorem gc_isStep_wsL_isStep_r11 : GoodIn wsL_law wsL_isStep_r11 := goodIn_r _ [303, 304, 305, 306, 307, 308, 309, 310, 311, 312, 313, 314, 315, 316, 317, 318, 66, 319, 320, 321, 322, 323, 324, 325] (by decide +kernel) (by decide +kernel)
set_option maxRecDepth 20000 in
theorem gc_isStep_wsL_isStep_r12 : GoodIn wsL_law wsL_isStep_r12 := goodIn_r _ [326, 327, 328, 329, 330, 331, 332, 333, 334, 335, 336, 337, 338, 339, 340, 341, 342, 343, 344, 345, 346, 347, 348, 349] (by decide +kernel) (by decide +kernel)
set_option maxRecDepth 20000 in
theorem gc_isStep_wsL_isStep_r13 : GoodIn wsL_law wsL_isStep_r13 := goodIn_r _ [350, 68, 69, 70, 351, 352, 353, 354, 355, 356, 357, 358, 359, 360, 361, 362, 363, 364, 365, 366, 367, 368, 369, 370] (by decide +kernel) (by decide +kernel)
set_option maxRecDepth 20000 in
theorem gc_isStep_wsL_isStep_r14 : GoodIn wsL_law wsL_isStep_r14 := goodIn_r _ [371, 372, 373, 374, 375, 376, 377, 378, 379, 380, 381, 382, 383, 384, 385, 386, 387, 388, 389, 390, 391, 392, 393, 394] (by decide +kernel) (by decide +kernel)
set_option maxRecDepth 20000 in
theorem gc_isStep_wsL_isStep_r15 : GoodIn wsL_law wsL_isStep_r15 := goodIn_r _ [395, 396, 397, 398, 399, 400, 401, 402, 403, 404, 405, 406, 407, 408, 409, 410, 411, 412, 413, 414, 415, 416, 417, 418] (by decide +kernel) (by decide +kernel)
set_option maxRecDepth 20000 in
theorem gc_isStep_wsL_isStep_r16 : GoodIn wsL_law wsL_isStep_r16 := goodIn_r _ [67, 419, 420, 421, 422, 423, 424, 425, 426, 427, 428, 429, 430, 431, 432, 433, 434, 435, 436, 437, 438, 439, 26, 440] (by decide +kernel) (by decide +kernel)
set_option maxRecDepth 20000 in
theorem gc_isStep_wsL_isStep_r17 : GoodIn wsL_law wsL_isStep_r17 := goodIn_r _ [441, 442, 443, 444, 445, 446, 447, 448, 449, 450, 451, 452, 22, 453] (by decide +kernel) (by decide +kernel)
set_option maxRecDepth 20000 in
theorem gc_isStep_wsX50 : GoodIn wsL_law wsX50 := goodIn_r _ [486, 487, 488, 489, 490, 491, 492] (by decide +kernel) (by decide +kernel)
set_option maxRecDepth 20000 in
theorem gc_isStep_wsX00 : GoodIn wsL_law wsX00 := goodIn_r _ [500, 501] (by decide +kernel) (by decide +kernel)
set_option maxRecDepth 20000 in
theorem gc_isStep_wsX20 : GoodIn wsL_law wsX20 := goodIn_r _ [502, 503, 504, 505, 506, 507, 508, 509, 510, 511] (by decide +kernel) (by decide +kernel)
set_option maxRecDepth 20000 in
theorem gc_isStep_wsX40 : GoodIn wsL_law wsX40 := goodIn_r _ [493, 494, 495, 496, 497, 498, 499] (by decide +kernel) (by decide +kernel)
set_option maxRecDepth 20000 in
theorem gc_isStep_wsX10 : GoodIn wsL_law wsX10 := goodIn_r _ [517, 518, 519, 520, 521, 522, 523, 524] (by decide +kernel) (by decide +kernel)
set_option maxRecDepth 20000 in
theorem gc_isStep_wsX30 : GoodIn wsL_law wsX30 := goodIn_r _ [512, 513, 514, 515, 516] (by decide +kernel) (by decide +kernel)
theorem ggL_law_L_isStep_tl : GoodIn wsL_law wsL_isStep_t := (goodIn_app (goodIn_app (goodIn_app (goodIn_app (goodIn_app (goodIn_app (goodIn_app gc_isStep_wsL_isStep_r1 (goodIn_app gc_isStep_wsL_isStep_r2 (goodIn_app gc_isStep_wsL_isStep_r3 (goodIn_app gc_isStep_wsL_isStep_r4 (goodIn_app gc_isStep_wsL_isStep_r5 (goodIn_app gc_isStep_wsL_isStep_r6 (goodIn_app gc_isStep_wsL_isStep_r7 (goodIn_app gc_isStep_wsL_isStep_r8 (goodIn_app gc_isStep_wsL_isStep_r9 (goodIn_app gc_isStep_wsL_isStep_r10 (goodIn_app gc_isStep_wsL_isStep_r11 (goodIn_app gc_isStep_wsL_isStep_r12 (goodIn_app gc_isStep_wsL_isStep_r13 (goodIn_app gc_isStep_wsL_isStep_r14 (goodIn_app gc_isStep_wsL_isStep_r15 (goodIn_app gc_isStep_wsL_isStep_r16 gc_isStep_wsL_isStep_r17)))))))))))))))) gc_isStep_wsX50) gc_isStep_wsX00) gc_isStep_wsX20) gc_isStep_wsX40) gc_isStep_wsX10) gc_isStep_wsX30)
set_option maxRecDepth 20000 in
theorem ggL_law_L_isStep_hd : Cond.code yL_isStep cL_isStep 15 (some .boolean) ∈ wsL_law := List.mem_of_getElem? (i := 78) rfl
theorem ggL_law_L_isStep : GoodIn wsL_law wsL_isStep := fun w hw => (List.mem_cons.mp (show w ∈ (Cond.code yL_isStep cL_isStep 15 (some .boolean) :: wsL_isStep_t) from hw)).elim (fun e => e ▸ ⟨ggL_law_L_isStep_hd, Or.inl rfl⟩) (fun h => ggL_law_L_isStep_tl w h)
set_option maxRecDepth 20000 in
theorem gL_law_L_isStep : GoodIn wsL_law (va_wsS RL 87 yL_isStep wsL_isStep) := goodIn_app (goodIn_of _ (by decide +kernel)) ggL_law_L_isStep
