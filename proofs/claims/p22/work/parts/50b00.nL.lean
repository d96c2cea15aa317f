theorem dL_cell_0 : decode cL_cell 0 = .ok (.iload_n 1, 1) := by decide +kernel
theorem dL_cell_1 : decode cL_cell 1 = .ok (.aload_n 0, 1) := by decide +kernel
theorem dL_cell_2 : decode cL_cell 2 = .ok (.arraylength, 1) := by decide +kernel
theorem dL_cell_3 : decode cL_cell 3 = .ok (.if_icmp .ge 9, 3) := by decide +kernel
theorem dL_cell_6 : decode cL_cell 6 = .ok (.aload_n 0, 1) := by decide +kernel
theorem dL_cell_7 : decode cL_cell 7 = .ok (.iload_n 1, 1) := by decide +kernel
theorem dL_cell_8 : decode cL_cell 8 = .ok (.iaload, 1) := by decide +kernel
theorem dL_cell_9 : decode cL_cell 9 = .ok (.goto 11, 3) := by decide +kernel
theorem dL_cell_12 : decode cL_cell 12 = .ok (.ldc 7, 2) := by decide +kernel
theorem dL_cell_14 : decode cL_cell 14 = .ok (.iload_n 1, 1) := by decide +kernel
theorem dL_cell_15 : decode cL_cell 15 = .ok (.sipush 1163, 3) := by decide +kernel
theorem dL_cell_18 : decode cL_cell 18 = .ok (.iadd, 1) := by decide +kernel
theorem dL_cell_19 : decode cL_cell 19 = .ok (.imul, 1) := by decide +kernel
theorem dL_cell_20 : decode cL_cell 20 = .ok (.ireturn, 1) := by decide +kernel
theorem dL_up_0 : decode cL_up 0 = .ok (.iload_n 0, 1) := by decide +kernel
theorem dL_up_1 : decode cL_up 1 = .ok (.ldc 8, 2) := by decide +kernel
theorem dL_up_3 : decode cL_up 3 = .ok (.iand, 1) := by decide +kernel
theorem dL_up_4 : decode cL_up 4 = .ok (.iload_n 1, 1) := by decide +kernel
theorem dL_up_5 : decode cL_up 5 = .ok (.irem, 1) := by decide +kernel
theorem dL_up_6 : decode cL_up 6 = .ok (.ireturn, 1) := by decide +kernel
set_option maxRecDepth 20000 in
theorem ggL_number_X5_type : GoodIn wsL_number wsX5_type := goodIn_r _ [5, 6, 7, 8, 9, 10, 11, 12, 13, 14, 15, 16, 17, 18, 19, 20, 21, 22, 23, 24, 25, 26, 27, 28, 29, 30, 31, 32, 33, 34] (by decide +kernel) (by decide +kernel)
set_option maxRecDepth 20000 in
theorem gL_number_X5_type : GoodIn wsL_number (wsV RL 9 RX5 yX5_type wsX5_type) := goodIn_app (goodIn_of _ (by decide +kernel)) ggL_number_X5_type
theorem dL_number_0 : decode cL_number 0 = .ok (.iconst 1, 1) := by decide +kernel
theorem dL_number_1 : decode cL_number 1 = .ok (.istore_n 2, 1) := by decide +kernel
theorem dL_number_2 : decode cL_number 2 = .ok (.iload_n 1, 1) := by decide +kernel
theorem dL_number_3 : decode cL_number 3 = .ok (.bipush 99, 2) := by decide +kernel
theorem dL_number_5 : decode cL_number 5 = .ok (.if_icmp .le 8, 3) := by decide +kernel
theorem dL_number_8 : decode cL_number 8 = .ok (.bipush 100, 2) := by decide +kernel
theorem dL_number_10 : decode cL_number 10 = .ok (.goto 15, 3) := by decide +kernel
theorem dL_number_13 : decode cL_number 13 = .ok (.iload_n 1, 1) := by decide +kernel
theorem dL_number_14 : decode cL_number 14 = .ok (.bipush 9, 2) := by decide +kernel
theorem dL_number_16 : decode cL_number 16 = .ok (.if_icmp .le 8, 3) := by decide +kernel
theorem dL_number_19 : decode cL_number 19 = .ok (.bipush 10, 2) := by decide +kernel
theorem dL_number_21 : decode cL_number 21 = .ok (.goto 4, 3) := by decide +kernel
theorem dL_number_24 : decode cL_number 24 = .ok (.iconst 1, 1) := by decide +kernel
theorem dL_number_25 : decode cL_number 25 = .ok (.istore_n 3, 1) := by decide +kernel
theorem dL_number_26 : decode cL_number 26 = .ok (.iload_n 3, 1) := by decide +kernel
theorem dL_number_27 : decode cL_number 27 = .ok (.ifCond .le 38, 3) := by decide +kernel
theorem dL_number_30 : decode cL_number 30 = .ok (.iload_n 2, 1) := by decide +kernel
theorem dL_number_31 : decode cL_number 31 = .ok (.ifCond .eq 24, 3) := by decide +kernel
theorem dL_number_34 : decode cL_number 34 = .ok (.aload_n 0, 1) := by decide +kernel
theorem dL_number_35 : decode cL_number 35 = .ok (.bipush 48, 2) := by decide +kernel
theorem dL_number_37 : decode cL_number 37 = .ok (.iload_n 1, 1) := by decide +kernel
theorem dL_number_38 : decode cL_number 38 = .ok (.iload_n 3, 1) := by decide +kernel
theorem dL_number_39 : decode cL_number 39 = .ok (.idiv, 1) := by decide +kernel
theorem dL_number_40 : decode cL_number 40 = .ok (.bipush 10, 2) := by decide +kernel
theorem dL_number_42 : decode cL_number 42 = .ok (.irem, 1) := by decide +kernel
theorem dL_number_43 : decode cL_number 43 = .ok (.iadd, 1) := by decide +kernel
theorem dL_number_44 : decode cL_number 44 = .ok (.i2c, 1) := by decide +kernel
theorem dL_number_45 : decode cL_number 45 = .ok (.invokevirtual 9, 3) := by decide +kernel
theorem dL_number_48 : decode cL_number 48 = .ok (.ifCond .le 7, 3) := by decide +kernel
theorem dL_number_51 : decode cL_number 51 = .ok (.iconst 1, 1) := by decide +kernel
theorem dL_number_52 : decode cL_number 52 = .ok (.goto 4, 3) := by decide +kernel
theorem dL_number_55 : decode cL_number 55 = .ok (.iconst 0, 1) := by decide +kernel
theorem dL_number_56 : decode cL_number 56 = .ok (.istore_n 2, 1) := by decide +kernel
theorem dL_number_57 : decode cL_number 57 = .ok (.iload_n 3, 1) := by decide +kernel
theorem dL_number_58 : decode cL_number 58 = .ok (.bipush 10, 2) := by decide +kernel
theorem dL_number_60 : decode cL_number 60 = .ok (.idiv, 1) := by decide +kernel
theorem dL_number_61 : decode cL_number 61 = .ok (.istore_n 3, 1) := by decide +kernel
theorem dL_number_62 : decode cL_number 62 = .ok (.goto (-36), 3) := by decide +kernel
theorem dL_number_65 : decode cL_number 65 = .ok (.iload_n 2, 1) := by decide +kernel
theorem dL_number_66 : decode cL_number 66 = .ok (.ireturn, 1) := by decide +kernel
set_option maxRecDepth 20000 in
theorem ggL_isStep_X5_count : GoodIn wsL_isStep wsX5_count := goodIn_r _ [5, 6, 7, 8, 9, 10, 11, 12, 13, 14, 15, 16, 17, 18, 19, 20, 21, 22, 23, 24, 25, 26, 27, 28, 29, 30, 31, 32, 33, 34, 35, 36, 37, 38, 39, 40, 41, 42, 43, 44, 45, 46, 47, 48, 49, 50, 51, 52, 53, 54, 55, 56, 57, 58, 59, 60, 61, 62, 63, 64, 65, 66, 67, 68, 69, 70, 71, 72, 73, 74, 75, 76, 77, 78, 79, 80, 81, 82, 399, 400, 401, 402, 403, 404, 405, 406, 407, 408, 409, 410, 411, 412, 413, 414, 415, 416, 417, 418, 419, 420, 421, 422, 423, 424, 425, 426, 427, 428, 429, 430, 431, 432, 433, 434, 435, 436, 437] (by decide +kernel) (by decide +kernel)
set_option maxRecDepth 20000 in
theorem gL_isStep_X5_count : GoodIn wsL_isStep (wsV RL 15 RX5 yX5_count wsX5_count) := goodIn_app (goodIn_of _ (by decide +kernel)) ggL_isStep_X5_count
set_option maxRecDepth 20000 in
theorem ggL_isStep_L_up : GoodIn wsL_isStep wsL_up := goodIn_r _ [86, 87] (by decide +kernel) (by decide +kernel)
set_option maxRecDepth 20000 in
theorem gL_isStep_L_up : GoodIn wsL_isStep (va_wsS RL 19 yL_up wsL_up) := goodIn_app (goodIn_of _ (by decide +kernel)) ggL_isStep_L_up
set_option maxRecDepth 20000 in
theorem ggL_isStep_X5_join : GoodIn wsL_isStep wsX5_join := goodIn_r _ [91, 8, 92, 93, 94, 23, 95, 29, 38, 96, 97, 42, 98, 99, 100, 101, 102, 75, 44, 53, 103, 104, 105, 106, 107, 72, 73, 74, 76, 77, 78, 79, 80, 81, 82, 399, 400, 401, 402, 403, 404, 405, 418, 419, 420, 421, 422, 423, 424, 425, 426, 427, 428, 429, 430, 431, 432, 433, 434, 435, 436, 437] (by decide +kernel) (by decide +kernel)
set_option maxRecDepth 20000 in
theorem gL_isStep_X5_join : GoodIn wsL_isStep (wsV RL 25 RX5 yX5_join wsX5_join) := goodIn_app (goodIn_of _ (by decide +kernel)) ggL_isStep_X5_join
set_option maxRecDepth 20000 in
theorem ggL_isStep_X5_ask : GoodIn wsL_isStep wsX5_ask := goodIn_r _ [111, 8, 6, 112, 113, 79, 114, 115, 116, 117, 118, 119, 120, 121, 122, 123, 23, 124, 38, 29, 125, 126, 127, 12, 128, 14, 129, 130, 131, 132, 133, 134, 135, 136, 137, 66, 30, 31, 32, 33, 138, 139, 140, 42, 141, 75, 44, 53, 103, 104, 105, 106, 142, 143, 144, 145, 81, 146, 147, 148, 82, 149, 150, 151, 152, 153, 154, 155, 156, 157, 158, 159, 160, 161, 162, 163, 164, 165, 59, 60, 61, 166, 167, 168, 169, 170, 171, 172, 173, 174, 175, 176, 177, 178, 179, 180, 181, 182, 183, 184, 39, 40, 41, 43, 185, 186, 187, 188, 189, 190, 191, 192, 62, 63, 64, 65, 193, 194, 195, 196, 197, 198, 199, 200, 201, 202, 203, 204, 58, 54, 55, 56, 57, 45, 46, 47, 48, 49, 50, 51, 52, 205, 206, 207, 208, 209, 210, 211, 212, 213, 214, 215, 216, 217, 218, 219, 220, 221, 222, 223, 224, 225, 226, 227, 228, 229, 230, 231, 232, 233, 234, 235, 236, 237, 238, 239, 240, 399, 400, 401, 402, 403, 404, 405, 418, 419, 420, 421, 422, 423, 424, 406, 407, 425, 426, 427, 428, 429, 430, 431, 432, 433, 434, 435, 436, 437] (by decide +kernel) (by decide +kernel)
set_option maxRecDepth 20000 in
theorem gL_isStep_X5_ask : GoodIn wsL_isStep (wsV RL 28 RX5 yX5_ask wsX5_ask) := goodIn_app (goodIn_of _ (by decide +kernel)) ggL_isStep_X5_ask
set_option maxRecDepth 20000 in
theorem ggL_isStep_X5_clearText : GoodIn wsL_isStep wsX5_clearText := goodIn_r _ [244, 7, 15, 16, 17, 18, 19, 20, 245, 246, 247, 248, 399, 400, 401, 402, 403, 404, 405, 408, 409, 410, 411, 412, 413, 414, 415, 416, 417] (by decide +kernel) (by decide +kernel)
set_option maxRecDepth 20000 in
theorem gL_isStep_X5_clearText : GoodIn wsL_isStep (wsV RL 32 RX5 yX5_clearText wsX5_clearText) := goodIn_app (goodIn_of _ (by decide +kernel)) ggL_isStep_X5_clearText
set_option maxRecDepth 20000 in
theorem ggL_isStep_X5_type : GoodIn wsL_isStep wsX5_type := goodIn_r _ [252, 7, 253, 254, 255, 18, 256, 20, 257, 15, 16, 17, 19, 399, 400, 401, 402, 403, 404, 405, 408, 409, 410, 411, 412, 413, 414, 415, 416, 417] (by decide +kernel) (by decide +kernel)
set_option maxRecDepth 20000 in
theorem gL_isStep_X5_type : GoodIn wsL_isStep (wsV RL 9 RX5 yX5_type wsX5_type) := goodIn_app (goodIn_of _ (by decide +kernel)) ggL_isStep_X5_type
set_option maxRecDepth 20000 in
theorem ggL_isStep_L_number : GoodIn wsL_isStep wsL_number := goodIn_r _ [260, 249, 250, 251, 4, 252, 7, 253, 254, 255, 18, 256, 20, 257, 15, 16, 17, 19, 399, 400, 401, 402, 403, 404, 405, 408, 409, 410, 411, 412, 413, 414, 415, 416, 417] (by decide +kernel) (by decide +kernel)
set_option maxRecDepth 20000 in
theorem gL_isStep_L_number : GoodIn wsL_isStep (va_wsS RL 36 yL_number wsL_number) := goodIn_app (goodIn_of _ (by decide +kernel)) ggL_isStep_L_number
set_option maxRecDepth 20000 in
theorem ggL_isStep_X5_askAll : GoodIn wsL_isStep wsX5_askAll := goodIn_r _ [264, 7, 8, 6, 265, 266, 267, 18, 268, 269, 270, 271, 20, 257, 272, 273, 274, 275, 276, 277, 278, 279, 280, 281, 282, 283, 284, 285, 286, 287, 288, 289, 290, 291, 292, 293, 294, 295, 296, 121, 122, 123, 23, 124, 38, 29, 125, 126, 127, 12, 128, 14, 129, 130, 131, 132, 133, 134, 135, 136, 137, 66, 30, 31, 32, 33, 138, 139, 140, 42, 141, 75, 44, 53, 103, 104, 105, 106, 142, 143, 144, 79, 145, 81, 146, 147, 148, 82, 297, 298, 299, 300, 301, 302, 303, 304, 305, 306, 307, 308, 149, 150, 151, 152, 153, 154, 155, 156, 157, 158, 159, 160, 161, 162, 163, 164, 165, 59, 60, 61, 166, 167, 168, 169, 170, 171, 172, 173, 174, 175, 176, 177, 178, 179, 180, 181, 182, 183, 184, 39, 40, 41, 43, 185, 186, 187, 188, 189, 190, 191, 192, 62, 63, 64, 65, 193, 194, 195, 196, 197, 198, 199, 200, 201, 202, 203, 204, 58, 54, 55, 56, 57, 45, 46, 47, 48, 49, 50, 51, 52, 205, 206, 207, 208, 209, 210, 211, 212, 213, 214, 215, 216, 217, 218, 219, 220, 221, 222, 223, 224, 225, 226, 227, 228, 229, 230, 231, 232, 233, 234, 235, 236, 237, 238, 239, 240, 399, 400, 401, 402, 403, 404, 405, 408, 409, 410, 411, 412, 413, 414, 415, 416, 417, 418, 419, 420, 421, 422, 423, 424, 406, 407, 425, 426, 427, 428, 429, 430, 431, 432, 433, 434, 435, 436, 437] (by decide +kernel) (by decide +kernel)
set_option maxRecDepth 20000 in
theorem gL_isStep_X5_askAll : GoodIn wsL_isStep (wsV RL 40 RX5 yX5_askAll wsX5_askAll) := goodIn_app (goodIn_of _ (by decide +kernel)) ggL_isStep_X5_askAll
set_option maxRecDepth 20000 in
theorem ggL_isStep_X5_cancel : GoodIn wsL_isStep wsX5_cancel := goodIn_r _ [312, 8, 6, 92, 93, 94, 23, 95, 29, 38, 313, 40, 41, 42, 43, 44, 125, 126, 127, 12, 128, 14, 129, 130, 131, 132, 133, 134, 135, 136, 137, 66, 30, 31, 32, 33, 138, 139, 140, 141, 75, 53, 103, 104, 105, 106, 142, 143, 144, 79, 145, 81, 146, 147, 148, 82, 314, 50, 51, 52, 315, 316, 317, 318, 319, 178, 179, 180, 181, 182, 183, 184, 39, 185, 186, 187, 188, 189, 190, 191, 192, 62, 63, 64, 65, 193, 194, 195, 196, 197, 198, 199, 200, 201, 202, 203, 60, 204, 58, 59, 61, 54, 55, 56, 57, 45, 46, 47, 48, 49, 205, 206, 207, 208, 209, 210, 211, 212, 213, 214, 215, 216, 217, 218, 219, 220, 221, 222, 223, 224, 225, 226, 227, 228, 229, 230, 231, 232, 233, 234, 235, 236, 237, 238, 239, 240, 399, 400, 401, 402, 403, 404, 405, 418, 419, 420, 421, 422, 423, 424, 425, 426, 427, 428, 429, 430, 431, 432, 406, 407, 433, 434, 435, 436, 437] (by decide +kernel) (by decide +kernel)
set_option maxRecDepth 20000 in
theorem gL_isStep_X5_cancel : GoodIn wsL_isStep (wsV RL 43 RX5 yX5_cancel wsX5_cancel) := goodIn_app (goodIn_of _ (by decide +kernel)) ggL_isStep_X5_cancel
set_option maxRecDepth 20000 in
theorem ggL_isStep_X5_change : GoodIn wsL_isStep wsX5_change := goodIn_r _ [323, 8, 6, 92, 93, 94, 23, 95, 29, 38, 324, 116, 79, 117, 313, 40, 41, 42, 43, 44, 325, 326, 327, 328, 75, 125, 126, 127, 12, 128, 14, 129, 130, 131, 132, 133, 134, 135, 136, 137, 66, 30, 31, 32, 33, 138, 139, 140, 141, 53, 103, 104, 105, 106, 142, 143, 144, 145, 81, 146, 147, 148, 82, 329, 330, 331, 332, 333, 162, 163, 164, 165, 59, 60, 61, 166, 167, 168, 169, 170, 171, 172, 173, 174, 175, 176, 319, 178, 179, 180, 181, 182, 183, 184, 39, 185, 186, 187, 188, 189, 190, 191, 192, 62, 63, 64, 65, 193, 194, 195, 196, 197, 198, 199, 200, 201, 202, 203, 204, 58, 54, 55, 56, 57, 45, 46, 47, 48, 49, 50, 51, 52, 205, 206, 207, 208, 209, 210, 211, 212, 213, 214, 215, 216, 217, 218, 219, 220, 221, 222, 223, 224, 225, 226, 227, 228, 229, 230, 231, 232, 233, 234, 235, 236, 237, 238, 239, 240, 399, 400, 401, 402, 403, 404, 405, 418, 419, 420, 421, 422, 423, 424, 425, 426, 427, 428, 429, 430, 431, 432, 433, 434, 435, 436, 437, 406, 407] (by decide +kernel) (by decide +kernel)
set_option maxRecDepth 20000 in
theorem gL_isStep_X5_change : GoodIn wsL_isStep (wsV RL 46 RX5 yX5_change wsX5_change) := goodIn_app (goodIn_of _ (by decide +kernel)) ggL_isStep_X5_change
set_option maxRecDepth 20000 in
theorem ggL_isStep_X5_step : GoodIn wsL_isStep wsX5_step := goodIn_r _ [337, 6, 8, 338, 59, 60, 61, 125, 126, 127, 12, 128, 14, 129, 130, 131, 132, 133, 134, 135, 136, 23, 137, 66, 38, 29, 30, 31, 32, 33, 138, 139, 140, 42, 141, 75, 44, 53, 103, 104, 105, 106, 142, 143, 144, 79, 145, 81, 146, 147, 148, 82, 339, 35, 36, 37, 39, 40, 41, 43, 340, 341, 342, 343, 202, 203, 204, 62, 63, 64, 65, 344, 345, 346, 347, 348, 349, 350, 351, 352, 353, 354, 355, 356, 357, 316, 317, 318, 177, 178, 179, 180, 181, 182, 183, 184, 185, 186, 187, 188, 189, 190, 191, 192, 193, 194, 195, 196, 197, 198, 199, 200, 201, 58, 54, 55, 56, 57, 45, 46, 47, 48, 49, 50, 51, 52, 205, 206, 207, 208, 209, 210, 211, 212, 213, 214, 215, 216, 217, 218, 219, 220, 221, 222, 223, 224, 225, 226, 227, 228, 229, 230, 231, 232, 233, 234, 235, 236, 237, 238, 239, 240, 399, 400, 401, 402, 403, 404, 405, 406, 407, 418, 419, 420, 421, 422, 423, 424, 425, 426, 427, 428, 429, 430, 431, 432, 433, 434, 435, 436, 437] (by decide +kernel) (by decide +kernel)
set_option maxRecDepth 20000 in
theorem gL_isStep_X5_step : GoodIn wsL_isStep (wsV RL 49 RX5 yX5_step wsX5_step) := goodIn_app (goodIn_of _ (by decide +kernel)) ggL_isStep_X5_step
set_option maxRecDepth 20000 in
theorem ggL_isStep_L_isSingle : GoodIn wsL_isStep wsL_isSingle := goodIn_r _ [360, 361, 1, 2, 3, 4, 5, 6, 7, 8, 9, 10, 11, 12, 13, 14, 15, 16, 17, 18, 19, 20, 21, 22, 23, 24, 25, 26, 27, 28, 29, 30, 31, 32, 33, 34, 35, 36, 37, 38, 39, 40, 41, 42, 43, 44, 45, 46, 47, 48, 49, 50, 51, 52, 53, 54, 55, 56, 57, 58, 59, 60, 61, 62, 63, 64, 65, 66, 67, 68, 69, 70, 71, 72, 73, 74, 75, 76, 77, 78, 79, 80, 81, 82, 88, 89, 90, 91, 92, 93, 94, 95, 96, 97, 98, 99, 100, 101, 102, 103, 104, 105, 106, 107, 334, 335, 336, 337, 338, 125, 126, 127, 128, 129, 130, 131, 132, 133, 134, 135, 136, 137, 138, 139, 140, 141, 142, 143, 144, 145, 146, 147, 148, 339, 340, 341, 342, 343, 202, 203, 204, 344, 345, 346, 347, 348, 349, 350, 351, 352, 353, 354, 355, 356, 357, 316, 317, 318, 177, 178, 179, 180, 181, 182, 183, 184, 185, 186, 187, 188, 189, 190, 191, 192, 193, 194, 195, 196, 197, 198, 199, 200, 201, 205, 206, 207, 208, 209, 210, 211, 212, 213, 214, 215, 216, 217, 218, 219, 220, 221, 222, 223, 224, 225, 226, 227, 228, 229, 230, 231, 232, 233, 234, 235, 236, 237, 238, 239, 240, 399, 400, 401, 402, 403, 404, 405, 406, 407, 408, 409, 410, 411, 412, 413, 414, 415, 416, 417, 418, 419, 420, 421, 422, 423, 424, 425, 426, 427, 428, 429, 430, 431, 432, 433, 434, 435, 436, 437] (by decide +kernel) (by decide +kernel)
set_option maxRecDepth 20000 in
theorem gL_isStep_L_isSingle : GoodIn wsL_isStep (va_wsS RL 52 yL_isSingle wsL_isSingle) := goodIn_app (goodIn_of _ (by decide +kernel)) ggL_isStep_L_isSingle
set_option maxRecDepth 20000 in
theorem ggL_isStep_X5_set : GoodIn wsL_isStep wsX5_set := goodIn_r _ [365, 8, 6, 366, 367, 23, 368, 369, 370, 371, 63, 64, 65, 66, 125, 126, 127, 12, 128, 14, 129, 130, 131, 132, 133, 134, 135, 136, 137, 38, 29, 30, 31, 32, 33, 138, 139, 140, 42, 141, 75, 44, 53, 103, 104, 105, 106, 142, 143, 144, 79, 145, 81, 146, 147, 148, 82, 372, 373, 374, 375, 177, 178, 179, 180, 181, 182, 183, 184, 39, 40, 41, 43, 185, 186, 187, 188, 189, 190, 191, 192, 62, 193, 194, 195, 196, 197, 198, 199, 200, 201, 202, 203, 60, 204, 58, 59, 61, 54, 55, 56, 57, 45, 46, 47, 48, 49, 50, 51, 52, 205, 206, 207, 208, 209, 210, 211, 212, 213, 214, 215, 216, 217, 218, 219, 220, 221, 222, 223, 224, 225, 226, 227, 228, 229, 230, 231, 232, 233, 234, 235, 236, 237, 238, 239, 240, 399, 400, 401, 402, 403, 404, 405, 418, 419, 420, 421, 422, 423, 424, 406, 407, 425, 426, 427, 428, 429, 430, 431, 432, 433, 434, 435, 436, 437] (by decide +kernel) (by decide +kernel)
set_option maxRecDepth 20000 in
theorem gL_isStep_X5_set : GoodIn wsL_isStep (wsV RL 56 RX5 yX5_set wsX5_set) := goodIn_app (goodIn_of _ (by decide +kernel)) ggL_isStep_X5_set
set_option maxRecDepth 20000 in
theorem ggL_isStep_L_isFound : GoodIn wsL_isStep wsL_isFound := goodIn_r _ [378, 379, 380, 381, 4, 382, 383, 112, 113, 79, 114, 115, 116, 117, 118, 119, 120, 384, 385, 386, 387, 158, 159, 160, 146, 147, 161, 162, 163, 164, 81, 148, 165, 59, 60, 61, 82, 166, 167, 168, 169, 170, 171, 172, 173, 174, 175, 176, 388, 214, 215, 216, 389, 390, 391, 392, 399, 400, 401, 402, 403, 404, 405, 433, 434, 435, 436, 437] (by decide +kernel) (by decide +kernel)
set_option maxRecDepth 20000 in
theorem gL_isStep_L_isFound : GoodIn wsL_isStep (va_wsS RL 59 yL_isFound wsL_isFound) := goodIn_app (goodIn_of _ (by decide +kernel)) ggL_isStep_L_isFound
set_option maxRecDepth 20000 in
theorem ggL_isStep_X5_doneIn : GoodIn wsL_isStep wsX5_doneIn := goodIn_r _ [396, 397, 8, 338, 59, 60, 61, 398, 135, 136, 23, 137, 66, 38, 29, 30, 31, 32, 33, 138, 139, 140, 42, 141, 75, 44, 53, 103, 104, 105, 106, 142, 143, 144, 79, 145, 81, 146, 147, 148, 82, 92, 93, 94, 95, 313, 40, 41, 43, 340, 341, 342, 343, 202, 203, 204, 62, 63, 64, 65, 39, 344, 345, 346, 347, 348, 349, 350, 351, 352, 353, 354, 355, 356, 357, 316, 317, 318, 177, 178, 179, 180, 181, 182, 183, 184, 185, 186, 187, 188, 189, 190, 191, 192, 193, 194, 195, 196, 197, 198, 199, 200, 201, 58, 54, 55, 56, 57, 45, 46, 47, 48, 49, 50, 51, 52, 205, 206, 207, 208, 209, 210, 211, 212, 213, 214, 215, 216, 217, 218, 219, 220, 221, 222, 223, 224, 225, 226, 227, 228, 229, 230, 231, 232, 233, 234, 235, 236, 237, 238, 239, 240, 399, 400, 401, 402, 403, 404, 405, 418, 419, 420, 421, 422, 423, 424, 425, 426, 427, 428, 429, 430, 431, 432, 433, 434, 435, 436, 437] (by decide +kernel) (by decide +kernel)
set_option maxRecDepth 20000 in
theorem gL_isStep_X5_doneIn : GoodIn wsL_isStep (wsV RL 63 RX5 yX5_doneIn wsX5_doneIn) := goodIn_app (goodIn_of _ (by decide +kernel)) ggL_isStep_X5_doneIn
set_option maxRecDepth 20000 in
theorem ggL_isSingle_X5_count : GoodIn wsL_isSingle wsX5_count := goodIn_r _ [6, 7, 8, 9, 10, 11, 12, 13, 14, 15, 16, 17, 18, 19, 20, 21, 22, 23, 24, 25, 26, 27, 28, 29, 30, 31, 32, 33, 34, 35, 36, 37, 38, 39, 40, 41, 42, 43, 44, 45, 46, 47, 48, 49, 50, 51, 52, 53, 54, 55, 56, 57, 58, 59, 60, 61, 62, 63, 64, 65, 66, 67, 68, 69, 70, 71, 72, 73, 74, 75, 76, 77, 78, 79, 80, 81, 82, 83, 219, 220, 221, 222, 223, 224, 225, 226, 227, 228, 229, 230, 231, 232, 233, 234, 235, 236, 237, 238, 239, 240, 241, 242, 243, 244, 245, 246, 247, 248, 249, 250, 251, 252, 253, 254, 255, 256, 257] (by decide +kernel) (by decide +kernel)
set_option maxRecDepth 20000 in
theorem gL_isSingle_X5_count : GoodIn wsL_isSingle (wsV RL 15 RX5 yX5_count wsX5_count) := goodIn_app (goodIn_of _ (by decide +kernel)) ggL_isSingle_X5_count
set_option maxRecDepth 20000 in
theorem ggL_isSingle_X5_join : GoodIn wsL_isSingle wsX5_join := goodIn_r _ [87, 9, 88, 89, 90, 24, 91, 30, 39, 92, 93, 43, 94, 95, 96, 97, 98, 76, 45, 54, 99, 100, 101, 102, 103, 73, 74, 75, 77, 78, 79, 80, 81, 82, 83, 219, 220, 221, 222, 223, 224, 225, 238, 239, 240, 241, 242, 243, 244, 245, 246, 247, 248, 249, 250, 251, 252, 253, 254, 255, 256, 257] (by decide +kernel) (by decide +kernel)
set_option maxRecDepth 20000 in
theorem gL_isSingle_X5_join : GoodIn wsL_isSingle (wsV RL 25 RX5 yX5_join wsX5_join) := goodIn_app (goodIn_of _ (by decide +kernel)) ggL_isSingle_X5_join
set_option maxRecDepth 20000 in
theorem ggL_isSingle_X5_step : GoodIn wsL_isSingle wsX5_step := goodIn_r _ [107, 7, 9, 108, 60, 61, 62, 109, 110, 111, 13, 112, 15, 113, 114, 115, 116, 117, 118, 119, 120, 24, 121, 67, 39, 30, 31, 32, 33, 34, 122, 123, 124, 43, 125, 76, 45, 54, 99, 100, 101, 102, 126, 127, 128, 80, 129, 82, 130, 131, 132, 83, 133, 36, 37, 38, 40, 41, 42, 44, 134, 135, 136, 137, 138, 139, 140, 63, 64, 65, 66, 141, 142, 143, 144, 145, 146, 147, 148, 149, 150, 151, 152, 153, 154, 155, 156, 157, 158, 159, 160, 161, 162, 163, 164, 165, 166, 167, 168, 169, 170, 171, 172, 173, 174, 175, 176, 177, 178, 179, 180, 181, 182, 59, 55, 56, 57, 58, 46, 47, 48, 49, 50, 51, 52, 53, 183, 184, 185, 186, 187, 188, 189, 190, 191, 192, 193, 194, 195, 196, 197, 198, 199, 200, 201, 202, 203, 204, 205, 206, 207, 208, 209, 210, 211, 212, 213, 214, 215, 216, 217, 218, 219, 220, 221, 222, 223, 224, 225, 226, 227, 238, 239, 240, 241, 242, 243, 244, 245, 246, 247, 248, 249, 250, 251, 252, 253, 254, 255, 256, 257] (by decide +kernel) (by decide +kernel)
set_option maxRecDepth 20000 in
theorem gL_isSingle_X5_step : GoodIn wsL_isSingle (wsV RL 49 RX5 yX5_step wsX5_step) := goodIn_app (goodIn_of _ (by decide +kernel)) ggL_isSingle_X5_step
set_option maxRecDepth 20000 in
theorem ggL_isFound_X5_bestWay : GoodIn wsL_isFound wsX5_bestWay := goodIn_r _ [5, 6, 7, 8, 9, 10, 11, 12, 13, 14, 15, 16, 17, 18, 4, 19, 20, 21, 22, 23, 24, 25, 26, 27, 28, 29, 30, 31, 32, 33, 34, 35, 36, 37, 38, 39, 40, 41, 42, 43, 44, 45, 46, 47, 48, 49, 50, 51, 56, 57, 58, 59, 60, 61, 62, 63, 64, 65, 66, 67] (by decide +kernel) (by decide +kernel)
set_option maxRecDepth 20000 in
theorem gL_isFound_X5_bestWay : GoodIn wsL_isFound (wsV RL 66 RX5 yX5_bestWay wsX5_bestWay) := goodIn_app (goodIn_of _ (by decide +kernel)) ggL_isFound_X5_bestWay
set_option maxRecDepth 20000 in
theorem ggL_isFound_X5_work : GoodIn wsL_isFound wsX5_work := goodIn_r _ [55, 6, 7, 8, 9, 10, 11, 12, 13, 14, 15, 16, 17, 18, 4, 19, 20, 21, 22, 23, 24, 25, 26, 27, 28, 29, 30, 31, 32, 33, 34, 35, 36, 37, 38, 39, 40, 41, 42, 43, 44, 45, 46, 47, 48, 49, 50, 51, 56, 57, 58, 59, 60, 61, 62, 63, 64, 65, 66, 67] (by decide +kernel) (by decide +kernel)
set_option maxRecDepth 20000 in
theorem gL_isFound_X5_work : GoodIn wsL_isFound (wsV RL 69 RX5 yX5_work wsX5_work) := goodIn_app (goodIn_of _ (by decide +kernel)) ggL_isFound_X5_work
theorem dL_isFound_0 : decode cL_isFound 0 = .ok (.aload_n 0, 1) := by decide +kernel
theorem dL_isFound_1 : decode cL_isFound 1 = .ok (.iload_n 1, 1) := by decide +kernel
theorem dL_isFound_2 : decode cL_isFound 2 = .ok (.iload_n 2, 1) := by decide +kernel
theorem dL_isFound_3 : decode cL_isFound 3 = .ok (.iload_n 3, 1) := by decide +kernel
theorem dL_isFound_4 : decode cL_isFound 4 = .ok (.invokevirtual 66, 3) := by decide +kernel
theorem dL_isFound_7 : decode cL_isFound 7 = .ok (.istore 4, 2) := by decide +kernel
theorem dL_isFound_9 : decode cL_isFound 9 = .ok (.aload_n 0, 1) := by decide +kernel
theorem dL_isFound_10 : decode cL_isFound 10 = .ok (.iload 4, 2) := by decide +kernel
theorem dL_isFound_12 : decode cL_isFound 12 = .ok (.iload_n 1, 1) := by decide +kernel
theorem dL_isFound_13 : decode cL_isFound 13 = .ok (.iload_n 2, 1) := by decide +kernel
theorem dL_isFound_14 : decode cL_isFound 14 = .ok (.iload_n 3, 1) := by decide +kernel
theorem dL_isFound_15 : decode cL_isFound 15 = .ok (.invokevirtual 69, 3) := by decide +kernel
theorem dL_isFound_18 : decode cL_isFound 18 = .ok (.istore 5, 2) := by decide +kernel
theorem dL_isFound_20 : decode cL_isFound 20 = .ok (.iload 4, 2) := by decide +kernel
theorem dL_isFound_22 : decode cL_isFound 22 = .ok (.ifCond .lt 21, 3) := by decide +kernel
theorem dL_isFound_25 : decode cL_isFound 25 = .ok (.iload 4, 2) := by decide +kernel
theorem dL_isFound_27 : decode cL_isFound 27 = .ok (.iconst 3, 1) := by decide +kernel
theorem dL_isFound_28 : decode cL_isFound 28 = .ok (.if_icmp .ge 15, 3) := by decide +kernel
theorem dL_isFound_31 : decode cL_isFound 31 = .ok (.iload 5, 2) := by decide +kernel
theorem dL_isFound_33 : decode cL_isFound 33 = .ok (.iload_n 1, 1) := by decide +kernel
theorem dL_isFound_34 : decode cL_isFound 34 = .ok (.iload_n 2, 1) := by decide +kernel
theorem dL_isFound_35 : decode cL_isFound 35 = .ok (.iadd, 1) := by decide +kernel
theorem dL_isFound_36 : decode cL_isFound 36 = .ok (.if_icmp .lt 7, 3) := by decide +kernel
theorem dL_isFound_39 : decode cL_isFound 39 = .ok (.iconst 1, 1) := by decide +kernel
theorem dL_isFound_40 : decode cL_isFound 40 = .ok (.goto 4, 3) := by decide +kernel
theorem dL_isFound_43 : decode cL_isFound 43 = .ok (.iconst 0, 1) := by decide +kernel
theorem dL_isFound_44 : decode cL_isFound 44 = .ok (.istore 6, 2) := by decide +kernel
theorem dL_isFound_46 : decode cL_isFound 46 = .ok (.iconst 0, 1) := by decide +kernel
theorem dL_isFound_47 : decode cL_isFound 47 = .ok (.istore 7, 2) := by decide +kernel
theorem dL_isFound_49 : decode cL_isFound 49 = .ok (.iload 7, 2) := by decide +kernel
theorem dL_isFound_51 : decode cL_isFound 51 = .ok (.iconst 3, 1) := by decide +kernel
theorem dL_isFound_52 : decode cL_isFound 52 = .ok (.if_icmp .ge 127, 3) := by decide +kernel
theorem dL_isFound_55 : decode cL_isFound 55 = .ok (.aload_n 0, 1) := by decide +kernel
theorem dL_isFound_56 : decode cL_isFound 56 = .ok (.iload 7, 2) := by decide +kernel
theorem dL_isFound_58 : decode cL_isFound 58 = .ok (.iload_n 1, 1) := by decide +kernel
theorem dL_isFound_59 : decode cL_isFound 59 = .ok (.iload_n 2, 1) := by decide +kernel
theorem dL_isFound_60 : decode cL_isFound 60 = .ok (.iload_n 3, 1) := by decide +kernel
theorem dL_isFound_61 : decode cL_isFound 61 = .ok (.invokevirtual 69, 3) := by decide +kernel
theorem dL_isFound_64 : decode cL_isFound 64 = .ok (.istore 8, 2) := by decide +kernel
theorem dL_isFound_66 : decode cL_isFound 66 = .ok (.aload_n 0, 1) := by decide +kernel
theorem dL_isFound_67 : decode cL_isFound 67 = .ok (.iload 7, 2) := by decide +kernel
theorem dL_isFound_69 : decode cL_isFound 69 = .ok (.iload_n 1, 1) := by decide +kernel
theorem dL_isFound_70 : decode cL_isFound 70 = .ok (.iload_n 2, 1) := by decide +kernel
theorem dL_isFound_71 : decode cL_isFound 71 = .ok (.iload_n 3, 1) := by decide +kernel
theorem dL_isFound_72 : decode cL_isFound 72 = .ok (.iconst 1, 1) := by decide +kernel
theorem dL_isFound_73 : decode cL_isFound 73 = .ok (.iadd, 1) := by decide +kernel
theorem dL_isFound_74 : decode cL_isFound 74 = .ok (.sipush 500, 3) := by decide +kernel
theorem dL_isFound_77 : decode cL_isFound 77 = .ok (.if_icmp .le 9, 3) := by decide +kernel
theorem dL_isFound_80 : decode cL_isFound 80 = .ok (.sipush 500, 3) := by decide +kernel
theorem dL_isFound_83 : decode cL_isFound 83 = .ok (.goto 6, 3) := by decide +kernel
theorem dL_isFound_86 : decode cL_isFound 86 = .ok (.iload_n 3, 1) := by decide +kernel
theorem dL_isFound_87 : decode cL_isFound 87 = .ok (.iconst 1, 1) := by decide +kernel
theorem dL_isFound_88 : decode cL_isFound 88 = .ok (.iadd, 1) := by decide +kernel
theorem dL_isFound_89 : decode cL_isFound 89 = .ok (.invokevirtual 69, 3) := by decide +kernel
theorem dL_isFound_92 : decode cL_isFound 92 = .ok (.istore 9, 2) := by decide +kernel
theorem dL_isFound_94 : decode cL_isFound 94 = .ok (.iload 6, 2) := by decide +kernel
theorem dL_isFound_96 : decode cL_isFound 96 = .ok (.ifCond .eq 74, 3) := by decide +kernel
theorem dL_isFound_99 : decode cL_isFound 99 = .ok (.iload 8, 2) := by decide +kernel
theorem dL_isFound_101 : decode cL_isFound 101 = .ok (.bipush (-5), 2) := by decide +kernel
theorem dL_isFound_103 : decode cL_isFound 103 = .ok (.if_icmp .eq 24, 3) := by decide +kernel
theorem dL_isFound_106 : decode cL_isFound 106 = .ok (.iload 8, 2) := by decide +kernel
theorem dL_isFound_108 : decode cL_isFound 108 = .ok (.iload 5, 2) := by decide +kernel
theorem dL_isFound_110 : decode cL_isFound 110 = .ok (.if_icmp .lt 60, 3) := by decide +kernel
theorem dL_isFound_113 : decode cL_isFound 113 = .ok (.iload 7, 2) := by decide +kernel
theorem dL_isFound_115 : decode cL_isFound 115 = .ok (.iload 4, 2) := by decide +kernel
theorem dL_isFound_117 : decode cL_isFound 117 = .ok (.if_icmp .ge 10, 3) := by decide +kernel
theorem dL_isFound_120 : decode cL_isFound 120 = .ok (.iload 8, 2) := by decide +kernel
theorem dL_isFound_122 : decode cL_isFound 122 = .ok (.iload 5, 2) := by decide +kernel
theorem dL_isFound_124 : decode cL_isFound 124 = .ok (.if_icmp .le 46, 3) := by decide +kernel
theorem dL_isFound_127 : decode cL_isFound 127 = .ok (.iload 8, 2) := by decide +kernel
theorem dL_isFound_129 : decode cL_isFound 129 = .ok (.ifCond .lt 10, 3) := by decide +kernel
theorem dL_isFound_132 : decode cL_isFound 132 = .ok (.iload 9, 2) := by decide +kernel
theorem dL_isFound_134 : decode cL_isFound 134 = .ok (.iload 8, 2) := by decide +kernel
theorem dL_isFound_136 : decode cL_isFound 136 = .ok (.if_icmp .gt 34, 3) := by decide +kernel
theorem dL_isFound_139 : decode cL_isFound 139 = .ok (.iload_n 3, 1) := by decide +kernel
theorem dL_isFound_140 : decode cL_isFound 140 = .ok (.sipush 450, 3) := by decide +kernel
theorem dL_isFound_143 : decode cL_isFound 143 = .ok (.if_icmp .lt 23, 3) := by decide +kernel
theorem dL_isFound_146 : decode cL_isFound 146 = .ok (.iload 8, 2) := by decide +kernel
theorem dL_isFound_148 : decode cL_isFound 148 = .ok (.iload_n 1, 1) := by decide +kernel
theorem dL_isFound_149 : decode cL_isFound 149 = .ok (.iload_n 2, 1) := by decide +kernel
theorem dL_isFound_150 : decode cL_isFound 150 = .ok (.iadd, 1) := by decide +kernel
theorem dL_isFound_151 : decode cL_isFound 151 = .ok (.if_icmp .eq 15, 3) := by decide +kernel
theorem dL_isFound_154 : decode cL_isFound 154 = .ok (.iload 7, 2) := by decide +kernel
theorem dL_isFound_156 : decode cL_isFound 156 = .ok (.ifCond .ne 14, 3) := by decide +kernel
theorem dL_isFound_159 : decode cL_isFound 159 = .ok (.iload_n 2, 1) := by decide +kernel
theorem dL_isFound_160 : decode cL_isFound 160 = .ok (.iconst 2, 1) := by decide +kernel
theorem dL_isFound_161 : decode cL_isFound 161 = .ok (.iadd, 1) := by decide +kernel
theorem dL_isFound_162 : decode cL_isFound 162 = .ok (.iload_n 3, 1) := by decide +kernel
theorem dL_isFound_163 : decode cL_isFound 163 = .ok (.if_icmp .le 7, 3) := by decide +kernel
theorem dL_isFound_166 : decode cL_isFound 166 = .ok (.iconst 1, 1) := by decide +kernel
theorem dL_isFound_167 : decode cL_isFound 167 = .ok (.goto 4, 3) := by decide +kernel
theorem dL_isFound_170 : decode cL_isFound 170 = .ok (.iconst 0, 1) := by decide +kernel
theorem dL_isFound_171 : decode cL_isFound 171 = .ok (.istore 6, 2) := by decide +kernel
theorem dL_isFound_173 : decode cL_isFound 173 = .ok (.iinc 7 1, 3) := by decide +kernel
theorem dL_isFound_176 : decode cL_isFound 176 = .ok (.goto (-127), 3) := by decide +kernel
theorem dL_isFound_179 : decode cL_isFound 179 = .ok (.iload 6, 2) := by decide +kernel
theorem dL_isFound_181 : decode cL_isFound 181 = .ok (.ireturn, 1) := by decide +kernel
set_option maxRecDepth 20000 in
theorem ggL_areAlike_X5_spare : GoodIn wsL_areAlike wsX5_spare := goodIn_r _ [5, 6, 7, 8, 9, 10, 11, 12, 13, 14, 15, 16, 17, 18, 19, 20, 149, 150, 151, 152, 153, 154, 155, 156, 157, 158, 159, 160, 161, 162, 163, 164, 165, 166, 167, 168, 169, 170, 171, 172, 173, 174, 175] (by decide +kernel) (by decide +kernel)
set_option maxRecDepth 20000 in
theorem gL_areAlike_X5_spare : GoodIn wsL_areAlike (wsV RL 73 RX5 yX5_spare wsX5_spare) := goodIn_app (goodIn_of _ (by decide +kernel)) ggL_areAlike_X5_spare
set_option maxRecDepth 20000 in
theorem ggL_areAlike_X5_count : GoodIn wsL_areAlike wsX5_count := goodIn_r _ [24, 25, 26, 6, 27, 28, 29, 30, 31, 32, 33, 34, 35, 36, 37, 38, 39, 40, 10, 41, 42, 43, 44, 45, 46, 47, 48, 49, 50, 51, 52, 53, 54, 12, 55, 56, 57, 16, 58, 18, 59, 60, 61, 62, 63, 64, 65, 66, 19, 67, 68, 69, 70, 71, 72, 73, 74, 75, 76, 77, 78, 79, 80, 81, 82, 83, 84, 85, 86, 87, 20, 88, 89, 90, 91, 92, 93, 94, 149, 150, 151, 152, 153, 154, 155, 176, 177, 178, 179, 180, 181, 182, 183, 184, 185, 186, 187, 156, 157, 158, 159, 160, 161, 162, 163, 164, 165, 166, 167, 168, 169, 170, 171, 172, 173, 174, 175] (by decide +kernel) (by decide +kernel)
set_option maxRecDepth 20000 in
theorem gL_areAlike_X5_count : GoodIn wsL_areAlike (wsV RL 15 RX5 yX5_count wsX5_count) := goodIn_app (goodIn_of _ (by decide +kernel)) ggL_areAlike_X5_count
set_option maxRecDepth 20000 in
theorem ggL_areAlike_X5_join : GoodIn wsL_areAlike wsX5_join := goodIn_r _ [98, 6, 99, 100, 101, 10, 102, 46, 12, 103, 104, 16, 105, 106, 107, 108, 109, 20, 18, 19, 110, 111, 112, 113, 114, 85, 86, 87, 88, 89, 90, 91, 92, 93, 94, 149, 150, 151, 152, 153, 154, 155, 156, 157, 158, 159, 160, 161, 162, 163, 164, 165, 166, 167, 168, 169, 170, 171, 172, 173, 174, 175] (by decide +kernel) (by decide +kernel)
set_option maxRecDepth 20000 in
theorem gL_areAlike_X5_join : GoodIn wsL_areAlike (wsV RL 25 RX5 yX5_join wsX5_join) := goodIn_app (goodIn_of _ (by decide +kernel)) ggL_areAlike_X5_join
set_option maxRecDepth 20000 in
theorem ggL_areAlike_X5_why : GoodIn wsL_areAlike wsX5_why := goodIn_r _ [118, 6, 99, 100, 101, 10, 102, 46, 12, 119, 120, 121, 122, 55, 56, 57, 16, 58, 18, 123, 124, 125, 126, 20, 75, 76, 77, 78, 79, 127, 128, 129, 130, 131, 132, 133, 134, 135, 136, 137, 138, 139, 149, 150, 151, 152, 153, 154, 155, 156, 157, 158, 159, 160, 161, 162, 163, 164, 165, 166, 167, 168, 169, 170, 171, 172, 173, 174, 175] (by decide +kernel) (by decide +kernel)
set_option maxRecDepth 20000 in
theorem gL_areAlike_X5_why : GoodIn wsL_areAlike (wsV RL 76 RX5 yX5_why wsX5_why) := goodIn_app (goodIn_of _ (by decide +kernel)) ggL_areAlike_X5_why
set_option maxRecDepth 20000 in
theorem ggL_areAlike_X5_queue : GoodIn wsL_areAlike wsX5_queue := goodIn_r _ [143, 6, 144, 145, 146, 10, 147, 12, 55, 56, 57, 16, 58, 18, 127, 128, 129, 130, 131, 132, 133, 134, 123, 124, 125, 126, 20, 75, 76, 77, 78, 79, 135, 136, 137, 138, 139, 148, 149, 150, 151, 152, 153, 154, 155, 156, 157, 158, 159, 160, 161, 162, 163, 164, 165, 166, 167, 168, 169, 170, 171, 172, 173, 174, 175] (by decide +kernel) (by decide +kernel)
set_option maxRecDepth 20000 in
theorem gL_areAlike_X5_queue : GoodIn wsL_areAlike (wsV RL 79 RX5 yX5_queue wsX5_queue) := goodIn_app (goodIn_of _ (by decide +kernel)) ggL_areAlike_X5_queue
theorem dL_areAlike_0 : decode cL_areAlike 0 = .ok (.aload_n 0, 1) := by decide +kernel
theorem dL_areAlike_1 : decode cL_areAlike 1 = .ok (.invokevirtual 73, 3) := by decide +kernel
theorem dL_areAlike_4 : decode cL_areAlike 4 = .ok (.aload_n 1, 1) := by decide +kernel
theorem dL_areAlike_5 : decode cL_areAlike 5 = .ok (.invokevirtual 73, 3) := by decide +kernel
theorem dL_areAlike_8 : decode cL_areAlike 8 = .ok (.if_icmp .ne 7, 3) := by decide +kernel
theorem dL_areAlike_11 : decode cL_areAlike 11 = .ok (.iconst 1, 1) := by decide +kernel
theorem dL_areAlike_12 : decode cL_areAlike 12 = .ok (.goto 4, 3) := by decide +kernel
theorem dL_areAlike_15 : decode cL_areAlike 15 = .ok (.iconst 0, 1) := by decide +kernel
theorem dL_areAlike_16 : decode cL_areAlike 16 = .ok (.istore_n 2, 1) := by decide +kernel
theorem dL_areAlike_17 : decode cL_areAlike 17 = .ok (.iconst 0, 1) := by decide +kernel
theorem dL_areAlike_18 : decode cL_areAlike 18 = .ok (.istore_n 3, 1) := by decide +kernel
theorem dL_areAlike_19 : decode cL_areAlike 19 = .ok (.iload_n 3, 1) := by decide +kernel
theorem dL_areAlike_20 : decode cL_areAlike 20 = .ok (.bipush 16, 2) := by decide +kernel
theorem dL_areAlike_22 : decode cL_areAlike 22 = .ok (.if_icmp .ge 32, 3) := by decide +kernel
theorem dL_areAlike_25 : decode cL_areAlike 25 = .ok (.iload_n 2, 1) := by decide +kernel
theorem dL_areAlike_26 : decode cL_areAlike 26 = .ok (.ifCond .eq 20, 3) := by decide +kernel
theorem dL_areAlike_29 : decode cL_areAlike 29 = .ok (.aload_n 0, 1) := by decide +kernel
theorem dL_areAlike_30 : decode cL_areAlike 30 = .ok (.iload_n 3, 1) := by decide +kernel
theorem dL_areAlike_31 : decode cL_areAlike 31 = .ok (.invokevirtual 15, 3) := by decide +kernel
theorem dL_areAlike_34 : decode cL_areAlike 34 = .ok (.aload_n 1, 1) := by decide +kernel
theorem dL_areAlike_35 : decode cL_areAlike 35 = .ok (.iload_n 3, 1) := by decide +kernel
theorem dL_areAlike_36 : decode cL_areAlike 36 = .ok (.invokevirtual 15, 3) := by decide +kernel
theorem dL_areAlike_39 : decode cL_areAlike 39 = .ok (.if_icmp .ne 7, 3) := by decide +kernel
theorem dL_areAlike_42 : decode cL_areAlike 42 = .ok (.iconst 1, 1) := by decide +kernel
theorem dL_areAlike_43 : decode cL_areAlike 43 = .ok (.goto 4, 3) := by decide +kernel
theorem dL_areAlike_46 : decode cL_areAlike 46 = .ok (.iconst 0, 1) := by decide +kernel
theorem dL_areAlike_47 : decode cL_areAlike 47 = .ok (.istore_n 2, 1) := by decide +kernel
theorem dL_areAlike_48 : decode cL_areAlike 48 = .ok (.iinc 3 1, 3) := by decide +kernel
theorem dL_areAlike_51 : decode cL_areAlike 51 = .ok (.goto (-32), 3) := by decide +kernel
theorem dL_areAlike_54 : decode cL_areAlike 54 = .ok (.iconst 0, 1) := by decide +kernel
theorem dL_areAlike_55 : decode cL_areAlike 55 = .ok (.istore_n 3, 1) := by decide +kernel
theorem dL_areAlike_56 : decode cL_areAlike 56 = .ok (.iload_n 3, 1) := by decide +kernel
theorem dL_areAlike_57 : decode cL_areAlike 57 = .ok (.aload_n 0, 1) := by decide +kernel
theorem dL_areAlike_58 : decode cL_areAlike 58 = .ok (.iconst 0, 1) := by decide +kernel
theorem dL_areAlike_59 : decode cL_areAlike 59 = .ok (.invokevirtual 15, 3) := by decide +kernel
theorem dL_areAlike_62 : decode cL_areAlike 62 = .ok (.if_icmp .ge 88, 3) := by decide +kernel
theorem dL_areAlike_65 : decode cL_areAlike 65 = .ok (.iconst 0, 1) := by decide +kernel
theorem dL_areAlike_66 : decode cL_areAlike 66 = .ok (.istore 4, 2) := by decide +kernel
theorem dL_areAlike_68 : decode cL_areAlike 68 = .ok (.iload 4, 2) := by decide +kernel
theorem dL_areAlike_70 : decode cL_areAlike 70 = .ok (.bipush 12, 2) := by decide +kernel
theorem dL_areAlike_72 : decode cL_areAlike 72 = .ok (.if_icmp .ge 36, 3) := by decide +kernel
theorem dL_areAlike_75 : decode cL_areAlike 75 = .ok (.iload_n 2, 1) := by decide +kernel
theorem dL_areAlike_76 : decode cL_areAlike 76 = .ok (.ifCond .eq 24, 3) := by decide +kernel
theorem dL_areAlike_79 : decode cL_areAlike 79 = .ok (.aload_n 0, 1) := by decide +kernel
theorem dL_areAlike_80 : decode cL_areAlike 80 = .ok (.iload_n 3, 1) := by decide +kernel
theorem dL_areAlike_81 : decode cL_areAlike 81 = .ok (.iload 4, 2) := by decide +kernel
theorem dL_areAlike_83 : decode cL_areAlike 83 = .ok (.invokevirtual 25, 3) := by decide +kernel
theorem dL_areAlike_86 : decode cL_areAlike 86 = .ok (.aload_n 1, 1) := by decide +kernel
theorem dL_areAlike_87 : decode cL_areAlike 87 = .ok (.iload_n 3, 1) := by decide +kernel
theorem dL_areAlike_88 : decode cL_areAlike 88 = .ok (.iload 4, 2) := by decide +kernel
theorem dL_areAlike_90 : decode cL_areAlike 90 = .ok (.invokevirtual 25, 3) := by decide +kernel
theorem dL_areAlike_93 : decode cL_areAlike 93 = .ok (.if_icmp .ne 7, 3) := by decide +kernel
theorem dL_areAlike_96 : decode cL_areAlike 96 = .ok (.iconst 1, 1) := by decide +kernel
theorem dL_areAlike_97 : decode cL_areAlike 97 = .ok (.goto 4, 3) := by decide +kernel
theorem dL_areAlike_100 : decode cL_areAlike 100 = .ok (.iconst 0, 1) := by decide +kernel
theorem dL_areAlike_101 : decode cL_areAlike 101 = .ok (.istore_n 2, 1) := by decide +kernel
theorem dL_areAlike_102 : decode cL_areAlike 102 = .ok (.iinc 4 1, 3) := by decide +kernel
theorem dL_areAlike_105 : decode cL_areAlike 105 = .ok (.goto (-37), 3) := by decide +kernel
theorem dL_areAlike_108 : decode cL_areAlike 108 = .ok (.iload_n 2, 1) := by decide +kernel
theorem dL_areAlike_109 : decode cL_areAlike 109 = .ok (.ifCond .eq 33, 3) := by decide +kernel
theorem dL_areAlike_112 : decode cL_areAlike 112 = .ok (.aload_n 0, 1) := by decide +kernel
theorem dL_areAlike_113 : decode cL_areAlike 113 = .ok (.iload_n 3, 1) := by decide +kernel
theorem dL_areAlike_114 : decode cL_areAlike 114 = .ok (.invokevirtual 76, 3) := by decide +kernel
theorem dL_areAlike_117 : decode cL_areAlike 117 = .ok (.aload_n 1, 1) := by decide +kernel
theorem dL_areAlike_118 : decode cL_areAlike 118 = .ok (.iload_n 3, 1) := by decide +kernel
theorem dL_areAlike_119 : decode cL_areAlike 119 = .ok (.invokevirtual 76, 3) := by decide +kernel
theorem dL_areAlike_122 : decode cL_areAlike 122 = .ok (.if_icmp .ne 20, 3) := by decide +kernel
theorem dL_areAlike_125 : decode cL_areAlike 125 = .ok (.aload_n 0, 1) := by decide +kernel
theorem dL_areAlike_126 : decode cL_areAlike 126 = .ok (.iload_n 3, 1) := by decide +kernel
theorem dL_areAlike_127 : decode cL_areAlike 127 = .ok (.invokevirtual 79, 3) := by decide +kernel
theorem dL_areAlike_130 : decode cL_areAlike 130 = .ok (.aload_n 1, 1) := by decide +kernel
theorem dL_areAlike_131 : decode cL_areAlike 131 = .ok (.iload_n 3, 1) := by decide +kernel
theorem dL_areAlike_132 : decode cL_areAlike 132 = .ok (.invokevirtual 79, 3) := by decide +kernel
theorem dL_areAlike_135 : decode cL_areAlike 135 = .ok (.if_icmp .ne 7, 3) := by decide +kernel
theorem dL_areAlike_138 : decode cL_areAlike 138 = .ok (.iconst 1, 1) := by decide +kernel
theorem dL_areAlike_139 : decode cL_areAlike 139 = .ok (.goto 4, 3) := by decide +kernel
theorem dL_areAlike_142 : decode cL_areAlike 142 = .ok (.iconst 0, 1) := by decide +kernel
theorem dL_areAlike_143 : decode cL_areAlike 143 = .ok (.istore_n 2, 1) := by decide +kernel
theorem dL_areAlike_144 : decode cL_areAlike 144 = .ok (.iinc 3 1, 3) := by decide +kernel
theorem dL_areAlike_147 : decode cL_areAlike 147 = .ok (.goto (-91), 3) := by decide +kernel
theorem dL_areAlike_150 : decode cL_areAlike 150 = .ok (.iload_n 2, 1) := by decide +kernel
theorem dL_areAlike_151 : decode cL_areAlike 151 = .ok (.ireturn, 1) := by decide +kernel
set_option maxRecDepth 20000 in
theorem ggL_isWell_X5_count : GoodIn wsL_isWell wsX5_count := goodIn_r _ [6, 7, 8, 9, 10, 11, 12, 13, 14, 15, 16, 17, 18, 19, 20, 21, 22, 23, 24, 25, 26, 27, 28, 29, 30, 31, 32, 33, 34, 35, 36, 37, 38, 39, 40, 41, 42, 43, 44, 45, 46, 47, 48, 49, 50, 51, 52, 53, 54, 55, 56, 57, 58, 59, 60, 61, 62, 63, 64, 65, 66, 67, 68, 69, 70, 71, 72, 73, 74, 75, 76, 77, 78, 79, 80, 81, 82, 83, 150, 151, 152, 153, 154, 155, 156, 157, 158, 159, 160, 161, 162, 163, 164, 165, 166, 167, 168, 169, 170, 171, 172, 173, 174, 175, 176, 177, 178, 179, 180, 181, 182, 183, 184, 185, 186, 187, 188] (by decide +kernel) (by decide +kernel)
set_option maxRecDepth 20000 in
theorem gL_isWell_X5_count : GoodIn wsL_isWell (wsV RL 15 RX5 yX5_count wsX5_count) := goodIn_app (goodIn_of _ (by decide +kernel)) ggL_isWell_X5_count
set_option maxRecDepth 20000 in
theorem ggL_isWell_X5_join : GoodIn wsL_isWell wsX5_join := goodIn_r _ [87, 9, 88, 89, 90, 24, 91, 30, 39, 92, 93, 43, 94, 95, 96, 97, 98, 76, 45, 54, 99, 100, 101, 102, 103, 73, 74, 75, 77, 78, 79, 80, 81, 82, 83, 150, 151, 152, 153, 154, 155, 156, 169, 170, 171, 172, 173, 174, 175, 176, 177, 178, 179, 180, 181, 182, 183, 184, 185, 186, 187, 188] (by decide +kernel) (by decide +kernel)
set_option maxRecDepth 20000 in
theorem gL_isWell_X5_join : GoodIn wsL_isWell (wsV RL 25 RX5 yX5_join wsX5_join) := goodIn_app (goodIn_of _ (by decide +kernel)) ggL_isWell_X5_join
set_option maxRecDepth 20000 in
theorem ggL_isWell_X5_why : GoodIn wsL_isWell wsX5_why := goodIn_r _ [107, 9, 88, 89, 90, 24, 91, 30, 39, 108, 109, 110, 111, 40, 41, 42, 43, 44, 45, 112, 113, 114, 115, 76, 63, 64, 65, 66, 67, 116, 117, 118, 119, 120, 121, 122, 123, 124, 125, 126, 127, 128, 150, 151, 152, 153, 154, 155, 156, 169, 170, 171, 172, 173, 174, 175, 176, 177, 178, 179, 180, 181, 182, 183, 184, 185, 186, 187, 188] (by decide +kernel) (by decide +kernel)
set_option maxRecDepth 20000 in
theorem gL_isWell_X5_why : GoodIn wsL_isWell (wsV RL 76 RX5 yX5_why wsX5_why) := goodIn_app (goodIn_of _ (by decide +kernel)) ggL_isWell_X5_why
set_option maxRecDepth 20000 in
theorem ggL_isWell_X5_queue : GoodIn wsL_isWell wsX5_queue := goodIn_r _ [132, 9, 133, 134, 135, 24, 136, 39, 40, 41, 42, 43, 44, 45, 116, 117, 118, 119, 120, 121, 122, 123, 112, 113, 114, 115, 76, 63, 64, 65, 66, 67, 124, 125, 126, 127, 128, 137, 150, 151, 152, 153, 154, 155, 156, 169, 170, 171, 172, 173, 174, 175, 176, 177, 178, 179, 180, 181, 182, 183, 184, 185, 186, 187, 188] (by decide +kernel) (by decide +kernel)
set_option maxRecDepth 20000 in
theorem gL_isWell_X5_queue : GoodIn wsL_isWell (wsV RL 79 RX5 yX5_queue wsX5_queue) := goodIn_app (goodIn_of _ (by decide +kernel)) ggL_isWell_X5_queue
set_option maxRecDepth 20000 in
theorem ggL_isWell_X5_spare : GoodIn wsL_isWell wsX5_spare := goodIn_r _ [141, 9, 142, 143, 144, 24, 145, 39, 146, 147, 148, 43, 149, 45, 54, 76, 150, 151, 152, 153, 154, 155, 156, 169, 170, 171, 172, 173, 174, 175, 176, 177, 178, 179, 180, 181, 182, 183, 184, 185, 186, 187, 188] (by decide +kernel) (by decide +kernel)
set_option maxRecDepth 20000 in
theorem gL_isWell_X5_spare : GoodIn wsL_isWell (wsV RL 73 RX5 yX5_spare wsX5_spare) := goodIn_app (goodIn_of _ (by decide +kernel)) ggL_isWell_X5_spare
set_option maxRecDepth 20000 in
theorem ggL_law_X5_init : GoodIn wsL_law wsX5_init := goodIn_r _ [5, 6, 7, 8, 9, 10, 11, 12, 13, 14, 15, 16, 17, 18, 19, 20, 21, 22, 23, 24, 25, 26, 27, 28, 29, 30, 31, 32, 33, 34, 35, 36, 37, 38, 39, 40, 41, 42, 43, 44, 45, 46, 47, 48, 49, 50, 51, 52, 53, 54, 55, 56, 57, 58, 59, 60, 61, 62, 63, 64, 65, 66, 67, 68, 69, 70, 493, 494, 495, 496, 497, 498, 499, 486, 487, 488, 489, 490, 491, 492, 500, 501, 502, 503, 504, 505, 506, 507, 508, 509, 510, 511, 512, 513, 514, 515, 516, 517, 518, 519, 520, 521, 522, 523, 524] (by decide +kernel) (by decide +kernel)
set_option maxRecDepth 20000 in
theorem gL_law_X5_init : GoodIn wsL_law (wsX5_init) := ggL_law_X5_init
set_option maxRecDepth 20000 in
theorem ggL_law_L_cell : GoodIn wsL_law wsL_cell := goodIn_r _ [74, 75] (by decide +kernel) (by decide +kernel)
set_option maxRecDepth 20000 in
theorem gL_law_L_cell : GoodIn wsL_law (va_wsS RL 83 yL_cell wsL_cell) := goodIn_app (goodIn_of _ (by decide +kernel)) ggL_law_L_cell
set_option maxRecDepth 20000 in
theorem ggL_law_L_areAlike : GoodIn wsL_law wsL_areAlike := goodIn_r _ [485, 478, 479, 480, 2, 481, 12, 482, 284, 285, 11, 286, 41, 287, 288, 289, 43, 290, 50, 121, 49, 79, 80, 81, 82, 16, 20, 83, 84, 85, 15, 86, 87, 88, 89, 90, 19, 91, 92, 93, 94, 95, 96, 97, 98, 99, 100, 101, 102, 103, 104, 105, 106, 107, 108, 109, 110, 111, 112, 113, 114, 115, 116, 117, 118, 119, 120, 122, 123, 124, 125, 126, 127, 128, 129, 130, 131, 132, 133, 39, 134, 135, 136, 137, 138, 139, 140, 141, 142, 143, 144, 25, 145, 146, 147, 152, 153, 154, 155, 156, 157, 158, 159, 160, 161, 162, 163, 164, 165, 166, 167, 168, 169, 170, 171, 457, 458, 459, 460, 461, 462, 463, 464, 252, 253, 254, 255, 465, 466, 467, 468, 248, 249, 250, 251, 256, 257, 258, 259, 51, 469, 470, 471, 472, 473, 474, 475, 476, 477, 486, 487, 488, 489, 490, 491, 492, 493, 494, 495, 496, 497, 498, 499, 517, 518, 519, 520, 521, 522, 523, 524, 512, 513, 514, 515, 516, 500, 501, 502, 503, 504, 505, 506, 507, 508, 509, 510, 511] (by decide +kernel) (by decide +kernel)
set_option maxRecDepth 20000 in
theorem gL_law_L_areAlike : GoodIn wsL_law (va_wsS RL 94 yL_areAlike wsL_areAlike) := goodIn_app (goodIn_of _ (by decide +kernel)) ggL_law_L_areAlike
