set_option maxRecDepth 20000 in
theorem ggX5_init_X4_init : GoodIn wsX5_init wsX4_init := goodIn_r _ [25, 26, 2, 3, 27, 28, 29, 30, 31, 32, 33, 34, 35, 36, 37, 38, 39, 40, 41, 42, 43, 19, 20, 44, 45, 46, 47, 48, 49, 66, 67, 68, 69, 70, 71, 72, 97, 98, 99, 100, 101, 102, 103, 104, 92, 93, 94, 95, 96] (by decide +kernel) (by decide +kernel)
set_option maxRecDepth 20000 in
theorem gX5_init_X4_init : GoodIn wsX5_init (wsX4_init) := ggX5_init_X4_init
set_option maxRecDepth 20000 in
theorem ggX5_init_X0_init : GoodIn wsX5_init wsX0_init := goodIn_r _ [52, 53, 2, 3, 54, 55, 5, 6, 56, 24, 25, 26, 27, 28, 29, 30, 31, 32, 33, 34, 35, 36, 37, 38, 39, 40, 41, 42, 43, 19, 20, 44, 45, 46, 47, 48, 49, 80, 81, 66, 67, 68, 69, 70, 71, 72, 97, 98, 99, 100, 101, 102, 103, 104, 92, 93, 94, 95, 96] (by decide +kernel) (by decide +kernel)
set_option maxRecDepth 20000 in
theorem gX5_init_X0_init : GoodIn wsX5_init (wsX0_init) := ggX5_init_X0_init
set_option maxRecDepth 20000 in
theorem ggX5_init_X2_init : GoodIn wsX5_init wsX2_init := goodIn_r _ [58, 59, 2, 3, 60, 61, 62, 63, 64, 65, 82, 83, 84, 85, 86, 87, 88, 89, 90, 91] (by decide +kernel) (by decide +kernel)
set_option maxRecDepth 20000 in
theorem gX5_init_X2_init_n25 : GoodIn wsX5_init (wsX2_init) := ggX5_init_X2_init
set_option maxRecDepth 20000 in
theorem ggX5_init_X3_init : GoodIn wsX5_init wsX3_init := goodIn_r _ [48, 49, 2, 3] (by decide +kernel) (by decide +kernel)
set_option maxRecDepth 20000 in
theorem gX5_init_X3_init_n38 : GoodIn wsX5_init (wsX3_init) := ggX5_init_X3_init
theorem dX5_init_0 : decode cX5_init 0 = .ok (.aload_n 0, 1) := by decide +kernel
theorem dX5_init_1 : decode cX5_init 1 = .ok (.invokespecial 1, 3) := by decide +kernel
theorem dX5_init_4 : decode cX5_init 4 = .ok (.aload_n 0, 1) := by decide +kernel
theorem dX5_init_5 : decode cX5_init 5 = .ok (.new 7, 3) := by decide +kernel
theorem dX5_init_8 : decode cX5_init 8 = .ok (.dup, 1) := by decide +kernel
theorem dX5_init_9 : decode cX5_init 9 = .ok (.invokespecial 9, 3) := by decide +kernel
theorem dX5_init_12 : decode cX5_init 12 = .ok (.putfield 10, 3) := by decide +kernel
theorem dX5_init_15 : decode cX5_init 15 = .ok (.aload_n 0, 1) := by decide +kernel
theorem dX5_init_16 : decode cX5_init 16 = .ok (.new 16, 3) := by decide +kernel
theorem dX5_init_19 : decode cX5_init 19 = .ok (.dup, 1) := by decide +kernel
theorem dX5_init_20 : decode cX5_init 20 = .ok (.invokespecial 18, 3) := by decide +kernel
theorem dX5_init_23 : decode cX5_init 23 = .ok (.putfield 19, 3) := by decide +kernel
theorem dX5_init_26 : decode cX5_init 26 = .ok (.aload_n 0, 1) := by decide +kernel
theorem dX5_init_27 : decode cX5_init 27 = .ok (.new 23, 3) := by decide +kernel
theorem dX5_init_30 : decode cX5_init 30 = .ok (.dup, 1) := by decide +kernel
theorem dX5_init_31 : decode cX5_init 31 = .ok (.invokespecial 25, 3) := by decide +kernel
theorem dX5_init_34 : decode cX5_init 34 = .ok (.putfield 26, 3) := by decide +kernel
theorem dX5_init_37 : decode cX5_init 37 = .ok (.aload_n 0, 1) := by decide +kernel
theorem dX5_init_38 : decode cX5_init 38 = .ok (.new 7, 3) := by decide +kernel
theorem dX5_init_41 : decode cX5_init 41 = .ok (.dup, 1) := by decide +kernel
theorem dX5_init_42 : decode cX5_init 42 = .ok (.invokespecial 9, 3) := by decide +kernel
theorem dX5_init_45 : decode cX5_init 45 = .ok (.putfield 30, 3) := by decide +kernel
theorem dX5_init_48 : decode cX5_init 48 = .ok (.aload_n 0, 1) := by decide +kernel
theorem dX5_init_49 : decode cX5_init 49 = .ok (.new 7, 3) := by decide +kernel
theorem dX5_init_52 : decode cX5_init 52 = .ok (.dup, 1) := by decide +kernel
theorem dX5_init_53 : decode cX5_init 53 = .ok (.invokespecial 9, 3) := by decide +kernel
theorem dX5_init_56 : decode cX5_init 56 = .ok (.putfield 33, 3) := by decide +kernel
theorem dX5_init_59 : decode cX5_init 59 = .ok (.aload_n 0, 1) := by decide +kernel
theorem dX5_init_60 : decode cX5_init 60 = .ok (.new 36, 3) := by decide +kernel
theorem dX5_init_63 : decode cX5_init 63 = .ok (.dup, 1) := by decide +kernel
theorem dX5_init_64 : decode cX5_init 64 = .ok (.invokespecial 38, 3) := by decide +kernel
theorem dX5_init_67 : decode cX5_init 67 = .ok (.putfield 39, 3) := by decide +kernel
theorem dX5_init_70 : decode cX5_init 70 = .ok (.aload_n 0, 1) := by decide +kernel
theorem dX5_init_71 : decode cX5_init 71 = .ok (.iconst 0, 1) := by decide +kernel
theorem dX5_init_72 : decode cX5_init 72 = .ok (.putfield 43, 3) := by decide +kernel
theorem dX5_init_75 : decode cX5_init 75 = .ok (.return_, 1) := by decide +kernel
set_option maxRecDepth 20000 in
theorem ggX5_ask_X3_fits : GoodIn wsX5_ask wsX3_fits := goodIn_r _ [6, 7, 8, 5, 9, 10, 11, 12] (by decide +kernel) (by decide +kernel)
set_option maxRecDepth 20000 in
theorem gX5_ask_X3_fits : GoodIn wsX5_ask (va_wsS RX5 47 yX3_fits wsX3_fits) := goodIn_app (goodIn_of _ (by decide +kernel)) ggX5_ask_X3_fits
set_option maxRecDepth 20000 in
theorem ggX5_ask_X4_room : GoodIn wsX5_ask wsX4_room := goodIn_r _ [17, 18, 19, 184, 185, 186, 187, 188, 189, 190] (by decide +kernel) (by decide +kernel)
set_option maxRecDepth 20000 in
theorem gX5_ask_X4_room : GoodIn wsX5_ask (wsV RX5 51 RX4 yX4_room wsX4_room) := goodIn_app (goodIn_of _ (by decide +kernel)) ggX5_ask_X4_room
set_option maxRecDepth 20000 in
theorem ggX5_ask_X0_record : GoodIn wsX5_ask wsX0_record := goodIn_r _ [24, 25, 26, 27, 28, 29, 23, 30, 31, 32, 33, 16, 34, 35, 18, 19, 36, 37, 38, 39, 40, 41, 42, 43, 44, 45, 46, 47, 48, 49, 50, 51, 52, 53, 54, 5, 55, 56, 57, 58, 59, 60, 191, 192, 184, 185, 186, 187, 188, 189, 190, 193, 194, 195, 196, 197, 198, 199, 200, 201, 202, 203, 204, 205] (by decide +kernel) (by decide +kernel)
set_option maxRecDepth 20000 in
theorem gX5_ask_X0_record : GoodIn wsX5_ask (wsV RX5 55 RX0 yX0_record wsX0_record) := goodIn_app (goodIn_of _ (by decide +kernel)) ggX5_ask_X0_record
set_option maxRecDepth 20000 in
theorem ggX5_ask_X4_take : GoodIn wsX5_ask wsX4_take := goodIn_r _ [64, 19, 18, 65, 66, 67, 43, 68, 45, 46, 69, 70, 71, 5, 72, 57, 58, 73, 74, 75, 76, 56, 59, 77, 78, 79, 80, 60, 81, 82, 83, 84, 85, 86, 87, 88, 89, 90, 91, 92, 93, 94, 16, 95, 96, 97, 98, 99, 100, 101, 102, 103, 104, 105, 106, 107, 108, 109, 110, 111, 112, 113, 114, 115, 35, 116, 117, 118, 119, 120, 121, 122, 123, 124, 125, 126, 127, 36, 128, 129, 130, 131, 132, 133, 134, 135, 136, 137, 138, 139, 140, 47, 141, 142, 143, 144, 145, 146, 147, 148, 48, 149, 150, 151, 152, 153, 154, 155, 156, 157, 158, 159, 160, 161, 162, 163, 164, 165, 166, 167, 168, 39, 169, 170, 171, 172, 173, 174, 175, 176, 51, 184, 185, 186, 187, 188, 189, 190, 193, 194, 195, 196, 197, 198, 199, 200, 201, 202, 203, 204, 205] (by decide +kernel) (by decide +kernel)
set_option maxRecDepth 20000 in
theorem gX5_ask_X4_take : GoodIn wsX5_ask (wsV RX5 59 RX4 yX4_take wsX4_take) := goodIn_app (goodIn_of _ (by decide +kernel)) ggX5_ask_X4_take
theorem dX5_ask_0 : decode cX5_ask 0 = .ok (.iload_n 1, 1) := by decide +kernel
theorem dX5_ask_1 : decode cX5_ask 1 = .ok (.iload_n 2, 1) := by decide +kernel
theorem dX5_ask_2 : decode cX5_ask 2 = .ok (.iload_n 3, 1) := by decide +kernel
theorem dX5_ask_3 : decode cX5_ask 3 = .ok (.invokestatic 47, 3) := by decide +kernel
theorem dX5_ask_6 : decode cX5_ask 6 = .ok (.ifCond .ne 6, 3) := by decide +kernel
theorem dX5_ask_9 : decode cX5_ask 9 = .ok (.bipush (-2), 2) := by decide +kernel
theorem dX5_ask_11 : decode cX5_ask 11 = .ok (.ireturn, 1) := by decide +kernel
theorem dX5_ask_12 : decode cX5_ask 12 = .ok (.aload_n 0, 1) := by decide +kernel
theorem dX5_ask_13 : decode cX5_ask 13 = .ok (.getfield 10, 3) := by decide +kernel
theorem dX5_ask_16 : decode cX5_ask 16 = .ok (.invokevirtual 51, 3) := by decide +kernel
theorem dX5_ask_19 : decode cX5_ask 19 = .ok (.iconst 1, 1) := by decide +kernel
theorem dX5_ask_20 : decode cX5_ask 20 = .ok (.if_icmp .ge 6, 3) := by decide +kernel
theorem dX5_ask_23 : decode cX5_ask 23 = .ok (.bipush (-3), 2) := by decide +kernel
theorem dX5_ask_25 : decode cX5_ask 25 = .ok (.ireturn, 1) := by decide +kernel
theorem dX5_ask_26 : decode cX5_ask 26 = .ok (.aload_n 0, 1) := by decide +kernel
theorem dX5_ask_27 : decode cX5_ask 27 = .ok (.getfield 19, 3) := by decide +kernel
theorem dX5_ask_30 : decode cX5_ask 30 = .ok (.aload_n 0, 1) := by decide +kernel
theorem dX5_ask_31 : decode cX5_ask 31 = .ok (.getfield 10, 3) := by decide +kernel
theorem dX5_ask_34 : decode cX5_ask 34 = .ok (.invokevirtual 55, 3) := by decide +kernel
theorem dX5_ask_37 : decode cX5_ask 37 = .ok (.aload_n 0, 1) := by decide +kernel
theorem dX5_ask_38 : decode cX5_ask 38 = .ok (.getfield 10, 3) := by decide +kernel
theorem dX5_ask_41 : decode cX5_ask 41 = .ok (.iload_n 1, 1) := by decide +kernel
theorem dX5_ask_42 : decode cX5_ask 42 = .ok (.iload_n 2, 1) := by decide +kernel
theorem dX5_ask_43 : decode cX5_ask 43 = .ok (.iload_n 3, 1) := by decide +kernel
theorem dX5_ask_44 : decode cX5_ask 44 = .ok (.invokevirtual 59, 3) := by decide +kernel
theorem dX5_ask_47 : decode cX5_ask 47 = .ok (.ireturn, 1) := by decide +kernel
set_option maxRecDepth 20000 in
theorem ggX5_askAll_X2_read : GoodIn wsX5_askAll wsX2_read := goodIn_r _ [8, 9, 10, 11, 12, 13, 14, 15, 16, 7, 17, 18, 19, 20, 21, 22, 23, 24, 25, 26, 27, 28, 29, 30, 31, 32, 33, 34, 223, 224, 225, 226, 227, 228, 229, 230, 231, 232] (by decide +kernel) (by decide +kernel)
set_option maxRecDepth 20000 in
theorem gX5_askAll_X2_read : GoodIn wsX5_askAll (wsV RX5 63 RX2 yX2_read wsX2_read) := goodIn_app (goodIn_of _ (by decide +kernel)) ggX5_askAll_X2_read
set_option maxRecDepth 20000 in
theorem ggX5_askAll_X2_joins : GoodIn wsX5_askAll wsX2_joins := goodIn_r _ [38, 9, 223, 224, 225, 226, 227, 228, 229, 230, 231, 232] (by decide +kernel) (by decide +kernel)
set_option maxRecDepth 20000 in
theorem gX5_askAll_X2_joins : GoodIn wsX5_askAll (wsV RX5 66 RX2 yX2_joins wsX2_joins) := goodIn_app (goodIn_of _ (by decide +kernel)) ggX5_askAll_X2_joins
set_option maxRecDepth 20000 in
theorem ggX5_askAll_X4_room : GoodIn wsX5_askAll wsX4_room := goodIn_r _ [43, 44, 45, 233, 234, 235, 236, 237, 238, 239] (by decide +kernel) (by decide +kernel)
set_option maxRecDepth 20000 in
theorem gX5_askAll_X4_room : GoodIn wsX5_askAll (wsV RX5 51 RX4 yX4_room wsX4_room) := goodIn_app (goodIn_of _ (by decide +kernel)) ggX5_askAll_X4_room
set_option maxRecDepth 20000 in
theorem ggX5_askAll_X0_record : GoodIn wsX5_askAll wsX0_record := goodIn_r _ [50, 51, 52, 53, 54, 55, 49, 56, 57, 58, 59, 42, 60, 61, 44, 45, 62, 63, 64, 65, 66, 67, 68, 69, 70, 71, 72, 73, 74, 75, 76, 77, 78, 79, 80, 81, 82, 83, 84, 85, 86, 87, 240, 241, 233, 234, 235, 236, 237, 238, 239, 242, 243, 244, 245, 246, 247, 248, 249, 250, 251, 252, 253, 254] (by decide +kernel) (by decide +kernel)
set_option maxRecDepth 20000 in
theorem gX5_askAll_X0_record : GoodIn wsX5_askAll (wsV RX5 55 RX0 yX0_record wsX0_record) := goodIn_app (goodIn_of _ (by decide +kernel)) ggX5_askAll_X0_record
set_option maxRecDepth 20000 in
theorem ggX5_askAll_X2_wayOf : GoodIn wsX5_askAll wsX2_wayOf := goodIn_r _ [91, 32, 223, 224, 225, 226, 227, 228, 229, 230, 231, 232] (by decide +kernel) (by decide +kernel)
set_option maxRecDepth 20000 in
theorem gX5_askAll_X2_wayOf : GoodIn wsX5_askAll (wsV RX5 69 RX2 yX2_wayOf wsX2_wayOf) := goodIn_app (goodIn_of _ (by decide +kernel)) ggX5_askAll_X2_wayOf
set_option maxRecDepth 20000 in
theorem ggX5_askAll_X2_leftOf : GoodIn wsX5_askAll wsX2_leftOf := goodIn_r _ [95, 33, 223, 224, 225, 226, 227, 228, 229, 230, 231, 232] (by decide +kernel) (by decide +kernel)
set_option maxRecDepth 20000 in
theorem gX5_askAll_X2_leftOf : GoodIn wsX5_askAll (wsV RX5 73 RX2 yX2_leftOf wsX2_leftOf) := goodIn_app (goodIn_of _ (by decide +kernel)) ggX5_askAll_X2_leftOf
set_option maxRecDepth 20000 in
theorem ggX5_askAll_X2_rightOf : GoodIn wsX5_askAll wsX2_rightOf := goodIn_r _ [99, 34, 223, 224, 225, 226, 227, 228, 229, 230, 231, 232] (by decide +kernel) (by decide +kernel)
set_option maxRecDepth 20000 in
theorem gX5_askAll_X2_rightOf : GoodIn wsX5_askAll (wsV RX5 76 RX2 yX2_rightOf wsX2_rightOf) := goodIn_app (goodIn_of _ (by decide +kernel)) ggX5_askAll_X2_rightOf
set_option maxRecDepth 20000 in
theorem ggX5_askAll_X4_take : GoodIn wsX5_askAll wsX4_take := goodIn_r _ [103, 45, 44, 104, 105, 106, 69, 107, 71, 72, 108, 109, 110, 81, 111, 84, 85, 112, 113, 114, 115, 83, 86, 116, 117, 118, 119, 87, 120, 121, 122, 123, 124, 125, 126, 127, 128, 129, 130, 131, 132, 133, 42, 134, 135, 136, 137, 138, 139, 140, 141, 142, 143, 144, 145, 146, 147, 148, 149, 150, 151, 152, 153, 154, 61, 155, 156, 157, 158, 159, 160, 161, 162, 163, 164, 165, 166, 62, 167, 168, 169, 170, 171, 172, 173, 174, 175, 176, 177, 178, 179, 73, 180, 181, 182, 183, 184, 185, 186, 187, 74, 188, 189, 190, 191, 192, 193, 194, 195, 196, 197, 198, 199, 200, 201, 202, 203, 204, 205, 206, 207, 65, 208, 209, 210, 211, 212, 213, 214, 215, 77, 233, 234, 235, 236, 237, 238, 239, 242, 243, 244, 245, 246, 247, 248, 249, 250, 251, 252, 253, 254] (by decide +kernel) (by decide +kernel)
set_option maxRecDepth 20000 in
theorem gX5_askAll_X4_take : GoodIn wsX5_askAll (wsV RX5 59 RX4 yX4_take wsX4_take) := goodIn_app (goodIn_of _ (by decide +kernel)) ggX5_askAll_X4_take
theorem dX5_askAll_0 : decode cX5_askAll 0 = .ok (.aload_n 0, 1) := by decide +kernel
theorem dX5_askAll_1 : decode cX5_askAll 1 = .ok (.getfield 26, 3) := by decide +kernel
theorem dX5_askAll_4 : decode cX5_askAll 4 = .ok (.invokevirtual 63, 3) := by decide +kernel
theorem dX5_askAll_7 : decode cX5_askAll 7 = .ok (.istore_n 1, 1) := by decide +kernel
theorem dX5_askAll_8 : decode cX5_askAll 8 = .ok (.iload_n 1, 1) := by decide +kernel
theorem dX5_askAll_9 : decode cX5_askAll 9 = .ok (.iconst (-1), 1) := by decide +kernel
theorem dX5_askAll_10 : decode cX5_askAll 10 = .ok (.if_icmp .eq 8, 3) := by decide +kernel
theorem dX5_askAll_13 : decode cX5_askAll 13 = .ok (.bipush (-100), 2) := by decide +kernel
theorem dX5_askAll_15 : decode cX5_askAll 15 = .ok (.iload_n 1, 1) := by decide +kernel
theorem dX5_askAll_16 : decode cX5_askAll 16 = .ok (.isub, 1) := by decide +kernel
theorem dX5_askAll_17 : decode cX5_askAll 17 = .ok (.ireturn, 1) := by decide +kernel
theorem dX5_askAll_18 : decode cX5_askAll 18 = .ok (.aload_n 0, 1) := by decide +kernel
theorem dX5_askAll_19 : decode cX5_askAll 19 = .ok (.getfield 26, 3) := by decide +kernel
theorem dX5_askAll_22 : decode cX5_askAll 22 = .ok (.invokevirtual 66, 3) := by decide +kernel
theorem dX5_askAll_25 : decode cX5_askAll 25 = .ok (.istore_n 2, 1) := by decide +kernel
theorem dX5_askAll_26 : decode cX5_askAll 26 = .ok (.iload_n 2, 1) := by decide +kernel
theorem dX5_askAll_27 : decode cX5_askAll 27 = .ok (.aload_n 0, 1) := by decide +kernel
theorem dX5_askAll_28 : decode cX5_askAll 28 = .ok (.getfield 10, 3) := by decide +kernel
theorem dX5_askAll_31 : decode cX5_askAll 31 = .ok (.invokevirtual 51, 3) := by decide +kernel
theorem dX5_askAll_34 : decode cX5_askAll 34 = .ok (.if_icmp .le 6, 3) := by decide +kernel
theorem dX5_askAll_37 : decode cX5_askAll 37 = .ok (.bipush (-3), 2) := by decide +kernel
theorem dX5_askAll_39 : decode cX5_askAll 39 = .ok (.ireturn, 1) := by decide +kernel
theorem dX5_askAll_40 : decode cX5_askAll 40 = .ok (.aload_n 0, 1) := by decide +kernel
theorem dX5_askAll_41 : decode cX5_askAll 41 = .ok (.getfield 19, 3) := by decide +kernel
theorem dX5_askAll_44 : decode cX5_askAll 44 = .ok (.aload_n 0, 1) := by decide +kernel
theorem dX5_askAll_45 : decode cX5_askAll 45 = .ok (.getfield 10, 3) := by decide +kernel
theorem dX5_askAll_48 : decode cX5_askAll 48 = .ok (.invokevirtual 55, 3) := by decide +kernel
theorem dX5_askAll_51 : decode cX5_askAll 51 = .ok (.iconst 0, 1) := by decide +kernel
theorem dX5_askAll_52 : decode cX5_askAll 52 = .ok (.istore_n 3, 1) := by decide +kernel
theorem dX5_askAll_53 : decode cX5_askAll 53 = .ok (.iload_n 3, 1) := by decide +kernel
theorem dX5_askAll_54 : decode cX5_askAll 54 = .ok (.iload_n 2, 1) := by decide +kernel
theorem dX5_askAll_55 : decode cX5_askAll 55 = .ok (.if_icmp .ge 41, 3) := by decide +kernel
theorem dX5_askAll_58 : decode cX5_askAll 58 = .ok (.aload_n 0, 1) := by decide +kernel
theorem dX5_askAll_59 : decode cX5_askAll 59 = .ok (.getfield 10, 3) := by decide +kernel
theorem dX5_askAll_62 : decode cX5_askAll 62 = .ok (.aload_n 0, 1) := by decide +kernel
theorem dX5_askAll_63 : decode cX5_askAll 63 = .ok (.getfield 26, 3) := by decide +kernel
theorem dX5_askAll_66 : decode cX5_askAll 66 = .ok (.iload_n 3, 1) := by decide +kernel
theorem dX5_askAll_67 : decode cX5_askAll 67 = .ok (.invokevirtual 69, 3) := by decide +kernel
theorem dX5_askAll_70 : decode cX5_askAll 70 = .ok (.aload_n 0, 1) := by decide +kernel
theorem dX5_askAll_71 : decode cX5_askAll 71 = .ok (.getfield 26, 3) := by decide +kernel
theorem dX5_askAll_74 : decode cX5_askAll 74 = .ok (.iload_n 3, 1) := by decide +kernel
theorem dX5_askAll_75 : decode cX5_askAll 75 = .ok (.invokevirtual 73, 3) := by decide +kernel
theorem dX5_askAll_78 : decode cX5_askAll 78 = .ok (.aload_n 0, 1) := by decide +kernel
theorem dX5_askAll_79 : decode cX5_askAll 79 = .ok (.getfield 26, 3) := by decide +kernel
theorem dX5_askAll_82 : decode cX5_askAll 82 = .ok (.iload_n 3, 1) := by decide +kernel
theorem dX5_askAll_83 : decode cX5_askAll 83 = .ok (.invokevirtual 76, 3) := by decide +kernel
theorem dX5_askAll_86 : decode cX5_askAll 86 = .ok (.invokevirtual 59, 3) := by decide +kernel
theorem dX5_askAll_89 : decode cX5_askAll 89 = .ok (.pop, 1) := by decide +kernel
theorem dX5_askAll_90 : decode cX5_askAll 90 = .ok (.iinc 3 1, 3) := by decide +kernel
theorem dX5_askAll_93 : decode cX5_askAll 93 = .ok (.goto (-40), 3) := by decide +kernel
theorem dX5_askAll_96 : decode cX5_askAll 96 = .ok (.iload_n 2, 1) := by decide +kernel
theorem dX5_askAll_97 : decode cX5_askAll 97 = .ok (.ireturn, 1) := by decide +kernel
set_option maxRecDepth 20000 in
theorem ggX5_cancel_X4_find : GoodIn wsX5_cancel wsX4_find := goodIn_r _ [7, 8, 9, 153, 154, 155, 156, 157, 158, 159] (by decide +kernel) (by decide +kernel)
set_option maxRecDepth 20000 in
theorem gX5_cancel_X4_find : GoodIn wsX5_cancel (wsV RX5 79 RX4 yX4_find wsX4_find) := goodIn_app (goodIn_of _ (by decide +kernel)) ggX5_cancel_X4_find
set_option maxRecDepth 20000 in
theorem ggX5_cancel_X1_isIn : GoodIn wsX5_cancel wsX1_isIn := goodIn_r _ [14, 15, 160, 161, 162, 163, 164, 165, 166, 167] (by decide +kernel) (by decide +kernel)
set_option maxRecDepth 20000 in
theorem gX5_cancel_X1_isIn : GoodIn wsX5_cancel (wsV RX5 85 RX1 yX1_isIn wsX1_isIn) := goodIn_app (goodIn_of _ (by decide +kernel)) ggX5_cancel_X1_isIn
set_option maxRecDepth 20000 in
theorem ggX5_cancel_X0_record : GoodIn wsX5_cancel wsX0_record := goodIn_r _ [20, 21, 22, 23, 24, 25, 19, 26, 27, 28, 29, 6, 30, 31, 9, 8, 32, 33, 34, 35, 36, 37, 38, 13, 39, 40, 15, 41, 42, 43, 44, 45, 46, 47, 48, 49, 50, 51, 52, 53, 54, 55, 168, 169, 153, 154, 155, 156, 157, 158, 159, 160, 161, 162, 163, 164, 165, 166, 167, 170, 171, 172, 173, 174] (by decide +kernel) (by decide +kernel)
set_option maxRecDepth 20000 in
theorem gX5_cancel_X0_record : GoodIn wsX5_cancel (wsV RX5 55 RX0 yX0_record wsX0_record) := goodIn_app (goodIn_of _ (by decide +kernel)) ggX5_cancel_X0_record
set_option maxRecDepth 20000 in
theorem ggX5_cancel_X1_pages : GoodIn wsX5_cancel wsX1_pages := goodIn_r _ [59, 41, 160, 161, 162, 163, 164, 165, 166, 167] (by decide +kernel) (by decide +kernel)
set_option maxRecDepth 20000 in
theorem gX5_cancel_X1_pages : GoodIn wsX5_cancel (wsV RX5 89 RX1 yX1_pages wsX1_pages) := goodIn_app (goodIn_of _ (by decide +kernel)) ggX5_cancel_X1_pages
set_option maxRecDepth 20000 in
theorem ggX5_cancel_X1_end : GoodIn wsX5_cancel wsX1_end := goodIn_r _ [63, 15, 41, 42, 160, 161, 162, 163, 164, 165, 166, 167] (by decide +kernel) (by decide +kernel)
set_option maxRecDepth 20000 in
theorem gX5_cancel_X1_end : GoodIn wsX5_cancel (wsV RX5 92 RX1 yX1_end wsX1_end) := goodIn_app (goodIn_of _ (by decide +kernel)) ggX5_cancel_X1_end
set_option maxRecDepth 20000 in
theorem ggX5_cancel_X4_goThroughQueue : GoodIn wsX5_cancel wsX4_goThroughQueue := goodIn_r _ [67, 9, 68, 69, 70, 6, 71, 72, 11, 12, 13, 14, 15, 73, 74, 75, 76, 77, 78, 79, 80, 40, 81, 82, 83, 84, 31, 85, 86, 87, 88, 89, 90, 91, 92, 93, 94, 95, 96, 97, 32, 98, 99, 100, 101, 102, 103, 104, 105, 106, 107, 108, 109, 57, 58, 59, 41, 110, 111, 112, 113, 114, 115, 116, 117, 42, 118, 119, 120, 49, 121, 52, 53, 51, 55, 122, 123, 124, 125, 126, 127, 128, 129, 130, 131, 132, 133, 134, 135, 136, 137, 35, 138, 139, 140, 141, 142, 143, 144, 145, 45, 153, 154, 155, 156, 157, 158, 159, 160, 161, 162, 163, 164, 165, 166, 167, 170, 171, 172, 173, 174] (by decide +kernel) (by decide +kernel)
set_option maxRecDepth 20000 in
theorem gX5_cancel_X4_goThroughQueue : GoodIn wsX5_cancel (wsV RX5 96 RX4 yX4_goThroughQueue wsX4_goThroughQueue) := goodIn_app (goodIn_of _ (by decide +kernel)) ggX5_cancel_X4_goThroughQueue
theorem dX5_cancel_0 : decode cX5_cancel 0 = .ok (.aload_n 0, 1) := by decide +kernel
theorem dX5_cancel_1 : decode cX5_cancel 1 = .ok (.getfield 10, 3) := by decide +kernel
theorem dX5_cancel_4 : decode cX5_cancel 4 = .ok (.iload_n 1, 1) := by decide +kernel
theorem dX5_cancel_5 : decode cX5_cancel 5 = .ok (.invokevirtual 79, 3) := by decide +kernel
theorem dX5_cancel_8 : decode cX5_cancel 8 = .ok (.astore_n 2, 1) := by decide +kernel
theorem dX5_cancel_9 : decode cX5_cancel 9 = .ok (.aload_n 2, 1) := by decide +kernel
theorem dX5_cancel_10 : decode cX5_cancel 10 = .ok (.ifnonnull 5, 3) := by decide +kernel
theorem dX5_cancel_13 : decode cX5_cancel 13 = .ok (.iconst (-1), 1) := by decide +kernel
theorem dX5_cancel_14 : decode cX5_cancel 14 = .ok (.ireturn, 1) := by decide +kernel
theorem dX5_cancel_15 : decode cX5_cancel 15 = .ok (.aload_n 2, 1) := by decide +kernel
theorem dX5_cancel_16 : decode cX5_cancel 16 = .ok (.iconst 0, 1) := by decide +kernel
theorem dX5_cancel_17 : decode cX5_cancel 17 = .ok (.invokevirtual 85, 3) := by decide +kernel
theorem dX5_cancel_20 : decode cX5_cancel 20 = .ok (.ifCond .ne 14, 3) := by decide +kernel
theorem dX5_cancel_23 : decode cX5_cancel 23 = .ok (.aload_n 2, 1) := by decide +kernel
theorem dX5_cancel_24 : decode cX5_cancel 24 = .ok (.iconst 1, 1) := by decide +kernel
theorem dX5_cancel_25 : decode cX5_cancel 25 = .ok (.invokevirtual 85, 3) := by decide +kernel
theorem dX5_cancel_28 : decode cX5_cancel 28 = .ok (.ifCond .ne 6, 3) := by decide +kernel
theorem dX5_cancel_31 : decode cX5_cancel 31 = .ok (.bipush (-4), 2) := by decide +kernel
theorem dX5_cancel_33 : decode cX5_cancel 33 = .ok (.ireturn, 1) := by decide +kernel
theorem dX5_cancel_34 : decode cX5_cancel 34 = .ok (.aload_n 0, 1) := by decide +kernel
theorem dX5_cancel_35 : decode cX5_cancel 35 = .ok (.getfield 19, 3) := by decide +kernel
theorem dX5_cancel_38 : decode cX5_cancel 38 = .ok (.aload_n 0, 1) := by decide +kernel
theorem dX5_cancel_39 : decode cX5_cancel 39 = .ok (.getfield 10, 3) := by decide +kernel
theorem dX5_cancel_42 : decode cX5_cancel 42 = .ok (.invokevirtual 55, 3) := by decide +kernel
theorem dX5_cancel_45 : decode cX5_cancel 45 = .ok (.aload_n 2, 1) := by decide +kernel
theorem dX5_cancel_46 : decode cX5_cancel 46 = .ok (.invokevirtual 89, 3) := by decide +kernel
theorem dX5_cancel_49 : decode cX5_cancel 49 = .ok (.istore_n 3, 1) := by decide +kernel
theorem dX5_cancel_50 : decode cX5_cancel 50 = .ok (.aload_n 2, 1) := by decide +kernel
theorem dX5_cancel_51 : decode cX5_cancel 51 = .ok (.iconst 3, 1) := by decide +kernel
theorem dX5_cancel_52 : decode cX5_cancel 52 = .ok (.invokevirtual 92, 3) := by decide +kernel
theorem dX5_cancel_55 : decode cX5_cancel 55 = .ok (.aload_n 0, 1) := by decide +kernel
theorem dX5_cancel_56 : decode cX5_cancel 56 = .ok (.getfield 10, 3) := by decide +kernel
theorem dX5_cancel_59 : decode cX5_cancel 59 = .ok (.invokevirtual 96, 3) := by decide +kernel
theorem dX5_cancel_62 : decode cX5_cancel 62 = .ok (.iload_n 3, 1) := by decide +kernel
theorem dX5_cancel_63 : decode cX5_cancel 63 = .ok (.ireturn, 1) := by decide +kernel
set_option maxRecDepth 20000 in
theorem ggX5_change_X4_find : GoodIn wsX5_change wsX4_find := goodIn_r _ [7, 8, 9, 175, 176, 177, 178, 179, 180, 181] (by decide +kernel) (by decide +kernel)
set_option maxRecDepth 20000 in
theorem gX5_change_X4_find : GoodIn wsX5_change (wsV RX5 79 RX4 yX4_find wsX4_find) := goodIn_app (goodIn_of _ (by decide +kernel)) ggX5_change_X4_find
set_option maxRecDepth 20000 in
theorem ggX5_change_X3_isWay : GoodIn wsX5_change wsX3_isWay := goodIn_r _ [13] (by decide +kernel) (by decide +kernel)
set_option maxRecDepth 20000 in
theorem gX5_change_X3_isWay : GoodIn wsX5_change (va_wsS RX5 99 yX3_isWay wsX3_isWay) := goodIn_app (goodIn_of _ (by decide +kernel)) ggX5_change_X3_isWay
set_option maxRecDepth 20000 in
theorem ggX5_change_X1_isIn : GoodIn wsX5_change wsX1_isIn := goodIn_r _ [18, 19, 182, 183, 184, 185, 186, 187, 188, 189] (by decide +kernel) (by decide +kernel)
set_option maxRecDepth 20000 in
theorem gX5_change_X1_isIn : GoodIn wsX5_change (wsV RX5 85 RX1 yX1_isIn wsX1_isIn) := goodIn_app (goodIn_of _ (by decide +kernel)) ggX5_change_X1_isIn
set_option maxRecDepth 20000 in
theorem ggX5_change_X1_way : GoodIn wsX5_change wsX1_way := goodIn_r _ [23, 24, 182, 183, 184, 185, 186, 187, 188, 189, 190, 191, 192, 193, 194] (by decide +kernel) (by decide +kernel)
set_option maxRecDepth 20000 in
theorem gX5_change_X1_way : GoodIn wsX5_change (wsV RX5 102 RX1 yX1_way wsX1_way) := goodIn_app (goodIn_of _ (by decide +kernel)) ggX5_change_X1_way
set_option maxRecDepth 20000 in
theorem ggX5_change_X0_record : GoodIn wsX5_change wsX0_record := goodIn_r _ [29, 30, 31, 32, 33, 34, 28, 35, 36, 37, 38, 6, 39, 40, 9, 8, 41, 42, 43, 44, 45, 46, 47, 17, 48, 24, 19, 49, 50, 51, 52, 53, 54, 55, 56, 12, 57, 58, 59, 60, 61, 62, 195, 196, 175, 176, 177, 178, 179, 180, 181, 182, 183, 184, 185, 186, 187, 188, 189, 190, 191, 192, 193, 194] (by decide +kernel) (by decide +kernel)
set_option maxRecDepth 20000 in
theorem gX5_change_X0_record : GoodIn wsX5_change (wsV RX5 55 RX0 yX0_record wsX0_record) := goodIn_app (goodIn_of _ (by decide +kernel)) ggX5_change_X0_record
set_option maxRecDepth 20000 in
theorem ggX5_change_X1_changeWay : GoodIn wsX5_change wsX1_changeWay := goodIn_r _ [66, 24, 67, 68, 69, 12, 70, 58, 61, 71, 72, 73, 74, 62, 75, 76, 77, 78, 60, 59, 79, 80, 81, 82, 83, 84, 85, 182, 183, 184, 185, 186, 187, 188, 189, 190, 191, 192, 193, 194] (by decide +kernel) (by decide +kernel)
set_option maxRecDepth 20000 in
theorem gX5_change_X1_changeWay : GoodIn wsX5_change (wsV RX5 105 RX1 yX1_changeWay wsX1_changeWay) := goodIn_app (goodIn_of _ (by decide +kernel)) ggX5_change_X1_changeWay
set_option maxRecDepth 20000 in
theorem ggX5_change_X4_goThroughQueue : GoodIn wsX5_change wsX4_goThroughQueue := goodIn_r _ [89, 9, 90, 91, 92, 6, 93, 94, 15, 16, 17, 18, 19, 95, 96, 97, 98, 99, 100, 101, 102, 24, 103, 104, 105, 106, 40, 107, 108, 109, 110, 111, 112, 113, 114, 115, 116, 117, 73, 118, 41, 119, 72, 74, 120, 121, 122, 123, 124, 125, 126, 127, 128, 129, 130, 131, 49, 132, 133, 134, 135, 136, 137, 138, 139, 50, 140, 141, 142, 12, 143, 59, 60, 58, 62, 144, 145, 146, 147, 148, 149, 150, 151, 152, 153, 154, 155, 156, 157, 158, 159, 44, 160, 161, 162, 163, 164, 165, 166, 167, 53, 175, 176, 177, 178, 179, 180, 181, 182, 183, 184, 185, 186, 187, 188, 189, 190, 191, 192, 193, 194] (by decide +kernel) (by decide +kernel)
set_option maxRecDepth 20000 in
theorem gX5_change_X4_goThroughQueue : GoodIn wsX5_change (wsV RX5 96 RX4 yX4_goThroughQueue wsX4_goThroughQueue) := goodIn_app (goodIn_of _ (by decide +kernel)) ggX5_change_X4_goThroughQueue
theorem dX5_change_0 : decode cX5_change 0 = .ok (.aload_n 0, 1) := by decide +kernel
theorem dX5_change_1 : decode cX5_change 1 = .ok (.getfield 10, 3) := by decide +kernel
theorem dX5_change_4 : decode cX5_change 4 = .ok (.iload_n 1, 1) := by decide +kernel
theorem dX5_change_5 : decode cX5_change 5 = .ok (.invokevirtual 79, 3) := by decide +kernel
theorem dX5_change_8 : decode cX5_change 8 = .ok (.astore_n 3, 1) := by decide +kernel
theorem dX5_change_9 : decode cX5_change 9 = .ok (.aload_n 3, 1) := by decide +kernel
theorem dX5_change_10 : decode cX5_change 10 = .ok (.ifnonnull 5, 3) := by decide +kernel
theorem dX5_change_13 : decode cX5_change 13 = .ok (.iconst (-1), 1) := by decide +kernel
theorem dX5_change_14 : decode cX5_change 14 = .ok (.ireturn, 1) := by decide +kernel
theorem dX5_change_15 : decode cX5_change 15 = .ok (.iload_n 2, 1) := by decide +kernel
theorem dX5_change_16 : decode cX5_change 16 = .ok (.invokestatic 99, 3) := by decide +kernel
theorem dX5_change_19 : decode cX5_change 19 = .ok (.ifCond .ne 6, 3) := by decide +kernel
theorem dX5_change_22 : decode cX5_change 22 = .ok (.bipush (-2), 2) := by decide +kernel
theorem dX5_change_24 : decode cX5_change 24 = .ok (.ireturn, 1) := by decide +kernel
theorem dX5_change_25 : decode cX5_change 25 = .ok (.aload_n 3, 1) := by decide +kernel
theorem dX5_change_26 : decode cX5_change 26 = .ok (.iconst 0, 1) := by decide +kernel
theorem dX5_change_27 : decode cX5_change 27 = .ok (.invokevirtual 85, 3) := by decide +kernel
theorem dX5_change_30 : decode cX5_change 30 = .ok (.ifCond .ne 6, 3) := by decide +kernel
theorem dX5_change_33 : decode cX5_change 33 = .ok (.bipush (-4), 2) := by decide +kernel
theorem dX5_change_35 : decode cX5_change 35 = .ok (.ireturn, 1) := by decide +kernel
theorem dX5_change_36 : decode cX5_change 36 = .ok (.aload_n 3, 1) := by decide +kernel
theorem dX5_change_37 : decode cX5_change 37 = .ok (.invokevirtual 102, 3) := by decide +kernel
theorem dX5_change_40 : decode cX5_change 40 = .ok (.istore 4, 2) := by decide +kernel
theorem dX5_change_42 : decode cX5_change 42 = .ok (.iload 4, 2) := by decide +kernel
theorem dX5_change_44 : decode cX5_change 44 = .ok (.iload_n 2, 1) := by decide +kernel
theorem dX5_change_45 : decode cX5_change 45 = .ok (.if_icmp .ne 6, 3) := by decide +kernel
theorem dX5_change_48 : decode cX5_change 48 = .ok (.bipush (-5), 2) := by decide +kernel
theorem dX5_change_50 : decode cX5_change 50 = .ok (.ireturn, 1) := by decide +kernel
theorem dX5_change_51 : decode cX5_change 51 = .ok (.aload_n 0, 1) := by decide +kernel
theorem dX5_change_52 : decode cX5_change 52 = .ok (.getfield 19, 3) := by decide +kernel
theorem dX5_change_55 : decode cX5_change 55 = .ok (.aload_n 0, 1) := by decide +kernel
theorem dX5_change_56 : decode cX5_change 56 = .ok (.getfield 10, 3) := by decide +kernel
theorem dX5_change_59 : decode cX5_change 59 = .ok (.invokevirtual 55, 3) := by decide +kernel
theorem dX5_change_62 : decode cX5_change 62 = .ok (.aload_n 3, 1) := by decide +kernel
theorem dX5_change_63 : decode cX5_change 63 = .ok (.iload_n 2, 1) := by decide +kernel
theorem dX5_change_64 : decode cX5_change 64 = .ok (.invokevirtual 105, 3) := by decide +kernel
theorem dX5_change_67 : decode cX5_change 67 = .ok (.aload_n 0, 1) := by decide +kernel
theorem dX5_change_68 : decode cX5_change 68 = .ok (.getfield 10, 3) := by decide +kernel
theorem dX5_change_71 : decode cX5_change 71 = .ok (.invokevirtual 96, 3) := by decide +kernel
theorem dX5_change_74 : decode cX5_change 74 = .ok (.iload 4, 2) := by decide +kernel
theorem dX5_change_76 : decode cX5_change 76 = .ok (.ireturn, 1) := by decide +kernel
set_option maxRecDepth 20000 in
theorem ggX5_step_X0_record : GoodIn wsX5_step wsX0_record := goodIn_r _ [11, 12, 13, 14, 15, 16, 10, 17, 18, 19, 20, 21, 22, 23, 24, 25, 26, 27, 28, 29, 30, 31, 32, 33, 34, 35, 36, 37, 38, 39, 40, 41, 42, 43, 44, 45, 46, 47, 48, 49, 50, 51, 169, 170, 171, 172, 173, 174, 175, 176, 177, 178, 179, 180, 181, 182, 183, 184, 185, 186, 187, 188, 189, 190] (by decide +kernel) (by decide +kernel)
set_option maxRecDepth 20000 in
theorem gX5_step_X0_record : GoodIn wsX5_step (wsV RX5 55 RX0 yX0_record wsX0_record) := goodIn_app (goodIn_of _ (by decide +kernel)) ggX5_step_X0_record
set_option maxRecDepth 20000 in
theorem ggX5_step_X4_joinsIn : GoodIn wsX5_step wsX4_joinsIn := goodIn_r _ [55, 24, 56, 57, 58, 33, 59, 36, 171, 172, 173, 174, 175, 176, 177, 178, 179, 180, 181, 182, 183, 184, 185] (by decide +kernel) (by decide +kernel)
set_option maxRecDepth 20000 in
theorem gX5_step_X4_joinsIn : GoodIn wsX5_step (wsV RX5 108 RX4 yX4_joinsIn wsX4_joinsIn) := goodIn_app (goodIn_of _ (by decide +kernel)) ggX5_step_X4_joinsIn
set_option maxRecDepth 20000 in
theorem ggX5_step_X4_leap : GoodIn wsX5_step wsX4_leap := goodIn_r _ [63, 24, 64, 65, 5, 66, 28, 27, 67, 68, 69, 21, 70, 23, 56, 57, 58, 33, 59, 36, 71, 72, 73, 74, 38, 75, 76, 77, 78, 39, 40, 79, 80, 81, 82, 83, 84, 85, 86, 87, 37, 88, 89, 90, 91, 92, 93, 94, 95, 96, 97, 98, 99, 100, 101, 102, 103, 35, 104, 105, 106, 107, 108, 109, 110, 111, 112, 26, 113, 4, 6, 114, 115, 116, 117, 118, 119, 120, 121, 122, 123, 124, 125, 126, 127, 128, 129, 130, 131, 132, 133, 134, 135, 136, 45, 137, 48, 49, 47, 51, 138, 139, 140, 141, 142, 143, 144, 145, 146, 147, 148, 149, 150, 151, 152, 153, 29, 154, 155, 156, 157, 158, 159, 160, 161, 41, 171, 172, 173, 174, 175, 176, 177, 178, 179, 180, 181, 182, 183, 184, 185, 186, 187, 188, 189, 190] (by decide +kernel) (by decide +kernel)
set_option maxRecDepth 20000 in
theorem gX5_step_X4_leap : GoodIn wsX5_step (wsV RX5 111 RX4 yX4_leap wsX4_leap) := goodIn_app (goodIn_of _ (by decide +kernel)) ggX5_step_X4_leap
theorem dX5_step_0 : decode cX5_step 0 = .ok (.iload_n 1, 1) := by decide +kernel
theorem dX5_step_1 : decode cX5_step 1 = .ok (.iconst 1, 1) := by decide +kernel
theorem dX5_step_2 : decode cX5_step 2 = .ok (.if_icmp .lt 10, 3) := by decide +kernel
theorem dX5_step_5 : decode cX5_step 5 = .ok (.iload_n 1, 1) := by decide +kernel
theorem dX5_step_6 : decode cX5_step 6 = .ok (.sipush 1000, 3) := by decide +kernel
theorem dX5_step_9 : decode cX5_step 9 = .ok (.if_icmp .le 6, 3) := by decide +kernel
theorem dX5_step_12 : decode cX5_step 12 = .ok (.bipush (-2), 2) := by decide +kernel
theorem dX5_step_14 : decode cX5_step 14 = .ok (.ireturn, 1) := by decide +kernel
theorem dX5_step_15 : decode cX5_step 15 = .ok (.aload_n 0, 1) := by decide +kernel
theorem dX5_step_16 : decode cX5_step 16 = .ok (.getfield 19, 3) := by decide +kernel
theorem dX5_step_19 : decode cX5_step 19 = .ok (.aload_n 0, 1) := by decide +kernel
theorem dX5_step_20 : decode cX5_step 20 = .ok (.getfield 10, 3) := by decide +kernel
theorem dX5_step_23 : decode cX5_step 23 = .ok (.invokevirtual 55, 3) := by decide +kernel
theorem dX5_step_26 : decode cX5_step 26 = .ok (.aload_n 0, 1) := by decide +kernel
theorem dX5_step_27 : decode cX5_step 27 = .ok (.getfield 10, 3) := by decide +kernel
theorem dX5_step_30 : decode cX5_step 30 = .ok (.iconst 2, 1) := by decide +kernel
theorem dX5_step_31 : decode cX5_step 31 = .ok (.invokevirtual 108, 3) := by decide +kernel
theorem dX5_step_34 : decode cX5_step 34 = .ok (.istore_n 2, 1) := by decide +kernel
theorem dX5_step_35 : decode cX5_step 35 = .ok (.iconst 0, 1) := by decide +kernel
theorem dX5_step_36 : decode cX5_step 36 = .ok (.istore_n 3, 1) := by decide +kernel
theorem dX5_step_37 : decode cX5_step 37 = .ok (.iload_n 3, 1) := by decide +kernel
theorem dX5_step_38 : decode cX5_step 38 = .ok (.iload_n 1, 1) := by decide +kernel
theorem dX5_step_39 : decode cX5_step 39 = .ok (.if_icmp .ge 23, 3) := by decide +kernel
theorem dX5_step_42 : decode cX5_step 42 = .ok (.iload_n 3, 1) := by decide +kernel
theorem dX5_step_43 : decode cX5_step 43 = .ok (.iconst 1, 1) := by decide +kernel
theorem dX5_step_44 : decode cX5_step 44 = .ok (.aload_n 0, 1) := by decide +kernel
theorem dX5_step_45 : decode cX5_step 45 = .ok (.getfield 10, 3) := by decide +kernel
theorem dX5_step_48 : decode cX5_step 48 = .ok (.iload_n 1, 1) := by decide +kernel
theorem dX5_step_49 : decode cX5_step 49 = .ok (.iload_n 3, 1) := by decide +kernel
theorem dX5_step_50 : decode cX5_step 50 = .ok (.isub, 1) := by decide +kernel
theorem dX5_step_51 : decode cX5_step 51 = .ok (.invokevirtual 111, 3) := by decide +kernel
theorem dX5_step_54 : decode cX5_step 54 = .ok (.invokestatic 114, 3) := by decide +kernel
theorem dX5_step_57 : decode cX5_step 57 = .ok (.iadd, 1) := by decide +kernel
theorem dX5_step_58 : decode cX5_step 58 = .ok (.istore_n 3, 1) := by decide +kernel
theorem dX5_step_59 : decode cX5_step 59 = .ok (.goto (-22), 3) := by decide +kernel
theorem dX5_step_62 : decode cX5_step 62 = .ok (.aload_n 0, 1) := by decide +kernel
theorem dX5_step_63 : decode cX5_step 63 = .ok (.getfield 10, 3) := by decide +kernel
theorem dX5_step_66 : decode cX5_step 66 = .ok (.iconst 2, 1) := by decide +kernel
theorem dX5_step_67 : decode cX5_step 67 = .ok (.invokevirtual 108, 3) := by decide +kernel
theorem dX5_step_70 : decode cX5_step 70 = .ok (.iload_n 2, 1) := by decide +kernel
theorem dX5_step_71 : decode cX5_step 71 = .ok (.isub, 1) := by decide +kernel
theorem dX5_step_72 : decode cX5_step 72 = .ok (.ireturn, 1) := by decide +kernel
set_option maxRecDepth 20000 in
theorem ggX5_set_X4_allows : GoodIn wsX5_set wsX4_allows := goodIn_r _ [6, 7, 8] (by decide +kernel) (by decide +kernel)
set_option maxRecDepth 20000 in
theorem gX5_set_X4_allows : GoodIn wsX5_set (va_wsS RX5 120 yX4_allows wsX4_allows) := goodIn_app (goodIn_of _ (by decide +kernel)) ggX5_set_X4_allows
set_option maxRecDepth 20000 in
theorem ggX5_set_X4_setting : GoodIn wsX5_set wsX4_setting := goodIn_r _ [12, 13, 153, 154, 155, 156, 157, 158, 159] (by decide +kernel) (by decide +kernel)
set_option maxRecDepth 20000 in
theorem gX5_set_X4_setting : GoodIn wsX5_set (wsV RX5 124 RX4 yX4_setting wsX4_setting) := goodIn_app (goodIn_of _ (by decide +kernel)) ggX5_set_X4_setting
set_option maxRecDepth 20000 in
theorem ggX5_set_X0_record : GoodIn wsX5_set wsX0_record := goodIn_r _ [18, 19, 20, 21, 22, 23, 17, 24, 25, 26, 27, 5, 28, 13, 29, 30, 31, 32, 33, 34, 35, 36, 37, 38, 39, 40, 41, 42, 43, 44, 45, 46, 47, 48, 49, 50, 51, 52, 53, 54, 55, 56, 160, 161, 153, 154, 155, 156, 157, 158, 159, 162, 163, 164, 165, 166, 167, 168, 169, 170, 171, 172, 173, 174] (by decide +kernel) (by decide +kernel)
set_option maxRecDepth 20000 in
theorem gX5_set_X0_record : GoodIn wsX5_set (wsV RX5 55 RX0 yX0_record wsX0_record) := goodIn_app (goodIn_of _ (by decide +kernel)) ggX5_set_X0_record
set_option maxRecDepth 20000 in
theorem ggX5_set_X4_changeSetting : GoodIn wsX5_set wsX4_changeSetting := goodIn_r _ [60, 13, 61, 62, 63, 5, 64, 29, 65, 66, 67, 68, 69, 70, 71, 38, 72, 41, 73, 74, 75, 76, 77, 78, 79, 80, 40, 81, 10, 11, 12, 82, 83, 84, 85, 86, 87, 88, 89, 90, 91, 92, 93, 94, 31, 95, 96, 97, 98, 99, 100, 101, 102, 103, 104, 105, 106, 107, 108, 109, 42, 110, 111, 112, 113, 114, 115, 116, 117, 43, 118, 119, 120, 50, 121, 53, 54, 52, 56, 122, 123, 124, 125, 126, 127, 128, 129, 130, 131, 132, 133, 134, 135, 136, 137, 34, 138, 139, 140, 141, 142, 143, 144, 145, 46, 153, 154, 155, 156, 157, 158, 159, 162, 163, 164, 165, 166, 167, 168, 169, 170, 171, 172, 173, 174] (by decide +kernel) (by decide +kernel)
set_option maxRecDepth 20000 in
theorem gX5_set_X4_changeSetting : GoodIn wsX5_set (wsV RX5 127 RX4 yX4_changeSetting wsX4_changeSetting) := goodIn_app (goodIn_of _ (by decide +kernel)) ggX5_set_X4_changeSetting
theorem dX5_set_0 : decode cX5_set 0 = .ok (.iload_n 1, 1) := by decide +kernel
theorem dX5_set_1 : decode cX5_set 1 = .ok (.iload_n 2, 1) := by decide +kernel
theorem dX5_set_2 : decode cX5_set 2 = .ok (.invokestatic 120, 3) := by decide +kernel
theorem dX5_set_5 : decode cX5_set 5 = .ok (.ifCond .ne 6, 3) := by decide +kernel
theorem dX5_set_8 : decode cX5_set 8 = .ok (.bipush (-2), 2) := by decide +kernel
theorem dX5_set_10 : decode cX5_set 10 = .ok (.ireturn, 1) := by decide +kernel
theorem dX5_set_11 : decode cX5_set 11 = .ok (.aload_n 0, 1) := by decide +kernel
theorem dX5_set_12 : decode cX5_set 12 = .ok (.getfield 10, 3) := by decide +kernel
theorem dX5_set_15 : decode cX5_set 15 = .ok (.iload_n 1, 1) := by decide +kernel
theorem dX5_set_16 : decode cX5_set 16 = .ok (.invokevirtual 124, 3) := by decide +kernel
theorem dX5_set_19 : decode cX5_set 19 = .ok (.istore_n 3, 1) := by decide +kernel
theorem dX5_set_20 : decode cX5_set 20 = .ok (.iload_n 3, 1) := by decide +kernel
theorem dX5_set_21 : decode cX5_set 21 = .ok (.iload_n 2, 1) := by decide +kernel
theorem dX5_set_22 : decode cX5_set 22 = .ok (.if_icmp .ne 6, 3) := by decide +kernel
theorem dX5_set_25 : decode cX5_set 25 = .ok (.bipush (-5), 2) := by decide +kernel
theorem dX5_set_27 : decode cX5_set 27 = .ok (.ireturn, 1) := by decide +kernel
theorem dX5_set_28 : decode cX5_set 28 = .ok (.aload_n 0, 1) := by decide +kernel
theorem dX5_set_29 : decode cX5_set 29 = .ok (.getfield 19, 3) := by decide +kernel
theorem dX5_set_32 : decode cX5_set 32 = .ok (.aload_n 0, 1) := by decide +kernel
theorem dX5_set_33 : decode cX5_set 33 = .ok (.getfield 10, 3) := by decide +kernel
theorem dX5_set_36 : decode cX5_set 36 = .ok (.invokevirtual 55, 3) := by decide +kernel
theorem dX5_set_39 : decode cX5_set 39 = .ok (.aload_n 0, 1) := by decide +kernel
theorem dX5_set_40 : decode cX5_set 40 = .ok (.getfield 10, 3) := by decide +kernel
theorem dX5_set_43 : decode cX5_set 43 = .ok (.iload_n 1, 1) := by decide +kernel
theorem dX5_set_44 : decode cX5_set 44 = .ok (.iload_n 2, 1) := by decide +kernel
theorem dX5_set_45 : decode cX5_set 45 = .ok (.invokevirtual 127, 3) := by decide +kernel
theorem dX5_set_48 : decode cX5_set 48 = .ok (.iload_n 3, 1) := by decide +kernel
theorem dX5_set_49 : decode cX5_set 49 = .ok (.ireturn, 1) := by decide +kernel
set_option maxRecDepth 20000 in
theorem ggX5_type_X2_append : GoodIn wsX5_type wsX2_append := goodIn_r _ [6, 7, 8, 20, 21, 22, 23, 24, 25, 26, 27, 28, 29] (by decide +kernel) (by decide +kernel)
set_option maxRecDepth 20000 in
theorem gX5_type_X2_append : GoodIn wsX5_type (wsV RX5 131 RX2 yX2_append wsX2_append) := goodIn_app (goodIn_of _ (by decide +kernel)) ggX5_type_X2_append
set_option maxRecDepth 20000 in
theorem ggX5_type_X2_length : GoodIn wsX5_type wsX2_length := goodIn_r _ [12, 7, 20, 21, 22, 23, 24, 25, 26, 27, 28, 29] (by decide +kernel) (by decide +kernel)
set_option maxRecDepth 20000 in
theorem gX5_type_X2_length : GoodIn wsX5_type (wsV RX5 135 RX2 yX2_length wsX2_length) := goodIn_app (goodIn_of _ (by decide +kernel)) ggX5_type_X2_length
theorem dX5_type_0 : decode cX5_type 0 = .ok (.aload_n 0, 1) := by decide +kernel
theorem dX5_type_1 : decode cX5_type 1 = .ok (.getfield 26, 3) := by decide +kernel
theorem dX5_type_4 : decode cX5_type 4 = .ok (.iload_n 1, 1) := by decide +kernel
theorem dX5_type_5 : decode cX5_type 5 = .ok (.invokevirtual 131, 3) := by decide +kernel
theorem dX5_type_8 : decode cX5_type 8 = .ok (.ifCond .eq 13, 3) := by decide +kernel
theorem dX5_type_11 : decode cX5_type 11 = .ok (.aload_n 0, 1) := by decide +kernel
theorem dX5_type_12 : decode cX5_type 12 = .ok (.getfield 26, 3) := by decide +kernel
theorem dX5_type_15 : decode cX5_type 15 = .ok (.invokevirtual 135, 3) := by decide +kernel
theorem dX5_type_18 : decode cX5_type 18 = .ok (.goto 5, 3) := by decide +kernel
theorem dX5_type_21 : decode cX5_type 21 = .ok (.bipush (-3), 2) := by decide +kernel
theorem dX5_type_23 : decode cX5_type 23 = .ok (.ireturn, 1) := by decide +kernel
set_option maxRecDepth 20000 in
theorem ggX5_clearText_X2_length : GoodIn wsX5_clearText wsX2_length := goodIn_r _ [6, 7, 19, 20, 21, 22, 23, 24, 25, 26, 27, 28] (by decide +kernel) (by decide +kernel)
set_option maxRecDepth 20000 in
theorem gX5_clearText_X2_length : GoodIn wsX5_clearText (wsV RX5 135 RX2 yX2_length wsX2_length) := goodIn_app (goodIn_of _ (by decide +kernel)) ggX5_clearText_X2_length
set_option maxRecDepth 20000 in
theorem ggX5_clearText_X2_clear : GoodIn wsX5_clearText wsX2_clear := goodIn_r _ [11, 7, 19, 20, 21, 22, 23, 24, 25, 26, 27, 28] (by decide +kernel) (by decide +kernel)
set_option maxRecDepth 20000 in
theorem gX5_clearText_X2_clear : GoodIn wsX5_clearText (wsV RX5 138 RX2 yX2_clear wsX2_clear) := goodIn_app (goodIn_of _ (by decide +kernel)) ggX5_clearText_X2_clear
theorem dX5_clearText_0 : decode cX5_clearText 0 = .ok (.aload_n 0, 1) := by decide +kernel
theorem dX5_clearText_1 : decode cX5_clearText 1 = .ok (.getfield 26, 3) := by decide +kernel
theorem dX5_clearText_4 : decode cX5_clearText 4 = .ok (.invokevirtual 135, 3) := by decide +kernel
theorem dX5_clearText_7 : decode cX5_clearText 7 = .ok (.istore_n 1, 1) := by decide +kernel
theorem dX5_clearText_8 : decode cX5_clearText 8 = .ok (.aload_n 0, 1) := by decide +kernel
theorem dX5_clearText_9 : decode cX5_clearText 9 = .ok (.getfield 26, 3) := by decide +kernel
theorem dX5_clearText_12 : decode cX5_clearText 12 = .ok (.invokevirtual 138, 3) := by decide +kernel
theorem dX5_clearText_15 : decode cX5_clearText 15 = .ok (.iload_n 1, 1) := by decide +kernel
theorem dX5_clearText_16 : decode cX5_clearText 16 = .ok (.ireturn, 1) := by decide +kernel
set_option maxRecDepth 20000 in
theorem ggX5_join_X4_find : GoodIn wsX5_join wsX4_find := goodIn_r _ [6, 7, 8, 42, 43, 44, 45, 46, 47, 48] (by decide +kernel) (by decide +kernel)
set_option maxRecDepth 20000 in
theorem gX5_join_X4_find : GoodIn wsX5_join (wsV RX5 79 RX4 yX4_find wsX4_find) := goodIn_app (goodIn_of _ (by decide +kernel)) ggX5_join_X4_find
set_option maxRecDepth 20000 in
theorem ggX5_join_X1_canTell : GoodIn wsX5_join wsX1_canTell := goodIn_r _ [12] (by decide +kernel) (by decide +kernel)
set_option maxRecDepth 20000 in
theorem gX5_join_X1_canTell : GoodIn wsX5_join (va_wsS RX5 154 yX1_canTell wsX1_canTell) := goodIn_app (goodIn_of _ (by decide +kernel)) ggX5_join_X1_canTell
set_option maxRecDepth 20000 in
theorem ggX5_join_X1_tell : GoodIn wsX5_join wsX1_tell := goodIn_r _ [16, 17, 18, 19, 20, 21, 22, 23, 24, 25, 26, 11, 27, 28, 29, 30, 31, 32, 33, 34, 49, 50, 51, 52, 53, 54, 55, 56, 57, 58, 59, 60, 61] (by decide +kernel) (by decide +kernel)
set_option maxRecDepth 20000 in
theorem gX5_join_X1_tell : GoodIn wsX5_join (wsV RX5 157 RX1 yX1_tell wsX1_tell) := goodIn_app (goodIn_of _ (by decide +kernel)) ggX5_join_X1_tell
theorem dX5_join_0 : decode cX5_join 0 = .ok (.aload_n 0, 1) := by decide +kernel
theorem dX5_join_1 : decode cX5_join 1 = .ok (.getfield 10, 3) := by decide +kernel
theorem dX5_join_4 : decode cX5_join 4 = .ok (.iload_n 1, 1) := by decide +kernel
theorem dX5_join_5 : decode cX5_join 5 = .ok (.invokevirtual 79, 3) := by decide +kernel
theorem dX5_join_8 : decode cX5_join 8 = .ok (.astore_n 3, 1) := by decide +kernel
theorem dX5_join_9 : decode cX5_join 9 = .ok (.aload_n 3, 1) := by decide +kernel
theorem dX5_join_10 : decode cX5_join 10 = .ok (.ifnonnull 5, 3) := by decide +kernel
theorem dX5_join_13 : decode cX5_join 13 = .ok (.iconst (-1), 1) := by decide +kernel
theorem dX5_join_14 : decode cX5_join 14 = .ok (.ireturn, 1) := by decide +kernel
theorem dX5_join_15 : decode cX5_join 15 = .ok (.iload_n 2, 1) := by decide +kernel
theorem dX5_join_16 : decode cX5_join 16 = .ok (.invokestatic 154, 3) := by decide +kernel
theorem dX5_join_19 : decode cX5_join 19 = .ok (.ifCond .eq 11, 3) := by decide +kernel
theorem dX5_join_22 : decode cX5_join 22 = .ok (.aload_n 3, 1) := by decide +kernel
theorem dX5_join_23 : decode cX5_join 23 = .ok (.iload_n 2, 1) := by decide +kernel
theorem dX5_join_24 : decode cX5_join 24 = .ok (.invokevirtual 157, 3) := by decide +kernel
theorem dX5_join_27 : decode cX5_join 27 = .ok (.goto 5, 3) := by decide +kernel
theorem dX5_join_30 : decode cX5_join 30 = .ok (.bipush (-2), 2) := by decide +kernel
theorem dX5_join_32 : decode cX5_join 32 = .ok (.ireturn, 1) := by decide +kernel
set_option maxRecDepth 20000 in
theorem ggX5_why_X4_find : GoodIn wsX5_why wsX4_find := goodIn_r _ [6, 7, 8, 49, 50, 51, 52, 53, 54, 55] (by decide +kernel) (by decide +kernel)
set_option maxRecDepth 20000 in
theorem gX5_why_X4_find : GoodIn wsX5_why (wsV RX5 79 RX4 yX4_find wsX4_find) := goodIn_app (goodIn_of _ (by decide +kernel)) ggX5_why_X4_find
set_option maxRecDepth 20000 in
theorem ggX5_why_X4_hindrance : GoodIn wsX5_why wsX4_hindrance := goodIn_r _ [12, 13, 14, 15, 16, 17, 18, 19, 20, 21, 22, 23, 24, 25, 26, 5, 27, 28, 29, 30, 31, 32, 8, 33, 34, 35, 36, 37, 38, 39, 40, 41, 56, 57, 58, 59, 60, 61, 62, 63, 64, 65, 66, 67, 68, 49, 50, 51, 52, 53, 54, 55] (by decide +kernel) (by decide +kernel)
set_option maxRecDepth 20000 in
theorem gX5_why_X4_hindrance : GoodIn wsX5_why (wsV RX5 160 RX4 yX4_hindrance wsX4_hindrance) := goodIn_app (goodIn_of _ (by decide +kernel)) ggX5_why_X4_hindrance
theorem dX5_why_0 : decode cX5_why 0 = .ok (.aload_n 0, 1) := by decide +kernel
theorem dX5_why_1 : decode cX5_why 1 = .ok (.getfield 10, 3) := by decide +kernel
theorem dX5_why_4 : decode cX5_why 4 = .ok (.iload_n 1, 1) := by decide +kernel
theorem dX5_why_5 : decode cX5_why 5 = .ok (.invokevirtual 79, 3) := by decide +kernel
theorem dX5_why_8 : decode cX5_why 8 = .ok (.astore_n 2, 1) := by decide +kernel
theorem dX5_why_9 : decode cX5_why 9 = .ok (.aload_n 2, 1) := by decide +kernel
theorem dX5_why_10 : decode cX5_why 10 = .ok (.ifnonnull 7, 3) := by decide +kernel
theorem dX5_why_13 : decode cX5_why 13 = .ok (.iconst (-1), 1) := by decide +kernel
theorem dX5_why_14 : decode cX5_why 14 = .ok (.goto 11, 3) := by decide +kernel
theorem dX5_why_17 : decode cX5_why 17 = .ok (.aload_n 0, 1) := by decide +kernel
theorem dX5_why_18 : decode cX5_why 18 = .ok (.getfield 10, 3) := by decide +kernel
theorem dX5_why_21 : decode cX5_why 21 = .ok (.aload_n 2, 1) := by decide +kernel
theorem dX5_why_22 : decode cX5_why 22 = .ok (.invokevirtual 160, 3) := by decide +kernel
theorem dX5_why_25 : decode cX5_why 25 = .ok (.ireturn, 1) := by decide +kernel
set_option maxRecDepth 20000 in
theorem ggX5_queue_X4_atRank : GoodIn wsX5_queue wsX4_atRank := goodIn_r _ [6, 7, 8, 9, 10, 11, 12, 13, 14, 15, 16, 5, 17, 18, 19, 20, 21, 22, 23, 24, 25, 26, 27, 28, 29, 30, 31, 32, 33, 34, 35, 36, 45, 46, 47, 48, 49, 50, 51, 52, 53, 54, 55, 56, 57, 58, 59, 60, 61, 62, 63, 64] (by decide +kernel) (by decide +kernel)
set_option maxRecDepth 20000 in
theorem gX5_queue_X4_atRank : GoodIn wsX5_queue (wsV RX5 164 RX4 yX4_atRank wsX4_atRank) := goodIn_app (goodIn_of _ (by decide +kernel)) ggX5_queue_X4_atRank
set_option maxRecDepth 20000 in
theorem ggX5_queue_X1_number : GoodIn wsX5_queue wsX1_number := goodIn_r _ [35, 36, 52, 53, 54, 55, 56, 57, 58, 59] (by decide +kernel) (by decide +kernel)
set_option maxRecDepth 20000 in
theorem gX5_queue_X1_number : GoodIn wsX5_queue (wsV RX5 167 RX1 yX1_number wsX1_number) := goodIn_app (goodIn_of _ (by decide +kernel)) ggX5_queue_X1_number
theorem dX5_queue_0 : decode cX5_queue 0 = .ok (.iload_n 1, 1) := by decide +kernel
theorem dX5_queue_1 : decode cX5_queue 1 = .ok (.ifCond .ge 6, 3) := by decide +kernel
theorem dX5_queue_4 : decode cX5_queue 4 = .ok (.bipush (-2), 2) := by decide +kernel
theorem dX5_queue_6 : decode cX5_queue 6 = .ok (.ireturn, 1) := by decide +kernel
theorem dX5_queue_7 : decode cX5_queue 7 = .ok (.aload_n 0, 1) := by decide +kernel
theorem dX5_queue_8 : decode cX5_queue 8 = .ok (.getfield 10, 3) := by decide +kernel
theorem dX5_queue_11 : decode cX5_queue 11 = .ok (.iload_n 1, 1) := by decide +kernel
theorem dX5_queue_12 : decode cX5_queue 12 = .ok (.invokevirtual 164, 3) := by decide +kernel
theorem dX5_queue_15 : decode cX5_queue 15 = .ok (.astore_n 2, 1) := by decide +kernel
theorem dX5_queue_16 : decode cX5_queue 16 = .ok (.aload_n 2, 1) := by decide +kernel
theorem dX5_queue_17 : decode cX5_queue 17 = .ok (.ifnonnull 8, 3) := by decide +kernel
theorem dX5_queue_20 : decode cX5_queue 20 = .ok (.bipush (-5), 2) := by decide +kernel
theorem dX5_queue_22 : decode cX5_queue 22 = .ok (.goto 7, 3) := by decide +kernel
theorem dX5_queue_25 : decode cX5_queue 25 = .ok (.aload_n 2, 1) := by decide +kernel
theorem dX5_queue_26 : decode cX5_queue 26 = .ok (.invokevirtual 167, 3) := by decide +kernel
theorem dX5_queue_29 : decode cX5_queue 29 = .ok (.ireturn, 1) := by decide +kernel
set_option maxRecDepth 20000 in
theorem ggX5_work_X3_fits : GoodIn wsX5_work wsX3_fits := goodIn_r _ [5, 6, 7, 4, 8, 9, 10, 11] (by decide +kernel) (by decide +kernel)
set_option maxRecDepth 20000 in
theorem gX5_work_X3_fits : GoodIn wsX5_work (va_wsS RX5 47 yX3_fits wsX3_fits) := goodIn_app (goodIn_of _ (by decide +kernel)) ggX5_work_X3_fits
set_option maxRecDepth 20000 in
theorem ggX5_work_X5_isPages : GoodIn wsX5_work wsX5_isPages := goodIn_r _ [15] (by decide +kernel) (by decide +kernel)
set_option maxRecDepth 20000 in
theorem gX5_work_X5_isPages : GoodIn wsX5_work (va_wsS RX5 170 yX5_isPages wsX5_isPages) := goodIn_app (goodIn_of _ (by decide +kernel)) ggX5_work_X5_isPages
set_option maxRecDepth 20000 in
theorem ggX5_work_X3_make : GoodIn wsX5_work wsX3_make := goodIn_r _ [19, 20, 21, 22, 23, 24, 4, 25, 26, 27, 28, 29, 30, 31, 32, 33, 34, 35, 36, 37, 38, 39, 40, 41, 42, 43, 55, 56, 57, 58, 59] (by decide +kernel) (by decide +kernel)
set_option maxRecDepth 20000 in
theorem gX5_work_X3_make : GoodIn wsX5_work (wsV RX5 173 RX3 yX3_make wsX3_make) := goodIn_app (goodIn_of _ (by decide +kernel)) ggX5_work_X3_make
set_option maxRecDepth 20000 in
theorem ggX5_work_X3_workWith : GoodIn wsX5_work wsX3_workWith := goodIn_r _ [47, 20, 21, 26, 32, 55, 56, 57, 58, 59] (by decide +kernel) (by decide +kernel)
set_option maxRecDepth 20000 in
theorem gX5_work_X3_workWith : GoodIn wsX5_work (wsV RX5 181 RX3 yX3_workWith wsX3_workWith) := goodIn_app (goodIn_of _ (by decide +kernel)) ggX5_work_X3_workWith
theorem dX5_work_0 : decode cX5_work 0 = .ok (.iload_n 1, 1) := by decide +kernel
theorem dX5_work_1 : decode cX5_work 1 = .ok (.iload_n 2, 1) := by decide +kernel
theorem dX5_work_2 : decode cX5_work 2 = .ok (.iload_n 3, 1) := by decide +kernel
theorem dX5_work_3 : decode cX5_work 3 = .ok (.invokestatic 47, 3) := by decide +kernel
theorem dX5_work_6 : decode cX5_work 6 = .ok (.ifCond .eq 11, 3) := by decide +kernel
theorem dX5_work_9 : decode cX5_work 9 = .ok (.iload 4, 2) := by decide +kernel
theorem dX5_work_11 : decode cX5_work 11 = .ok (.invokestatic 170, 3) := by decide +kernel
theorem dX5_work_14 : decode cX5_work 14 = .ok (.ifCond .ne 6, 3) := by decide +kernel
theorem dX5_work_17 : decode cX5_work 17 = .ok (.bipush (-2), 2) := by decide +kernel
theorem dX5_work_19 : decode cX5_work 19 = .ok (.ireturn, 1) := by decide +kernel
theorem dX5_work_20 : decode cX5_work 20 = .ok (.aload_n 0, 1) := by decide +kernel
theorem dX5_work_21 : decode cX5_work 21 = .ok (.getfield 39, 3) := by decide +kernel
theorem dX5_work_24 : decode cX5_work 24 = .ok (.iload_n 1, 1) := by decide +kernel
theorem dX5_work_25 : decode cX5_work 25 = .ok (.iload_n 2, 1) := by decide +kernel
theorem dX5_work_26 : decode cX5_work 26 = .ok (.iload_n 3, 1) := by decide +kernel
theorem dX5_work_27 : decode cX5_work 27 = .ok (.invokevirtual 173, 3) := by decide +kernel
theorem dX5_work_30 : decode cX5_work 30 = .ok (.iload 4, 2) := by decide +kernel
theorem dX5_work_32 : decode cX5_work 32 = .ok (.aload_n 0, 1) := by decide +kernel
theorem dX5_work_33 : decode cX5_work 33 = .ok (.getfield 39, 3) := by decide +kernel
theorem dX5_work_36 : decode cX5_work 36 = .ok (.getfield 177, 3) := by decide +kernel
theorem dX5_work_39 : decode cX5_work 39 = .ok (.if_icmp .ge 8, 3) := by decide +kernel
theorem dX5_work_42 : decode cX5_work 42 = .ok (.bipush (-5), 2) := by decide +kernel
theorem dX5_work_44 : decode cX5_work 44 = .ok (.goto 12, 3) := by decide +kernel
theorem dX5_work_47 : decode cX5_work 47 = .ok (.aload_n 0, 1) := by decide +kernel
theorem dX5_work_48 : decode cX5_work 48 = .ok (.getfield 39, 3) := by decide +kernel
theorem dX5_work_51 : decode cX5_work 51 = .ok (.iload 4, 2) := by decide +kernel
theorem dX5_work_53 : decode cX5_work 53 = .ok (.invokevirtual 181, 3) := by decide +kernel
theorem dX5_work_56 : decode cX5_work 56 = .ok (.ireturn, 1) := by decide +kernel
set_option maxRecDepth 20000 in
theorem ggX5_bestWay_X3_fits : GoodIn wsX5_bestWay wsX3_fits := goodIn_r _ [5, 6, 7, 4, 8, 9, 10, 11] (by decide +kernel) (by decide +kernel)
set_option maxRecDepth 20000 in
theorem gX5_bestWay_X3_fits : GoodIn wsX5_bestWay (va_wsS RX5 47 yX3_fits wsX3_fits) := goodIn_app (goodIn_of _ (by decide +kernel)) ggX5_bestWay_X3_fits
set_option maxRecDepth 20000 in
theorem ggX5_bestWay_X5_isPages : GoodIn wsX5_bestWay wsX5_isPages := goodIn_r _ [15] (by decide +kernel) (by decide +kernel)
set_option maxRecDepth 20000 in
theorem gX5_bestWay_X5_isPages : GoodIn wsX5_bestWay (va_wsS RX5 170 yX5_isPages wsX5_isPages) := goodIn_app (goodIn_of _ (by decide +kernel)) ggX5_bestWay_X5_isPages
set_option maxRecDepth 20000 in
theorem ggX5_bestWay_X3_make : GoodIn wsX5_bestWay wsX3_make := goodIn_r _ [19, 20, 21, 22, 23, 24, 4, 25, 26, 27, 28, 29, 30, 31, 32, 33, 34, 35, 36, 37, 38, 39, 40, 41, 42, 43, 55, 56, 57, 58, 59] (by decide +kernel) (by decide +kernel)
set_option maxRecDepth 20000 in
theorem gX5_bestWay_X3_make : GoodIn wsX5_bestWay (wsV RX5 173 RX3 yX3_make wsX3_make) := goodIn_app (goodIn_of _ (by decide +kernel)) ggX5_bestWay_X3_make
set_option maxRecDepth 20000 in
theorem ggX5_bestWay_X3_workWith : GoodIn wsX5_bestWay wsX3_workWith := goodIn_r _ [47, 20, 21, 26, 32, 55, 56, 57, 58, 59] (by decide +kernel) (by decide +kernel)
set_option maxRecDepth 20000 in
theorem gX5_bestWay_X3_workWith : GoodIn wsX5_bestWay (wsV RX5 181 RX3 yX3_workWith wsX3_workWith) := goodIn_app (goodIn_of _ (by decide +kernel)) ggX5_bestWay_X3_workWith
theorem dX5_bestWay_0 : decode cX5_bestWay 0 = .ok (.iconst 0, 1) := by decide +kernel
theorem dX5_bestWay_1 : decode cX5_bestWay 1 = .ok (.iload_n 1, 1) := by decide +kernel
theorem dX5_bestWay_2 : decode cX5_bestWay 2 = .ok (.iload_n 2, 1) := by decide +kernel
theorem dX5_bestWay_3 : decode cX5_bestWay 3 = .ok (.invokestatic 47, 3) := by decide +kernel
theorem dX5_bestWay_6 : decode cX5_bestWay 6 = .ok (.ifCond .eq 10, 3) := by decide +kernel
theorem dX5_bestWay_9 : decode cX5_bestWay 9 = .ok (.iload_n 3, 1) := by decide +kernel
theorem dX5_bestWay_10 : decode cX5_bestWay 10 = .ok (.invokestatic 170, 3) := by decide +kernel
theorem dX5_bestWay_13 : decode cX5_bestWay 13 = .ok (.ifCond .ne 6, 3) := by decide +kernel
theorem dX5_bestWay_16 : decode cX5_bestWay 16 = .ok (.bipush (-2), 2) := by decide +kernel
theorem dX5_bestWay_18 : decode cX5_bestWay 18 = .ok (.ireturn, 1) := by decide +kernel
theorem dX5_bestWay_19 : decode cX5_bestWay 19 = .ok (.aload_n 0, 1) := by decide +kernel
theorem dX5_bestWay_20 : decode cX5_bestWay 20 = .ok (.getfield 39, 3) := by decide +kernel
theorem dX5_bestWay_23 : decode cX5_bestWay 23 = .ok (.iconst 0, 1) := by decide +kernel
theorem dX5_bestWay_24 : decode cX5_bestWay 24 = .ok (.iload_n 1, 1) := by decide +kernel
theorem dX5_bestWay_25 : decode cX5_bestWay 25 = .ok (.iload_n 2, 1) := by decide +kernel
theorem dX5_bestWay_26 : decode cX5_bestWay 26 = .ok (.invokevirtual 173, 3) := by decide +kernel
theorem dX5_bestWay_29 : decode cX5_bestWay 29 = .ok (.iconst 0, 1) := by decide +kernel
theorem dX5_bestWay_30 : decode cX5_bestWay 30 = .ok (.istore 4, 2) := by decide +kernel
theorem dX5_bestWay_32 : decode cX5_bestWay 32 = .ok (.aload_n 0, 1) := by decide +kernel
theorem dX5_bestWay_33 : decode cX5_bestWay 33 = .ok (.getfield 39, 3) := by decide +kernel
theorem dX5_bestWay_36 : decode cX5_bestWay 36 = .ok (.iload_n 3, 1) := by decide +kernel
theorem dX5_bestWay_37 : decode cX5_bestWay 37 = .ok (.invokevirtual 181, 3) := by decide +kernel
theorem dX5_bestWay_40 : decode cX5_bestWay 40 = .ok (.istore 5, 2) := by decide +kernel
theorem dX5_bestWay_42 : decode cX5_bestWay 42 = .ok (.iconst 1, 1) := by decide +kernel
theorem dX5_bestWay_43 : decode cX5_bestWay 43 = .ok (.istore 6, 2) := by decide +kernel
theorem dX5_bestWay_45 : decode cX5_bestWay 45 = .ok (.iload 6, 2) := by decide +kernel
theorem dX5_bestWay_47 : decode cX5_bestWay 47 = .ok (.iconst 2, 1) := by decide +kernel
theorem dX5_bestWay_48 : decode cX5_bestWay 48 = .ok (.if_icmp .gt 58, 3) := by decide +kernel
theorem dX5_bestWay_51 : decode cX5_bestWay 51 = .ok (.aload_n 0, 1) := by decide +kernel
theorem dX5_bestWay_52 : decode cX5_bestWay 52 = .ok (.getfield 39, 3) := by decide +kernel
theorem dX5_bestWay_55 : decode cX5_bestWay 55 = .ok (.iload 6, 2) := by decide +kernel
theorem dX5_bestWay_57 : decode cX5_bestWay 57 = .ok (.iload_n 1, 1) := by decide +kernel
theorem dX5_bestWay_58 : decode cX5_bestWay 58 = .ok (.iload_n 2, 1) := by decide +kernel
theorem dX5_bestWay_59 : decode cX5_bestWay 59 = .ok (.invokevirtual 173, 3) := by decide +kernel
theorem dX5_bestWay_62 : decode cX5_bestWay 62 = .ok (.iload_n 3, 1) := by decide +kernel
theorem dX5_bestWay_63 : decode cX5_bestWay 63 = .ok (.aload_n 0, 1) := by decide +kernel
theorem dX5_bestWay_64 : decode cX5_bestWay 64 = .ok (.getfield 39, 3) := by decide +kernel
theorem dX5_bestWay_67 : decode cX5_bestWay 67 = .ok (.getfield 177, 3) := by decide +kernel
theorem dX5_bestWay_70 : decode cX5_bestWay 70 = .ok (.if_icmp .lt 30, 3) := by decide +kernel
theorem dX5_bestWay_73 : decode cX5_bestWay 73 = .ok (.aload_n 0, 1) := by decide +kernel
theorem dX5_bestWay_74 : decode cX5_bestWay 74 = .ok (.getfield 39, 3) := by decide +kernel
theorem dX5_bestWay_77 : decode cX5_bestWay 77 = .ok (.iload_n 3, 1) := by decide +kernel
theorem dX5_bestWay_78 : decode cX5_bestWay 78 = .ok (.invokevirtual 181, 3) := by decide +kernel
theorem dX5_bestWay_81 : decode cX5_bestWay 81 = .ok (.iload 5, 2) := by decide +kernel
theorem dX5_bestWay_83 : decode cX5_bestWay 83 = .ok (.if_icmp .ge 17, 3) := by decide +kernel
theorem dX5_bestWay_86 : decode cX5_bestWay 86 = .ok (.iload 6, 2) := by decide +kernel
theorem dX5_bestWay_88 : decode cX5_bestWay 88 = .ok (.istore 4, 2) := by decide +kernel
theorem dX5_bestWay_90 : decode cX5_bestWay 90 = .ok (.aload_n 0, 1) := by decide +kernel
theorem dX5_bestWay_91 : decode cX5_bestWay 91 = .ok (.getfield 39, 3) := by decide +kernel
theorem dX5_bestWay_94 : decode cX5_bestWay 94 = .ok (.iload_n 3, 1) := by decide +kernel
theorem dX5_bestWay_95 : decode cX5_bestWay 95 = .ok (.invokevirtual 181, 3) := by decide +kernel
theorem dX5_bestWay_98 : decode cX5_bestWay 98 = .ok (.istore 5, 2) := by decide +kernel
theorem dX5_bestWay_100 : decode cX5_bestWay 100 = .ok (.iinc 6 1, 3) := by decide +kernel
theorem dX5_bestWay_103 : decode cX5_bestWay 103 = .ok (.goto (-58), 3) := by decide +kernel
theorem dX5_bestWay_106 : decode cX5_bestWay 106 = .ok (.iload 4, 2) := by decide +kernel
theorem dX5_bestWay_108 : decode cX5_bestWay 108 = .ok (.ireturn, 1) := by decide +kernel
set_option maxRecDepth 20000 in
theorem ggX5_doneIn_X4_copyFrom : GoodIn wsX5_doneIn wsX4_copyFrom := goodIn_r _ [11, 12, 13, 14, 15, 16, 17, 18, 19, 20, 21, 22, 23, 24, 25, 26, 27, 28, 29, 30, 31, 32, 33, 34, 35, 36, 37, 38, 39, 40, 159, 160, 161, 162, 163, 164, 165, 166, 167, 168, 169, 170, 171, 172, 173, 174, 175, 176, 177, 178] (by decide +kernel) (by decide +kernel)
set_option maxRecDepth 20000 in
theorem gX5_doneIn_X4_copyFrom : GoodIn wsX5_doneIn (wsV RX5 148 RX4 yX4_copyFrom wsX4_copyFrom) := goodIn_app (goodIn_of _ (by decide +kernel)) ggX5_doneIn_X4_copyFrom
set_option maxRecDepth 20000 in
theorem ggX5_doneIn_X4_find : GoodIn wsX5_doneIn wsX4_find := goodIn_r _ [44, 14, 13, 159, 160, 161, 162, 163, 164, 165] (by decide +kernel) (by decide +kernel)
set_option maxRecDepth 20000 in
theorem gX5_doneIn_X4_find : GoodIn wsX5_doneIn (wsV RX5 79 RX4 yX4_find wsX4_find) := goodIn_app (goodIn_of _ (by decide +kernel)) ggX5_doneIn_X4_find
set_option maxRecDepth 20000 in
theorem ggX5_doneIn_X1_isIn : GoodIn wsX5_doneIn wsX1_isIn := goodIn_r _ [48, 25, 166, 167, 168, 169, 170, 171, 172, 173] (by decide +kernel) (by decide +kernel)
set_option maxRecDepth 20000 in
theorem gX5_doneIn_X1_isIn : GoodIn wsX5_doneIn (wsV RX5 85 RX1 yX1_isIn wsX1_isIn) := goodIn_app (goodIn_of _ (by decide +kernel)) ggX5_doneIn_X1_isIn
set_option maxRecDepth 20000 in
theorem ggX5_doneIn_X4_leap : GoodIn wsX5_doneIn wsX4_leap := goodIn_r _ [52, 13, 53, 54, 5, 55, 17, 16, 56, 57, 58, 10, 59, 12, 60, 46, 47, 22, 48, 25, 61, 62, 63, 64, 27, 65, 66, 67, 68, 28, 29, 69, 70, 71, 72, 73, 74, 75, 76, 77, 26, 78, 79, 80, 81, 82, 83, 84, 85, 86, 87, 88, 89, 90, 91, 92, 93, 24, 94, 95, 96, 97, 98, 99, 100, 101, 102, 15, 103, 4, 6, 104, 105, 106, 107, 108, 109, 110, 111, 112, 113, 114, 115, 116, 117, 118, 119, 120, 121, 122, 123, 124, 125, 126, 34, 127, 37, 38, 36, 40, 128, 129, 130, 131, 132, 133, 134, 135, 136, 137, 138, 139, 140, 141, 142, 143, 18, 144, 145, 146, 147, 148, 149, 150, 151, 30, 159, 160, 161, 162, 163, 164, 165, 166, 167, 168, 169, 170, 171, 172, 173, 174, 175, 176, 177, 178] (by decide +kernel) (by decide +kernel)
set_option maxRecDepth 20000 in
theorem gX5_doneIn_X4_leap : GoodIn wsX5_doneIn (wsV RX5 111 RX4 yX4_leap wsX4_leap) := goodIn_app (goodIn_of _ (by decide +kernel)) ggX5_doneIn_X4_leap
theorem dX5_doneIn_0 : decode cX5_doneIn 0 = .ok (.aload_n 0, 1) := by decide +kernel
theorem dX5_doneIn_1 : decode cX5_doneIn 1 = .ok (.getfield 33, 3) := by decide +kernel
theorem dX5_doneIn_4 : decode cX5_doneIn 4 = .ok (.aload_n 0, 1) := by decide +kernel
theorem dX5_doneIn_5 : decode cX5_doneIn 5 = .ok (.getfield 10, 3) := by decide +kernel
theorem dX5_doneIn_8 : decode cX5_doneIn 8 = .ok (.invokevirtual 148, 3) := by decide +kernel
theorem dX5_doneIn_11 : decode cX5_doneIn 11 = .ok (.aload_n 0, 1) := by decide +kernel
theorem dX5_doneIn_12 : decode cX5_doneIn 12 = .ok (.getfield 33, 3) := by decide +kernel
theorem dX5_doneIn_15 : decode cX5_doneIn 15 = .ok (.iload_n 1, 1) := by decide +kernel
theorem dX5_doneIn_16 : decode cX5_doneIn 16 = .ok (.invokevirtual 79, 3) := by decide +kernel
theorem dX5_doneIn_19 : decode cX5_doneIn 19 = .ok (.astore_n 2, 1) := by decide +kernel
theorem dX5_doneIn_20 : decode cX5_doneIn 20 = .ok (.aload_n 2, 1) := by decide +kernel
theorem dX5_doneIn_21 : decode cX5_doneIn 21 = .ok (.ifnonnull 5, 3) := by decide +kernel
theorem dX5_doneIn_24 : decode cX5_doneIn 24 = .ok (.iconst (-1), 1) := by decide +kernel
theorem dX5_doneIn_25 : decode cX5_doneIn 25 = .ok (.ireturn, 1) := by decide +kernel
theorem dX5_doneIn_26 : decode cX5_doneIn 26 = .ok (.aload_n 2, 1) := by decide +kernel
theorem dX5_doneIn_27 : decode cX5_doneIn 27 = .ok (.iconst 3, 1) := by decide +kernel
theorem dX5_doneIn_28 : decode cX5_doneIn 28 = .ok (.invokevirtual 85, 3) := by decide +kernel
theorem dX5_doneIn_31 : decode cX5_doneIn 31 = .ok (.ifCond .eq 6, 3) := by decide +kernel
theorem dX5_doneIn_34 : decode cX5_doneIn 34 = .ok (.bipush (-4), 2) := by decide +kernel
theorem dX5_doneIn_36 : decode cX5_doneIn 36 = .ok (.ireturn, 1) := by decide +kernel
theorem dX5_doneIn_37 : decode cX5_doneIn 37 = .ok (.iconst 0, 1) := by decide +kernel
theorem dX5_doneIn_38 : decode cX5_doneIn 38 = .ok (.istore_n 3, 1) := by decide +kernel
theorem dX5_doneIn_39 : decode cX5_doneIn 39 = .ok (.aload_n 2, 1) := by decide +kernel
theorem dX5_doneIn_40 : decode cX5_doneIn 40 = .ok (.iconst 2, 1) := by decide +kernel
theorem dX5_doneIn_41 : decode cX5_doneIn 41 = .ok (.invokevirtual 85, 3) := by decide +kernel
theorem dX5_doneIn_44 : decode cX5_doneIn 44 = .ok (.ifCond .ne 32, 3) := by decide +kernel
theorem dX5_doneIn_47 : decode cX5_doneIn 47 = .ok (.iload_n 3, 1) := by decide +kernel
theorem dX5_doneIn_48 : decode cX5_doneIn 48 = .ok (.sipush 20000, 3) := by decide +kernel
theorem dX5_doneIn_51 : decode cX5_doneIn 51 = .ok (.if_icmp .ge 25, 3) := by decide +kernel
theorem dX5_doneIn_54 : decode cX5_doneIn 54 = .ok (.iload_n 3, 1) := by decide +kernel
theorem dX5_doneIn_55 : decode cX5_doneIn 55 = .ok (.iconst 1, 1) := by decide +kernel
theorem dX5_doneIn_56 : decode cX5_doneIn 56 = .ok (.aload_n 0, 1) := by decide +kernel
theorem dX5_doneIn_57 : decode cX5_doneIn 57 = .ok (.getfield 33, 3) := by decide +kernel
theorem dX5_doneIn_60 : decode cX5_doneIn 60 = .ok (.sipush 20000, 3) := by decide +kernel
theorem dX5_doneIn_63 : decode cX5_doneIn 63 = .ok (.iload_n 3, 1) := by decide +kernel
theorem dX5_doneIn_64 : decode cX5_doneIn 64 = .ok (.isub, 1) := by decide +kernel
theorem dX5_doneIn_65 : decode cX5_doneIn 65 = .ok (.invokevirtual 111, 3) := by decide +kernel
theorem dX5_doneIn_68 : decode cX5_doneIn 68 = .ok (.invokestatic 114, 3) := by decide +kernel
theorem dX5_doneIn_71 : decode cX5_doneIn 71 = .ok (.iadd, 1) := by decide +kernel
theorem dX5_doneIn_72 : decode cX5_doneIn 72 = .ok (.istore_n 3, 1) := by decide +kernel
theorem dX5_doneIn_73 : decode cX5_doneIn 73 = .ok (.goto (-34), 3) := by decide +kernel
theorem dX5_doneIn_76 : decode cX5_doneIn 76 = .ok (.aload_n 2, 1) := by decide +kernel
theorem dX5_doneIn_77 : decode cX5_doneIn 77 = .ok (.iconst 2, 1) := by decide +kernel
theorem dX5_doneIn_78 : decode cX5_doneIn 78 = .ok (.invokevirtual 85, 3) := by decide +kernel
theorem dX5_doneIn_81 : decode cX5_doneIn 81 = .ok (.ifCond .eq 7, 3) := by decide +kernel
theorem dX5_doneIn_84 : decode cX5_doneIn 84 = .ok (.iload_n 3, 1) := by decide +kernel
theorem dX5_doneIn_85 : decode cX5_doneIn 85 = .ok (.goto 5, 3) := by decide +kernel
theorem dX5_doneIn_88 : decode cX5_doneIn 88 = .ok (.bipush (-5), 2) := by decide +kernel
theorem dX5_doneIn_90 : decode cX5_doneIn 90 = .ok (.ireturn, 1) := by decide +kernel
set_option maxRecDepth 20000 in
theorem ggX5_count_X0_size : GoodIn wsX5_count wsX0_size := goodIn_r _ [8, 9, 85, 86] (by decide +kernel) (by decide +kernel)
set_option maxRecDepth 20000 in
theorem gX5_count_X0_size : GoodIn wsX5_count (wsV RX5 145 RX0 yX0_size wsX0_size) := goodIn_app (goodIn_of _ (by decide +kernel)) ggX5_count_X0_size
set_option maxRecDepth 20000 in
theorem ggX5_count_X2_length : GoodIn wsX5_count wsX2_length := goodIn_r _ [14, 15, 87, 88, 89, 90, 91, 92, 93, 94, 95, 96] (by decide +kernel) (by decide +kernel)
set_option maxRecDepth 20000 in
theorem gX5_count_X2_length : GoodIn wsX5_count (wsV RX5 135 RX2 yX2_length wsX2_length) := goodIn_app (goodIn_of _ (by decide +kernel)) ggX5_count_X2_length
set_option maxRecDepth 20000 in
theorem ggX5_count_X4_canTell : GoodIn wsX5_count wsX4_canTell := goodIn_r _ [19] (by decide +kernel) (by decide +kernel)
set_option maxRecDepth 20000 in
theorem gX5_count_X4_canTell : GoodIn wsX5_count (va_wsS RX5 184 yX4_canTell wsX4_canTell) := goodIn_app (goodIn_of _ (by decide +kernel)) ggX5_count_X4_canTell
set_option maxRecDepth 20000 in
theorem ggX5_count_X4_tell : GoodIn wsX5_count wsX4_tell := goodIn_r _ [23, 24, 25, 26, 27, 28, 29, 30, 31, 18, 32, 33, 34, 35, 36, 37, 38, 39, 40, 41, 42, 43, 44, 45, 46, 47, 48, 49, 50, 51, 52, 53, 54, 55, 56, 57, 58, 59, 60, 61, 62, 63, 64, 65, 66, 67, 68, 69, 70, 71, 72, 73, 74, 75, 76, 77, 97, 98, 99, 100, 101, 102, 103, 104, 105, 106, 107, 108, 109, 110, 111, 112, 113, 114, 115, 116] (by decide +kernel) (by decide +kernel)
set_option maxRecDepth 20000 in
theorem gX5_count_X4_tell : GoodIn wsX5_count (wsV RX5 185 RX4 yX4_tell wsX4_tell) := goodIn_app (goodIn_of _ (by decide +kernel)) ggX5_count_X4_tell
theorem dX5_count_0 : decode cX5_count 0 = .ok (.iload_n 1, 1) := by decide +kernel
theorem dX5_count_1 : decode cX5_count 1 = .ok (.bipush 16, 2) := by decide +kernel
theorem dX5_count_3 : decode cX5_count 3 = .ok (.if_icmp .ne 11, 3) := by decide +kernel
theorem dX5_count_6 : decode cX5_count 6 = .ok (.aload_n 0, 1) := by decide +kernel
theorem dX5_count_7 : decode cX5_count 7 = .ok (.getfield 19, 3) := by decide +kernel
theorem dX5_count_10 : decode cX5_count 10 = .ok (.invokevirtual 145, 3) := by decide +kernel
theorem dX5_count_13 : decode cX5_count 13 = .ok (.ireturn, 1) := by decide +kernel
theorem dX5_count_14 : decode cX5_count 14 = .ok (.iload_n 1, 1) := by decide +kernel
theorem dX5_count_15 : decode cX5_count 15 = .ok (.bipush 17, 2) := by decide +kernel
theorem dX5_count_17 : decode cX5_count 17 = .ok (.if_icmp .ne 11, 3) := by decide +kernel
theorem dX5_count_20 : decode cX5_count 20 = .ok (.aload_n 0, 1) := by decide +kernel
theorem dX5_count_21 : decode cX5_count 21 = .ok (.getfield 26, 3) := by decide +kernel
theorem dX5_count_24 : decode cX5_count 24 = .ok (.invokevirtual 135, 3) := by decide +kernel
theorem dX5_count_27 : decode cX5_count 27 = .ok (.ireturn, 1) := by decide +kernel
theorem dX5_count_28 : decode cX5_count 28 = .ok (.iload_n 1, 1) := by decide +kernel
theorem dX5_count_29 : decode cX5_count 29 = .ok (.invokestatic 184, 3) := by decide +kernel
theorem dX5_count_32 : decode cX5_count 32 = .ok (.ifCond .eq 14, 3) := by decide +kernel
theorem dX5_count_35 : decode cX5_count 35 = .ok (.aload_n 0, 1) := by decide +kernel
theorem dX5_count_36 : decode cX5_count 36 = .ok (.getfield 10, 3) := by decide +kernel
theorem dX5_count_39 : decode cX5_count 39 = .ok (.iload_n 1, 1) := by decide +kernel
theorem dX5_count_40 : decode cX5_count 40 = .ok (.invokevirtual 185, 3) := by decide +kernel
theorem dX5_count_43 : decode cX5_count 43 = .ok (.goto 5, 3) := by decide +kernel
theorem dX5_count_46 : decode cX5_count 46 = .ok (.bipush (-2), 2) := by decide +kernel
theorem dX5_count_48 : decode cX5_count 48 = .ok (.ireturn, 1) := by decide +kernel
set_option maxRecDepth 20000 in
theorem ggX5_spare_X4_surplus : GoodIn wsX5_spare wsX4_surplus := goodIn_r _ [6, 7, 8, 9, 10, 11, 12, 13, 14, 15, 23, 24, 25, 26, 27, 28, 29, 30, 31, 32, 33, 34, 35, 36, 37, 38, 39, 40, 41, 42] (by decide +kernel) (by decide +kernel)
set_option maxRecDepth 20000 in
theorem gX5_spare_X4_surplus : GoodIn wsX5_spare (wsV RX5 186 RX4 yX4_surplus wsX4_surplus) := goodIn_app (goodIn_of _ (by decide +kernel)) ggX5_spare_X4_surplus
theorem dX5_spare_0 : decode cX5_spare 0 = .ok (.aload_n 0, 1) := by decide +kernel
theorem dX5_spare_1 : decode cX5_spare 1 = .ok (.getfield 10, 3) := by decide +kernel
theorem dX5_spare_4 : decode cX5_spare 4 = .ok (.invokevirtual 186, 3) := by decide +kernel
theorem dX5_spare_7 : decode cX5_spare 7 = .ok (.ireturn, 1) := by decide +kernel
theorem dX5_isPages_0 : decode cX5_isPages 0 = .ok (.iload_n 0, 1) := by decide +kernel
theorem dX5_isPages_1 : decode cX5_isPages 1 = .ok (.iconst 3, 1) := by decide +kernel
theorem dX5_isPages_2 : decode cX5_isPages 2 = .ok (.if_icmp .lt 14, 3) := by decide +kernel
theorem dX5_isPages_5 : decode cX5_isPages 5 = .ok (.iload_n 0, 1) := by decide +kernel
theorem dX5_isPages_6 : decode cX5_isPages 6 = .ok (.sipush 500, 3) := by decide +kernel
theorem dX5_isPages_9 : decode cX5_isPages 9 = .ok (.if_icmp .gt 7, 3) := by decide +kernel
theorem dX5_isPages_12 : decode cX5_isPages 12 = .ok (.iconst 1, 1) := by decide +kernel
theorem dX5_isPages_13 : decode cX5_isPages 13 = .ok (.goto 4, 3) := by decide +kernel
theorem dX5_isPages_16 : decode cX5_isPages 16 = .ok (.iconst 0, 1) := by decide +kernel
theorem dX5_isPages_17 : decode cX5_isPages 17 = .ok (.ireturn, 1) := by decide +kernel
