set_option maxRecDepth 20000 in
theorem ggX4_init_X1_init : GoodIn wsX4_init wsX1_init := goodIn_r _ [18, 19, 2, 3, 20, 21, 22, 23, 24, 25, 26, 27, 28, 44, 45, 46, 47, 48, 36, 37, 38, 39, 40, 41, 42, 43] (by decide +kernel) (by decide +kernel)
set_option maxRecDepth 20000 in
theorem gX4_init_X1_init : GoodIn wsX4_init (wsX1_init) := ggX4_init_X1_init
theorem dX4_init_0 : decode cX4_init 0 = .ok (.aload_n 0, 1) := by decide +kernel
theorem dX4_init_1 : decode cX4_init 1 = .ok (.invokespecial 3, 3) := by decide +kernel
theorem dX4_init_4 : decode cX4_init 4 = .ok (.aload_n 0, 1) := by decide +kernel
theorem dX4_init_5 : decode cX4_init 5 = .ok (.getstatic 9, 3) := by decide +kernel
theorem dX4_init_8 : decode cX4_init 8 = .ok (.invokevirtual 15, 3) := by decide +kernel
theorem dX4_init_11 : decode cX4_init 11 = .ok (.checkcast 16, 3) := by decide +kernel
theorem dX4_init_14 : decode cX4_init 14 = .ok (.putfield 20, 3) := by decide +kernel
theorem dX4_init_17 : decode cX4_init 17 = .ok (.aload_n 0, 1) := by decide +kernel
theorem dX4_init_18 : decode cX4_init 18 = .ok (.bipush 16, 2) := by decide +kernel
theorem dX4_init_20 : decode cX4_init 20 = .ok (.anewarray 23, 3) := by decide +kernel
theorem dX4_init_23 : decode cX4_init 23 = .ok (.putfield 25, 3) := by decide +kernel
theorem dX4_init_26 : decode cX4_init 26 = .ok (.iconst 0, 1) := by decide +kernel
theorem dX4_init_27 : decode cX4_init 27 = .ok (.istore_n 1, 1) := by decide +kernel
theorem dX4_init_28 : decode cX4_init 28 = .ok (.iload_n 1, 1) := by decide +kernel
theorem dX4_init_29 : decode cX4_init 29 = .ok (.aload_n 0, 1) := by decide +kernel
theorem dX4_init_30 : decode cX4_init 30 = .ok (.getfield 25, 3) := by decide +kernel
theorem dX4_init_33 : decode cX4_init 33 = .ok (.arraylength, 1) := by decide +kernel
theorem dX4_init_34 : decode cX4_init 34 = .ok (.if_icmp .ge 23, 3) := by decide +kernel
theorem dX4_init_37 : decode cX4_init 37 = .ok (.aload_n 0, 1) := by decide +kernel
theorem dX4_init_38 : decode cX4_init 38 = .ok (.getfield 25, 3) := by decide +kernel
theorem dX4_init_41 : decode cX4_init 41 = .ok (.iload_n 1, 1) := by decide +kernel
theorem dX4_init_42 : decode cX4_init 42 = .ok (.new 23, 3) := by decide +kernel
theorem dX4_init_45 : decode cX4_init 45 = .ok (.dup, 1) := by decide +kernel
theorem dX4_init_46 : decode cX4_init 46 = .ok (.iload_n 1, 1) := by decide +kernel
theorem dX4_init_47 : decode cX4_init 47 = .ok (.invokespecial 29, 3) := by decide +kernel
theorem dX4_init_50 : decode cX4_init 50 = .ok (.aastore, 1) := by decide +kernel
theorem dX4_init_51 : decode cX4_init 51 = .ok (.iinc 1 1, 3) := by decide +kernel
theorem dX4_init_54 : decode cX4_init 54 = .ok (.goto (-26), 3) := by decide +kernel
theorem dX4_init_57 : decode cX4_init 57 = .ok (.return_, 1) := by decide +kernel
theorem dX4_allows_0 : decode cX4_allows 0 = .ok (.iload_n 0, 1) := by decide +kernel
theorem dX4_allows_1 : decode cX4_allows 1 = .ok (.ifCond .lt 41, 3) := by decide +kernel
theorem dX4_allows_4 : decode cX4_allows 4 = .ok (.iload_n 0, 1) := by decide +kernel
theorem dX4_allows_5 : decode cX4_allows 5 = .ok (.getstatic 32, 3) := by decide +kernel
theorem dX4_allows_8 : decode cX4_allows 8 = .ok (.arraylength, 1) := by decide +kernel
theorem dX4_allows_9 : decode cX4_allows 9 = .ok (.if_icmp .ge 33, 3) := by decide +kernel
theorem dX4_allows_12 : decode cX4_allows 12 = .ok (.iload_n 0, 1) := by decide +kernel
theorem dX4_allows_13 : decode cX4_allows 13 = .ok (.getstatic 35, 3) := by decide +kernel
theorem dX4_allows_16 : decode cX4_allows 16 = .ok (.arraylength, 1) := by decide +kernel
theorem dX4_allows_17 : decode cX4_allows 17 = .ok (.if_icmp .ge 25, 3) := by decide +kernel
theorem dX4_allows_20 : decode cX4_allows 20 = .ok (.iload_n 1, 1) := by decide +kernel
theorem dX4_allows_21 : decode cX4_allows 21 = .ok (.getstatic 32, 3) := by decide +kernel
theorem dX4_allows_24 : decode cX4_allows 24 = .ok (.iload_n 0, 1) := by decide +kernel
theorem dX4_allows_25 : decode cX4_allows 25 = .ok (.iaload, 1) := by decide +kernel
theorem dX4_allows_26 : decode cX4_allows 26 = .ok (.if_icmp .lt 16, 3) := by decide +kernel
theorem dX4_allows_29 : decode cX4_allows 29 = .ok (.iload_n 1, 1) := by decide +kernel
theorem dX4_allows_30 : decode cX4_allows 30 = .ok (.getstatic 35, 3) := by decide +kernel
theorem dX4_allows_33 : decode cX4_allows 33 = .ok (.iload_n 0, 1) := by decide +kernel
theorem dX4_allows_34 : decode cX4_allows 34 = .ok (.iaload, 1) := by decide +kernel
theorem dX4_allows_35 : decode cX4_allows 35 = .ok (.if_icmp .gt 7, 3) := by decide +kernel
theorem dX4_allows_38 : decode cX4_allows 38 = .ok (.iconst 1, 1) := by decide +kernel
theorem dX4_allows_39 : decode cX4_allows 39 = .ok (.goto 4, 3) := by decide +kernel
theorem dX4_allows_42 : decode cX4_allows 42 = .ok (.iconst 0, 1) := by decide +kernel
theorem dX4_allows_43 : decode cX4_allows 43 = .ok (.ireturn, 1) := by decide +kernel
theorem dX4_setting_0 : decode cX4_setting 0 = .ok (.iload_n 1, 1) := by decide +kernel
theorem dX4_setting_1 : decode cX4_setting 1 = .ok (.ifCond .lt 21, 3) := by decide +kernel
theorem dX4_setting_4 : decode cX4_setting 4 = .ok (.iload_n 1, 1) := by decide +kernel
theorem dX4_setting_5 : decode cX4_setting 5 = .ok (.aload_n 0, 1) := by decide +kernel
theorem dX4_setting_6 : decode cX4_setting 6 = .ok (.getfield 20, 3) := by decide +kernel
theorem dX4_setting_9 : decode cX4_setting 9 = .ok (.arraylength, 1) := by decide +kernel
theorem dX4_setting_10 : decode cX4_setting 10 = .ok (.if_icmp .ge 12, 3) := by decide +kernel
theorem dX4_setting_13 : decode cX4_setting 13 = .ok (.aload_n 0, 1) := by decide +kernel
theorem dX4_setting_14 : decode cX4_setting 14 = .ok (.getfield 20, 3) := by decide +kernel
theorem dX4_setting_17 : decode cX4_setting 17 = .ok (.iload_n 1, 1) := by decide +kernel
theorem dX4_setting_18 : decode cX4_setting 18 = .ok (.iaload, 1) := by decide +kernel
theorem dX4_setting_19 : decode cX4_setting 19 = .ok (.goto 4, 3) := by decide +kernel
theorem dX4_setting_22 : decode cX4_setting 22 = .ok (.iconst 0, 1) := by decide +kernel
theorem dX4_setting_23 : decode cX4_setting 23 = .ok (.ireturn, 1) := by decide +kernel
set_option maxRecDepth 20000 in
theorem ggX4_changeSetting_X4_goThroughQueue : GoodIn wsX4_changeSetting wsX4_goThroughQueue := goodIn_r _ [6, 7, 8, 9, 10, 5, 11, 12, 13, 14, 15, 16, 17, 18, 19, 20, 21, 22, 23, 24, 25, 26, 27, 28, 29, 30, 1, 31, 32, 33, 34, 35, 36, 37, 38, 39, 40, 41, 42, 43, 44, 45, 46, 47, 48, 49, 50, 51, 52, 53, 54, 55, 56, 57, 58, 59, 60, 61, 62, 63, 64, 65, 66, 67, 68, 69, 70, 71, 72, 73, 74, 75, 76, 77, 78, 79, 80, 81, 82, 83, 84, 85, 86, 87, 88, 89, 90, 91, 92, 93, 94, 95, 96, 97, 98, 99, 100, 101, 102, 103, 104, 105, 106, 107, 108, 109, 110, 111, 112, 113, 114, 115, 116, 117, 118, 119, 120, 121, 122, 123, 124] (by decide +kernel) (by decide +kernel)
set_option maxRecDepth 20000 in
theorem gX4_changeSetting_X4_goThroughQueue : GoodIn wsX4_changeSetting (wsV RX4 38 RX4 yX4_goThroughQueue wsX4_goThroughQueue) := goodIn_app (goodIn_of _ (by decide +kernel)) ggX4_changeSetting_X4_goThroughQueue
theorem dX4_changeSetting_0 : decode cX4_changeSetting 0 = .ok (.iload_n 1, 1) := by decide +kernel
theorem dX4_changeSetting_1 : decode cX4_changeSetting 1 = .ok (.ifCond .lt 23, 3) := by decide +kernel
theorem dX4_changeSetting_4 : decode cX4_changeSetting 4 = .ok (.iload_n 1, 1) := by decide +kernel
theorem dX4_changeSetting_5 : decode cX4_changeSetting 5 = .ok (.aload_n 0, 1) := by decide +kernel
theorem dX4_changeSetting_6 : decode cX4_changeSetting 6 = .ok (.getfield 20, 3) := by decide +kernel
theorem dX4_changeSetting_9 : decode cX4_changeSetting 9 = .ok (.arraylength, 1) := by decide +kernel
theorem dX4_changeSetting_10 : decode cX4_changeSetting 10 = .ok (.if_icmp .ge 14, 3) := by decide +kernel
theorem dX4_changeSetting_13 : decode cX4_changeSetting 13 = .ok (.aload_n 0, 1) := by decide +kernel
theorem dX4_changeSetting_14 : decode cX4_changeSetting 14 = .ok (.getfield 20, 3) := by decide +kernel
theorem dX4_changeSetting_17 : decode cX4_changeSetting 17 = .ok (.iload_n 1, 1) := by decide +kernel
theorem dX4_changeSetting_18 : decode cX4_changeSetting 18 = .ok (.iload_n 2, 1) := by decide +kernel
theorem dX4_changeSetting_19 : decode cX4_changeSetting 19 = .ok (.iastore, 1) := by decide +kernel
theorem dX4_changeSetting_20 : decode cX4_changeSetting 20 = .ok (.aload_n 0, 1) := by decide +kernel
theorem dX4_changeSetting_21 : decode cX4_changeSetting 21 = .ok (.invokevirtual 38, 3) := by decide +kernel
theorem dX4_changeSetting_24 : decode cX4_changeSetting 24 = .ok (.return_, 1) := by decide +kernel
theorem dX4_room_0 : decode cX4_room 0 = .ok (.aload_n 0, 1) := by decide +kernel
theorem dX4_room_1 : decode cX4_room 1 = .ok (.getfield 25, 3) := by decide +kernel
theorem dX4_room_4 : decode cX4_room 4 = .ok (.arraylength, 1) := by decide +kernel
theorem dX4_room_5 : decode cX4_room 5 = .ok (.aload_n 0, 1) := by decide +kernel
theorem dX4_room_6 : decode cX4_room 6 = .ok (.getfield 41, 3) := by decide +kernel
theorem dX4_room_9 : decode cX4_room 9 = .ok (.isub, 1) := by decide +kernel
theorem dX4_room_10 : decode cX4_room 10 = .ok (.ireturn, 1) := by decide +kernel
theorem dX4_find_0 : decode cX4_find 0 = .ok (.iload_n 1, 1) := by decide +kernel
theorem dX4_find_1 : decode cX4_find 1 = .ok (.ifCond .lt 29, 3) := by decide +kernel
theorem dX4_find_4 : decode cX4_find 4 = .ok (.iload_n 1, 1) := by decide +kernel
theorem dX4_find_5 : decode cX4_find 5 = .ok (.aload_n 0, 1) := by decide +kernel
theorem dX4_find_6 : decode cX4_find 6 = .ok (.getfield 41, 3) := by decide +kernel
theorem dX4_find_9 : decode cX4_find 9 = .ok (.if_icmp .ge 21, 3) := by decide +kernel
theorem dX4_find_12 : decode cX4_find 12 = .ok (.iload_n 1, 1) := by decide +kernel
theorem dX4_find_13 : decode cX4_find 13 = .ok (.aload_n 0, 1) := by decide +kernel
theorem dX4_find_14 : decode cX4_find 14 = .ok (.getfield 25, 3) := by decide +kernel
theorem dX4_find_17 : decode cX4_find 17 = .ok (.arraylength, 1) := by decide +kernel
theorem dX4_find_18 : decode cX4_find 18 = .ok (.if_icmp .ge 12, 3) := by decide +kernel
theorem dX4_find_21 : decode cX4_find 21 = .ok (.aload_n 0, 1) := by decide +kernel
theorem dX4_find_22 : decode cX4_find 22 = .ok (.getfield 25, 3) := by decide +kernel
theorem dX4_find_25 : decode cX4_find 25 = .ok (.iload_n 1, 1) := by decide +kernel
theorem dX4_find_26 : decode cX4_find 26 = .ok (.aaload, 1) := by decide +kernel
theorem dX4_find_27 : decode cX4_find 27 = .ok (.goto 4, 3) := by decide +kernel
theorem dX4_find_30 : decode cX4_find 30 = .ok (.aconst_null, 1) := by decide +kernel
theorem dX4_find_31 : decode cX4_find 31 = .ok (.areturn, 1) := by decide +kernel
set_option maxRecDepth 20000 in
theorem ggX4_take_X1_come : GoodIn wsX4_take wsX1_come := goodIn_r _ [7, 8, 9, 10, 11, 12, 13, 14, 15, 16, 17, 18, 19, 20, 21, 22, 23, 24, 25, 26, 27, 28, 29, 30, 31, 32, 33, 34, 35, 36, 37, 38, 138, 139, 140, 141, 142, 143, 144, 145, 146, 147, 148, 149, 150] (by decide +kernel) (by decide +kernel)
set_option maxRecDepth 20000 in
theorem gX4_take_X1_come : GoodIn wsX4_take (wsV RX4 45 RX1 yX1_come wsX1_come) := goodIn_app (goodIn_of _ (by decide +kernel)) ggX4_take_X1_come
set_option maxRecDepth 20000 in
theorem ggX4_take_X4_goThroughQueue : GoodIn wsX4_take wsX4_goThroughQueue := goodIn_r _ [43, 2, 44, 45, 46, 42, 47, 48, 49, 50, 6, 51, 9, 52, 53, 54, 55, 56, 57, 58, 59, 8, 60, 61, 62, 63, 64, 65, 66, 67, 68, 69, 70, 71, 72, 73, 74, 75, 25, 76, 77, 78, 24, 26, 79, 80, 81, 82, 83, 84, 85, 86, 87, 88, 89, 90, 91, 92, 93, 94, 95, 96, 97, 98, 99, 100, 101, 102, 103, 13, 104, 15, 16, 21, 27, 105, 106, 107, 108, 109, 110, 111, 112, 113, 114, 115, 116, 117, 118, 119, 120, 121, 122, 123, 124, 125, 126, 127, 128, 129, 130, 131, 132, 133, 134, 135, 136, 137, 138, 139, 140, 141, 142, 143, 144, 145, 146, 147, 148, 149, 150] (by decide +kernel) (by decide +kernel)
set_option maxRecDepth 20000 in
theorem gX4_take_X4_goThroughQueue : GoodIn wsX4_take (wsV RX4 38 RX4 yX4_goThroughQueue wsX4_goThroughQueue) := goodIn_app (goodIn_of _ (by decide +kernel)) ggX4_take_X4_goThroughQueue
set_option maxRecDepth 20000 in
theorem ggX4_take_X1_number : GoodIn wsX4_take wsX1_number := goodIn_r _ [68, 69, 138, 139, 140, 141, 142, 143, 144, 145] (by decide +kernel) (by decide +kernel)
set_option maxRecDepth 20000 in
theorem gX4_take_X1_number : GoodIn wsX4_take (wsV RX4 49 RX1 yX1_number wsX1_number) := goodIn_app (goodIn_of _ (by decide +kernel)) ggX4_take_X1_number
theorem dX4_take_0 : decode cX4_take 0 = .ok (.aload_n 0, 1) := by decide +kernel
theorem dX4_take_1 : decode cX4_take 1 = .ok (.getfield 41, 3) := by decide +kernel
theorem dX4_take_4 : decode cX4_take 4 = .ok (.aload_n 0, 1) := by decide +kernel
theorem dX4_take_5 : decode cX4_take 5 = .ok (.getfield 25, 3) := by decide +kernel
theorem dX4_take_8 : decode cX4_take 8 = .ok (.arraylength, 1) := by decide +kernel
theorem dX4_take_9 : decode cX4_take 9 = .ok (.if_icmp .lt 6, 3) := by decide +kernel
theorem dX4_take_12 : decode cX4_take 12 = .ok (.bipush (-3), 2) := by decide +kernel
theorem dX4_take_14 : decode cX4_take 14 = .ok (.ireturn, 1) := by decide +kernel
theorem dX4_take_15 : decode cX4_take 15 = .ok (.aload_n 0, 1) := by decide +kernel
theorem dX4_take_16 : decode cX4_take 16 = .ok (.getfield 25, 3) := by decide +kernel
theorem dX4_take_19 : decode cX4_take 19 = .ok (.aload_n 0, 1) := by decide +kernel
theorem dX4_take_20 : decode cX4_take 20 = .ok (.getfield 41, 3) := by decide +kernel
theorem dX4_take_23 : decode cX4_take 23 = .ok (.aaload, 1) := by decide +kernel
theorem dX4_take_24 : decode cX4_take 24 = .ok (.astore 4, 2) := by decide +kernel
theorem dX4_take_26 : decode cX4_take 26 = .ok (.aload_n 0, 1) := by decide +kernel
theorem dX4_take_27 : decode cX4_take 27 = .ok (.dup, 1) := by decide +kernel
theorem dX4_take_28 : decode cX4_take 28 = .ok (.getfield 41, 3) := by decide +kernel
theorem dX4_take_31 : decode cX4_take 31 = .ok (.iconst 1, 1) := by decide +kernel
theorem dX4_take_32 : decode cX4_take 32 = .ok (.iadd, 1) := by decide +kernel
theorem dX4_take_33 : decode cX4_take 33 = .ok (.putfield 41, 3) := by decide +kernel
theorem dX4_take_36 : decode cX4_take 36 = .ok (.aload 4, 2) := by decide +kernel
theorem dX4_take_38 : decode cX4_take 38 = .ok (.iload_n 1, 1) := by decide +kernel
theorem dX4_take_39 : decode cX4_take 39 = .ok (.iload_n 2, 1) := by decide +kernel
theorem dX4_take_40 : decode cX4_take 40 = .ok (.iload_n 3, 1) := by decide +kernel
theorem dX4_take_41 : decode cX4_take 41 = .ok (.invokevirtual 45, 3) := by decide +kernel
theorem dX4_take_44 : decode cX4_take 44 = .ok (.aload_n 0, 1) := by decide +kernel
theorem dX4_take_45 : decode cX4_take 45 = .ok (.invokevirtual 38, 3) := by decide +kernel
theorem dX4_take_48 : decode cX4_take 48 = .ok (.aload 4, 2) := by decide +kernel
theorem dX4_take_50 : decode cX4_take 50 = .ok (.invokevirtual 49, 3) := by decide +kernel
theorem dX4_take_53 : decode cX4_take 53 = .ok (.ireturn, 1) := by decide +kernel
set_option maxRecDepth 20000 in
theorem ggX4_goThroughQueue_X4_firstInQueue : GoodIn wsX4_goThroughQueue wsX4_firstInQueue := goodIn_r _ [6, 1, 7, 8, 9, 10, 11, 12, 13, 14, 15, 5, 16, 17, 18, 19, 20, 21, 22, 23, 24, 25, 26, 27, 28, 29, 30, 31, 101, 102, 103, 104, 105, 106, 107, 108, 109, 110, 111, 112, 113, 114, 115, 116, 117, 118, 119, 120] (by decide +kernel) (by decide +kernel)
set_option maxRecDepth 20000 in
theorem gX4_goThroughQueue_X4_firstInQueue : GoodIn wsX4_goThroughQueue (wsV RX4 53 RX4 yX4_firstInQueue wsX4_firstInQueue) := goodIn_app (goodIn_of _ (by decide +kernel)) ggX4_goThroughQueue_X4_firstInQueue
set_option maxRecDepth 20000 in
theorem ggX4_goThroughQueue_X4_start : GoodIn wsX4_goThroughQueue wsX4_start := goodIn_r _ [35, 36, 37, 38, 39, 40, 41, 42, 43, 17, 18, 19, 10, 20, 21, 44, 45, 46, 5, 47, 22, 23, 24, 25, 26, 48, 49, 50, 51, 1, 52, 53, 54, 55, 56, 57, 58, 59, 60, 61, 62, 63, 64, 12, 65, 66, 67, 68, 69, 70, 71, 72, 73, 74, 75, 76, 77, 78, 79, 80, 81, 82, 83, 84, 85, 86, 87, 88, 89, 90, 91, 92, 93, 94, 95, 96, 97, 98, 99, 100, 101, 102, 103, 104, 105, 106, 107, 108, 109, 110, 111, 112, 113, 114, 115, 116, 117, 118, 119, 120] (by decide +kernel) (by decide +kernel)
set_option maxRecDepth 20000 in
theorem gX4_goThroughQueue_X4_start : GoodIn wsX4_goThroughQueue (wsV RX4 57 RX4 yX4_start wsX4_start) := goodIn_app (goodIn_of _ (by decide +kernel)) ggX4_goThroughQueue_X4_start
theorem dX4_goThroughQueue_0 : decode cX4_goThroughQueue 0 = .ok (.iconst 0, 1) := by decide +kernel
theorem dX4_goThroughQueue_1 : decode cX4_goThroughQueue 1 = .ok (.istore_n 1, 1) := by decide +kernel
theorem dX4_goThroughQueue_2 : decode cX4_goThroughQueue 2 = .ok (.iload_n 1, 1) := by decide +kernel
theorem dX4_goThroughQueue_3 : decode cX4_goThroughQueue 3 = .ok (.aload_n 0, 1) := by decide +kernel
theorem dX4_goThroughQueue_4 : decode cX4_goThroughQueue 4 = .ok (.getfield 25, 3) := by decide +kernel
theorem dX4_goThroughQueue_7 : decode cX4_goThroughQueue 7 = .ok (.arraylength, 1) := by decide +kernel
theorem dX4_goThroughQueue_8 : decode cX4_goThroughQueue 8 = .ok (.if_icmp .ge 27, 3) := by decide +kernel
theorem dX4_goThroughQueue_11 : decode cX4_goThroughQueue 11 = .ok (.aload_n 0, 1) := by decide +kernel
theorem dX4_goThroughQueue_12 : decode cX4_goThroughQueue 12 = .ok (.invokevirtual 53, 3) := by decide +kernel
theorem dX4_goThroughQueue_15 : decode cX4_goThroughQueue 15 = .ok (.astore_n 2, 1) := by decide +kernel
theorem dX4_goThroughQueue_16 : decode cX4_goThroughQueue 16 = .ok (.aload_n 2, 1) := by decide +kernel
theorem dX4_goThroughQueue_17 : decode cX4_goThroughQueue 17 = .ok (.ifnull 11, 3) := by decide +kernel
theorem dX4_goThroughQueue_20 : decode cX4_goThroughQueue 20 = .ok (.aload_n 0, 1) := by decide +kernel
theorem dX4_goThroughQueue_21 : decode cX4_goThroughQueue 21 = .ok (.aload_n 2, 1) := by decide +kernel
theorem dX4_goThroughQueue_22 : decode cX4_goThroughQueue 22 = .ok (.invokevirtual 57, 3) := by decide +kernel
theorem dX4_goThroughQueue_25 : decode cX4_goThroughQueue 25 = .ok (.ifCond .ne 4, 3) := by decide +kernel
theorem dX4_goThroughQueue_28 : decode cX4_goThroughQueue 28 = .ok (.return_, 1) := by decide +kernel
theorem dX4_goThroughQueue_29 : decode cX4_goThroughQueue 29 = .ok (.iinc 1 1, 3) := by decide +kernel
theorem dX4_goThroughQueue_32 : decode cX4_goThroughQueue 32 = .ok (.goto (-30), 3) := by decide +kernel
theorem dX4_goThroughQueue_35 : decode cX4_goThroughQueue 35 = .ok (.return_, 1) := by decide +kernel
set_option maxRecDepth 20000 in
theorem ggX4_firstInQueue_X1_isIn : GoodIn wsX4_firstInQueue wsX1_isIn := goodIn_r _ [6, 7, 35, 36, 37, 38, 39, 40, 41, 42] (by decide +kernel) (by decide +kernel)
set_option maxRecDepth 20000 in
theorem gX4_firstInQueue_X1_isIn : GoodIn wsX4_firstInQueue (wsV RX4 61 RX1 yX1_isIn wsX1_isIn) := goodIn_app (goodIn_of _ (by decide +kernel)) ggX4_firstInQueue_X1_isIn
set_option maxRecDepth 20000 in
theorem ggX4_firstInQueue_X4_isAhead : GoodIn wsX4_firstInQueue wsX4_isAhead := goodIn_r _ [12, 13, 14, 15, 5, 16, 17, 18, 19, 20, 11, 21, 22, 23, 24, 25, 26, 27, 35, 36, 37, 38, 39, 40, 41, 42, 43, 44, 45, 46, 47, 28, 29, 30, 31, 32, 33, 34] (by decide +kernel) (by decide +kernel)
set_option maxRecDepth 20000 in
theorem gX4_firstInQueue_X4_isAhead : GoodIn wsX4_firstInQueue (wsV RX4 65 RX4 yX4_isAhead wsX4_isAhead) := goodIn_app (goodIn_of _ (by decide +kernel)) ggX4_firstInQueue_X4_isAhead
theorem dX4_firstInQueue_0 : decode cX4_firstInQueue 0 = .ok (.aconst_null, 1) := by decide +kernel
theorem dX4_firstInQueue_1 : decode cX4_firstInQueue 1 = .ok (.astore_n 1, 1) := by decide +kernel
theorem dX4_firstInQueue_2 : decode cX4_firstInQueue 2 = .ok (.aload_n 0, 1) := by decide +kernel
theorem dX4_firstInQueue_3 : decode cX4_firstInQueue 3 = .ok (.getfield 25, 3) := by decide +kernel
theorem dX4_firstInQueue_6 : decode cX4_firstInQueue 6 = .ok (.astore_n 2, 1) := by decide +kernel
theorem dX4_firstInQueue_7 : decode cX4_firstInQueue 7 = .ok (.aload_n 2, 1) := by decide +kernel
theorem dX4_firstInQueue_8 : decode cX4_firstInQueue 8 = .ok (.arraylength, 1) := by decide +kernel
theorem dX4_firstInQueue_9 : decode cX4_firstInQueue 9 = .ok (.istore_n 3, 1) := by decide +kernel
theorem dX4_firstInQueue_10 : decode cX4_firstInQueue 10 = .ok (.iconst 0, 1) := by decide +kernel
theorem dX4_firstInQueue_11 : decode cX4_firstInQueue 11 = .ok (.istore 4, 2) := by decide +kernel
theorem dX4_firstInQueue_13 : decode cX4_firstInQueue 13 = .ok (.iload 4, 2) := by decide +kernel
theorem dX4_firstInQueue_15 : decode cX4_firstInQueue 15 = .ok (.iload_n 3, 1) := by decide +kernel
theorem dX4_firstInQueue_16 : decode cX4_firstInQueue 16 = .ok (.if_icmp .ge 41, 3) := by decide +kernel
theorem dX4_firstInQueue_19 : decode cX4_firstInQueue 19 = .ok (.aload_n 2, 1) := by decide +kernel
theorem dX4_firstInQueue_20 : decode cX4_firstInQueue 20 = .ok (.iload 4, 2) := by decide +kernel
theorem dX4_firstInQueue_22 : decode cX4_firstInQueue 22 = .ok (.aaload, 1) := by decide +kernel
theorem dX4_firstInQueue_23 : decode cX4_firstInQueue 23 = .ok (.astore 5, 2) := by decide +kernel
theorem dX4_firstInQueue_25 : decode cX4_firstInQueue 25 = .ok (.aload 5, 2) := by decide +kernel
theorem dX4_firstInQueue_27 : decode cX4_firstInQueue 27 = .ok (.iconst 0, 1) := by decide +kernel
theorem dX4_firstInQueue_28 : decode cX4_firstInQueue 28 = .ok (.invokevirtual 61, 3) := by decide +kernel
theorem dX4_firstInQueue_31 : decode cX4_firstInQueue 31 = .ok (.ifCond .eq 20, 3) := by decide +kernel
theorem dX4_firstInQueue_34 : decode cX4_firstInQueue 34 = .ok (.aload_n 1, 1) := by decide +kernel
theorem dX4_firstInQueue_35 : decode cX4_firstInQueue 35 = .ok (.ifnull 13, 3) := by decide +kernel
theorem dX4_firstInQueue_38 : decode cX4_firstInQueue 38 = .ok (.aload_n 0, 1) := by decide +kernel
theorem dX4_firstInQueue_39 : decode cX4_firstInQueue 39 = .ok (.aload 5, 2) := by decide +kernel
theorem dX4_firstInQueue_41 : decode cX4_firstInQueue 41 = .ok (.aload_n 1, 1) := by decide +kernel
theorem dX4_firstInQueue_42 : decode cX4_firstInQueue 42 = .ok (.invokevirtual 65, 3) := by decide +kernel
theorem dX4_firstInQueue_45 : decode cX4_firstInQueue 45 = .ok (.ifCond .eq 6, 3) := by decide +kernel
theorem dX4_firstInQueue_48 : decode cX4_firstInQueue 48 = .ok (.aload 5, 2) := by decide +kernel
theorem dX4_firstInQueue_50 : decode cX4_firstInQueue 50 = .ok (.astore_n 1, 1) := by decide +kernel
theorem dX4_firstInQueue_51 : decode cX4_firstInQueue 51 = .ok (.iinc 4 1, 3) := by decide +kernel
theorem dX4_firstInQueue_54 : decode cX4_firstInQueue 54 = .ok (.goto (-41), 3) := by decide +kernel
theorem dX4_firstInQueue_57 : decode cX4_firstInQueue 57 = .ok (.aload_n 1, 1) := by decide +kernel
theorem dX4_firstInQueue_58 : decode cX4_firstInQueue 58 = .ok (.areturn, 1) := by decide +kernel
set_option maxRecDepth 20000 in
theorem ggX4_start_X1_need : GoodIn wsX4_start wsX1_need := goodIn_r _ [13, 14, 87, 88, 89, 90, 91, 92, 93, 94, 95, 96, 97, 98, 99] (by decide +kernel) (by decide +kernel)
set_option maxRecDepth 20000 in
theorem gX4_start_X1_need : GoodIn wsX4_start (wsV RX4 69 RX1 yX1_need wsX1_need) := goodIn_app (goodIn_of _ (by decide +kernel)) ggX4_start_X1_need
set_option maxRecDepth 20000 in
theorem ggX4_start_X4_free : GoodIn wsX4_start wsX4_free := goodIn_r _ [19, 6, 7, 3, 8, 20, 21, 22, 18, 23, 24, 25, 26, 27, 28, 29, 30, 31, 32, 12, 33, 34, 80, 81, 82, 83, 84, 85, 86, 87, 88, 89, 90, 91, 92, 93, 94] (by decide +kernel) (by decide +kernel)
set_option maxRecDepth 20000 in
theorem gX4_start_X4_free : GoodIn wsX4_start (wsV RX4 72 RX4 yX4_free wsX4_free) := goodIn_app (goodIn_of _ (by decide +kernel)) ggX4_start_X4_free
set_option maxRecDepth 20000 in
theorem ggX4_start_X1_want : GoodIn wsX4_start wsX1_want := goodIn_r _ [38, 14, 87, 88, 89, 90, 91, 92, 93, 94, 95, 96, 97, 98, 99] (by decide +kernel) (by decide +kernel)
set_option maxRecDepth 20000 in
theorem gX4_start_X1_want : GoodIn wsX4_start (wsV RX4 75 RX1 yX1_want wsX1_want) := goodIn_app (goodIn_of _ (by decide +kernel)) ggX4_start_X1_want
set_option maxRecDepth 20000 in
theorem ggX4_start_X1_start : GoodIn wsX4_start wsX1_start := goodIn_r _ [42, 43, 34, 14, 44, 45, 46, 47, 48, 49, 50, 51, 52, 53, 87, 88, 89, 90, 91, 92, 93, 94, 95, 96, 97, 98, 99] (by decide +kernel) (by decide +kernel)
set_option maxRecDepth 20000 in
theorem gX4_start_X1_start : GoodIn wsX4_start (wsV RX4 84 RX1 yX1_start wsX1_start) := goodIn_app (goodIn_of _ (by decide +kernel)) ggX4_start_X1_start
set_option maxRecDepth 20000 in
theorem ggX4_start_X4_canAskBack : GoodIn wsX4_start wsX4_canAskBack := goodIn_r _ [57, 20, 21, 22, 18, 23, 24, 25, 26, 27, 28, 29, 30, 31, 32, 12, 33, 34, 58, 59, 60, 61, 62, 63, 64, 65, 43, 14, 80, 81, 82, 83, 84, 85, 86, 87, 88, 89, 90, 91, 92, 93, 94, 95, 96, 97, 98, 99] (by decide +kernel) (by decide +kernel)
set_option maxRecDepth 20000 in
theorem gX4_start_X4_canAskBack : GoodIn wsX4_start (wsV RX4 86 RX4 yX4_canAskBack wsX4_canAskBack) := goodIn_app (goodIn_of _ (by decide +kernel)) ggX4_start_X4_canAskBack
set_option maxRecDepth 20000 in
theorem ggX4_start_X4_askBack : GoodIn wsX4_start wsX4_askBack := goodIn_r _ [69, 29, 1, 2, 3, 4, 70, 71, 72, 73, 18, 74, 62, 63, 64, 12, 65, 43, 34, 14, 75, 76, 77, 78, 44, 79, 45, 46, 47, 48, 49, 50, 51, 52, 53, 80, 81, 82, 83, 84, 85, 86, 87, 88, 89, 90, 91, 92, 93, 94, 95, 96, 97, 98, 99] (by decide +kernel) (by decide +kernel)
set_option maxRecDepth 20000 in
theorem gX4_start_X4_askBack : GoodIn wsX4_start (wsV RX4 89 RX4 yX4_askBack wsX4_askBack) := goodIn_app (goodIn_of _ (by decide +kernel)) ggX4_start_X4_askBack
set_option maxRecDepth 20000 in
theorem ggX4_start_X4_granted : GoodIn wsX4_start wsX4_granted := goodIn_r _ [28, 29, 30, 31, 32, 12, 33, 34, 80, 81, 82, 83, 84, 85, 86, 87, 88, 89, 90, 91, 92, 93, 94] (by decide +kernel) (by decide +kernel)
set_option maxRecDepth 20000 in
theorem gX4_start_X4_granted : GoodIn wsX4_start (wsV RX4 95 RX4 yX4_granted wsX4_granted) := goodIn_app (goodIn_of _ (by decide +kernel)) ggX4_start_X4_granted
theorem dX4_start_0 : decode cX4_start 0 = .ok (.aload_n 1, 1) := by decide +kernel
theorem dX4_start_1 : decode cX4_start 1 = .ok (.invokevirtual 69, 3) := by decide +kernel
theorem dX4_start_4 : decode cX4_start 4 = .ok (.istore_n 2, 1) := by decide +kernel
theorem dX4_start_5 : decode cX4_start 5 = .ok (.iload_n 2, 1) := by decide +kernel
theorem dX4_start_6 : decode cX4_start 6 = .ok (.aload_n 0, 1) := by decide +kernel
theorem dX4_start_7 : decode cX4_start 7 = .ok (.invokevirtual 72, 3) := by decide +kernel
theorem dX4_start_10 : decode cX4_start 10 = .ok (.isub, 1) := by decide +kernel
theorem dX4_start_11 : decode cX4_start 11 = .ok (.istore_n 3, 1) := by decide +kernel
theorem dX4_start_12 : decode cX4_start 12 = .ok (.iload_n 3, 1) := by decide +kernel
theorem dX4_start_13 : decode cX4_start 13 = .ok (.ifCond .gt 21, 3) := by decide +kernel
theorem dX4_start_16 : decode cX4_start 16 = .ok (.aload_n 1, 1) := by decide +kernel
theorem dX4_start_17 : decode cX4_start 17 = .ok (.aload_n 0, 1) := by decide +kernel
theorem dX4_start_18 : decode cX4_start 18 = .ok (.invokevirtual 72, 3) := by decide +kernel
theorem dX4_start_21 : decode cX4_start 21 = .ok (.aload_n 1, 1) := by decide +kernel
theorem dX4_start_22 : decode cX4_start 22 = .ok (.invokevirtual 75, 3) := by decide +kernel
theorem dX4_start_25 : decode cX4_start 25 = .ok (.invokestatic 78, 3) := by decide +kernel
theorem dX4_start_28 : decode cX4_start 28 = .ok (.invokevirtual 84, 3) := by decide +kernel
theorem dX4_start_31 : decode cX4_start 31 = .ok (.goto 26, 3) := by decide +kernel
theorem dX4_start_34 : decode cX4_start 34 = .ok (.aload_n 0, 1) := by decide +kernel
theorem dX4_start_35 : decode cX4_start 35 = .ok (.iload_n 3, 1) := by decide +kernel
theorem dX4_start_36 : decode cX4_start 36 = .ok (.invokevirtual 86, 3) := by decide +kernel
theorem dX4_start_39 : decode cX4_start 39 = .ok (.ifCond .eq 16, 3) := by decide +kernel
theorem dX4_start_42 : decode cX4_start 42 = .ok (.aload_n 0, 1) := by decide +kernel
theorem dX4_start_43 : decode cX4_start 43 = .ok (.iload_n 3, 1) := by decide +kernel
theorem dX4_start_44 : decode cX4_start 44 = .ok (.invokevirtual 89, 3) := by decide +kernel
theorem dX4_start_47 : decode cX4_start 47 = .ok (.aload_n 1, 1) := by decide +kernel
theorem dX4_start_48 : decode cX4_start 48 = .ok (.iload_n 2, 1) := by decide +kernel
theorem dX4_start_49 : decode cX4_start 49 = .ok (.invokevirtual 84, 3) := by decide +kernel
theorem dX4_start_52 : decode cX4_start 52 = .ok (.goto 5, 3) := by decide +kernel
theorem dX4_start_55 : decode cX4_start 55 = .ok (.iconst 0, 1) := by decide +kernel
theorem dX4_start_56 : decode cX4_start 56 = .ok (.ireturn, 1) := by decide +kernel
theorem dX4_start_57 : decode cX4_start 57 = .ok (.aload_n 0, 1) := by decide +kernel
theorem dX4_start_58 : decode cX4_start 58 = .ok (.aload_n 0, 1) := by decide +kernel
theorem dX4_start_59 : decode cX4_start 59 = .ok (.getfield 92, 3) := by decide +kernel
theorem dX4_start_62 : decode cX4_start 62 = .ok (.aload_n 0, 1) := by decide +kernel
theorem dX4_start_63 : decode cX4_start 63 = .ok (.invokevirtual 95, 3) := by decide +kernel
theorem dX4_start_66 : decode cX4_start 66 = .ok (.invokestatic 98, 3) := by decide +kernel
theorem dX4_start_69 : decode cX4_start 69 = .ok (.putfield 92, 3) := by decide +kernel
theorem dX4_start_72 : decode cX4_start 72 = .ok (.iconst 1, 1) := by decide +kernel
theorem dX4_start_73 : decode cX4_start 73 = .ok (.ireturn, 1) := by decide +kernel
set_option maxRecDepth 20000 in
theorem ggX4_canAskBack_X4_setting : GoodIn wsX4_canAskBack wsX4_setting := goodIn_r _ [5, 6, 28, 29, 30, 31, 32, 33, 34] (by decide +kernel) (by decide +kernel)
set_option maxRecDepth 20000 in
theorem gX4_canAskBack_X4_setting : GoodIn wsX4_canAskBack (wsV RX4 101 RX4 yX4_setting wsX4_setting) := goodIn_app (goodIn_of _ (by decide +kernel)) ggX4_canAskBack_X4_setting
set_option maxRecDepth 20000 in
theorem ggX4_canAskBack_X4_granted : GoodIn wsX4_canAskBack wsX4_granted := goodIn_r _ [10, 11, 12, 13, 14, 15, 16, 17, 28, 29, 30, 31, 32, 33, 34, 35, 36, 37, 38, 39, 40, 41, 42] (by decide +kernel) (by decide +kernel)
set_option maxRecDepth 20000 in
theorem gX4_canAskBack_X4_granted : GoodIn wsX4_canAskBack (wsV RX4 95 RX4 yX4_granted wsX4_granted) := goodIn_app (goodIn_of _ (by decide +kernel)) ggX4_canAskBack_X4_granted
set_option maxRecDepth 20000 in
theorem ggX4_canAskBack_X4_surplus : GoodIn wsX4_canAskBack wsX4_surplus := goodIn_r _ [21, 11, 22, 23, 24, 15, 25, 26, 17, 27, 28, 29, 30, 31, 32, 33, 34, 35, 36, 37, 38, 39, 40, 41, 42, 43, 44, 45, 46, 47] (by decide +kernel) (by decide +kernel)
set_option maxRecDepth 20000 in
theorem gX4_canAskBack_X4_surplus : GoodIn wsX4_canAskBack (wsV RX4 105 RX4 yX4_surplus wsX4_surplus) := goodIn_app (goodIn_of _ (by decide +kernel)) ggX4_canAskBack_X4_surplus
theorem dX4_canAskBack_0 : decode cX4_canAskBack 0 = .ok (.aload_n 0, 1) := by decide +kernel
theorem dX4_canAskBack_1 : decode cX4_canAskBack 1 = .ok (.iconst 2, 1) := by decide +kernel
theorem dX4_canAskBack_2 : decode cX4_canAskBack 2 = .ok (.invokevirtual 101, 3) := by decide +kernel
theorem dX4_canAskBack_5 : decode cX4_canAskBack 5 = .ok (.iconst 1, 1) := by decide +kernel
theorem dX4_canAskBack_6 : decode cX4_canAskBack 6 = .ok (.if_icmp .ne 27, 3) := by decide +kernel
theorem dX4_canAskBack_9 : decode cX4_canAskBack 9 = .ok (.aload_n 0, 1) := by decide +kernel
theorem dX4_canAskBack_10 : decode cX4_canAskBack 10 = .ok (.invokevirtual 95, 3) := by decide +kernel
theorem dX4_canAskBack_13 : decode cX4_canAskBack 13 = .ok (.aload_n 0, 1) := by decide +kernel
theorem dX4_canAskBack_14 : decode cX4_canAskBack 14 = .ok (.iconst 0, 1) := by decide +kernel
theorem dX4_canAskBack_15 : decode cX4_canAskBack 15 = .ok (.invokevirtual 101, 3) := by decide +kernel
theorem dX4_canAskBack_18 : decode cX4_canAskBack 18 = .ok (.if_icmp .gt 15, 3) := by decide +kernel
theorem dX4_canAskBack_21 : decode cX4_canAskBack 21 = .ok (.aload_n 0, 1) := by decide +kernel
theorem dX4_canAskBack_22 : decode cX4_canAskBack 22 = .ok (.invokevirtual 105, 3) := by decide +kernel
theorem dX4_canAskBack_25 : decode cX4_canAskBack 25 = .ok (.iload_n 1, 1) := by decide +kernel
theorem dX4_canAskBack_26 : decode cX4_canAskBack 26 = .ok (.if_icmp .lt 7, 3) := by decide +kernel
theorem dX4_canAskBack_29 : decode cX4_canAskBack 29 = .ok (.iconst 1, 1) := by decide +kernel
theorem dX4_canAskBack_30 : decode cX4_canAskBack 30 = .ok (.goto 4, 3) := by decide +kernel
theorem dX4_canAskBack_33 : decode cX4_canAskBack 33 = .ok (.iconst 0, 1) := by decide +kernel
theorem dX4_canAskBack_34 : decode cX4_canAskBack 34 = .ok (.ireturn, 1) := by decide +kernel
set_option maxRecDepth 20000 in
theorem ggX4_askBack_X4_richest : GoodIn wsX4_askBack wsX4_richest := goodIn_r _ [11, 1, 12, 13, 14, 15, 16, 17, 18, 19, 35, 36, 37, 38, 39, 40, 41, 42, 43, 44, 45, 46, 47, 48, 49, 50, 51, 52, 53, 54] (by decide +kernel) (by decide +kernel)
set_option maxRecDepth 20000 in
theorem gX4_askBack_X4_richest : GoodIn wsX4_askBack (wsV RX4 108 RX4 yX4_richest wsX4_richest) := goodIn_app (goodIn_of _ (by decide +kernel)) ggX4_askBack_X4_richest
set_option maxRecDepth 20000 in
theorem ggX4_askBack_X1_surplus : GoodIn wsX4_askBack wsX1_surplus := goodIn_r _ [16, 17, 18, 19, 42, 43, 44, 45, 46, 47, 48, 49, 50, 51, 52, 53, 54] (by decide +kernel) (by decide +kernel)
set_option maxRecDepth 20000 in
theorem gX4_askBack_X1_surplus : GoodIn wsX4_askBack (wsV RX4 111 RX1 yX1_surplus wsX1_surplus) := goodIn_app (goodIn_of _ (by decide +kernel)) ggX4_askBack_X1_surplus
set_option maxRecDepth 20000 in
theorem ggX4_askBack_X1_giveBack : GoodIn wsX4_askBack wsX1_giveBack := goodIn_r _ [23, 19, 18, 24, 25, 26, 27, 28, 29, 30, 31, 32, 33, 34, 42, 43, 44, 45, 46, 47, 48, 49, 50, 51, 52, 53, 54] (by decide +kernel) (by decide +kernel)
set_option maxRecDepth 20000 in
theorem gX4_askBack_X1_giveBack : GoodIn wsX4_askBack (wsV RX4 112 RX1 yX1_giveBack wsX1_giveBack) := goodIn_app (goodIn_of _ (by decide +kernel)) ggX4_askBack_X1_giveBack
theorem dX4_askBack_0 : decode cX4_askBack 0 = .ok (.iload_n 1, 1) := by decide +kernel
theorem dX4_askBack_1 : decode cX4_askBack 1 = .ok (.istore_n 2, 1) := by decide +kernel
theorem dX4_askBack_2 : decode cX4_askBack 2 = .ok (.iconst 0, 1) := by decide +kernel
theorem dX4_askBack_3 : decode cX4_askBack 3 = .ok (.istore_n 3, 1) := by decide +kernel
theorem dX4_askBack_4 : decode cX4_askBack 4 = .ok (.iload_n 3, 1) := by decide +kernel
theorem dX4_askBack_5 : decode cX4_askBack 5 = .ok (.aload_n 0, 1) := by decide +kernel
theorem dX4_askBack_6 : decode cX4_askBack 6 = .ok (.getfield 25, 3) := by decide +kernel
theorem dX4_askBack_9 : decode cX4_askBack 9 = .ok (.arraylength, 1) := by decide +kernel
theorem dX4_askBack_10 : decode cX4_askBack 10 = .ok (.if_icmp .ge 59, 3) := by decide +kernel
theorem dX4_askBack_13 : decode cX4_askBack 13 = .ok (.iload_n 2, 1) := by decide +kernel
theorem dX4_askBack_14 : decode cX4_askBack 14 = .ok (.ifCond .le 55, 3) := by decide +kernel
theorem dX4_askBack_17 : decode cX4_askBack 17 = .ok (.aload_n 0, 1) := by decide +kernel
theorem dX4_askBack_18 : decode cX4_askBack 18 = .ok (.invokevirtual 108, 3) := by decide +kernel
theorem dX4_askBack_21 : decode cX4_askBack 21 = .ok (.astore 4, 2) := by decide +kernel
theorem dX4_askBack_23 : decode cX4_askBack 23 = .ok (.aload 4, 2) := by decide +kernel
theorem dX4_askBack_25 : decode cX4_askBack 25 = .ok (.ifnonnull 4, 3) := by decide +kernel
theorem dX4_askBack_28 : decode cX4_askBack 28 = .ok (.return_, 1) := by decide +kernel
theorem dX4_askBack_29 : decode cX4_askBack 29 = .ok (.iload_n 2, 1) := by decide +kernel
theorem dX4_askBack_30 : decode cX4_askBack 30 = .ok (.aload 4, 2) := by decide +kernel
theorem dX4_askBack_32 : decode cX4_askBack 32 = .ok (.invokevirtual 111, 3) := by decide +kernel
theorem dX4_askBack_35 : decode cX4_askBack 35 = .ok (.invokestatic 78, 3) := by decide +kernel
theorem dX4_askBack_38 : decode cX4_askBack 38 = .ok (.istore 5, 2) := by decide +kernel
theorem dX4_askBack_40 : decode cX4_askBack 40 = .ok (.aload 4, 2) := by decide +kernel
theorem dX4_askBack_42 : decode cX4_askBack 42 = .ok (.iload 5, 2) := by decide +kernel
theorem dX4_askBack_44 : decode cX4_askBack 44 = .ok (.invokevirtual 112, 3) := by decide +kernel
theorem dX4_askBack_47 : decode cX4_askBack 47 = .ok (.aload_n 0, 1) := by decide +kernel
theorem dX4_askBack_48 : decode cX4_askBack 48 = .ok (.dup, 1) := by decide +kernel
theorem dX4_askBack_49 : decode cX4_askBack 49 = .ok (.getfield 115, 3) := by decide +kernel
theorem dX4_askBack_52 : decode cX4_askBack 52 = .ok (.iload 5, 2) := by decide +kernel
theorem dX4_askBack_54 : decode cX4_askBack 54 = .ok (.iadd, 1) := by decide +kernel
theorem dX4_askBack_55 : decode cX4_askBack 55 = .ok (.putfield 115, 3) := by decide +kernel
theorem dX4_askBack_58 : decode cX4_askBack 58 = .ok (.iload_n 2, 1) := by decide +kernel
theorem dX4_askBack_59 : decode cX4_askBack 59 = .ok (.iload 5, 2) := by decide +kernel
theorem dX4_askBack_61 : decode cX4_askBack 61 = .ok (.isub, 1) := by decide +kernel
theorem dX4_askBack_62 : decode cX4_askBack 62 = .ok (.istore_n 2, 1) := by decide +kernel
theorem dX4_askBack_63 : decode cX4_askBack 63 = .ok (.iinc 3 1, 3) := by decide +kernel
theorem dX4_askBack_66 : decode cX4_askBack 66 = .ok (.goto (-62), 3) := by decide +kernel
theorem dX4_askBack_69 : decode cX4_askBack 69 = .ok (.return_, 1) := by decide +kernel
set_option maxRecDepth 20000 in
theorem ggX4_richest_X1_surplus : GoodIn wsX4_richest wsX1_surplus := goodIn_r _ [6, 7, 8, 9, 17, 18, 19, 20, 21, 22, 23, 24, 25, 26, 27, 28, 29] (by decide +kernel) (by decide +kernel)
set_option maxRecDepth 20000 in
theorem gX4_richest_X1_surplus : GoodIn wsX4_richest (wsV RX4 111 RX1 yX1_surplus wsX1_surplus) := goodIn_app (goodIn_of _ (by decide +kernel)) ggX4_richest_X1_surplus
theorem dX4_richest_0 : decode cX4_richest 0 = .ok (.aconst_null, 1) := by decide +kernel
theorem dX4_richest_1 : decode cX4_richest 1 = .ok (.astore_n 1, 1) := by decide +kernel
theorem dX4_richest_2 : decode cX4_richest 2 = .ok (.aload_n 0, 1) := by decide +kernel
theorem dX4_richest_3 : decode cX4_richest 3 = .ok (.getfield 25, 3) := by decide +kernel
theorem dX4_richest_6 : decode cX4_richest 6 = .ok (.astore_n 2, 1) := by decide +kernel
theorem dX4_richest_7 : decode cX4_richest 7 = .ok (.aload_n 2, 1) := by decide +kernel
theorem dX4_richest_8 : decode cX4_richest 8 = .ok (.arraylength, 1) := by decide +kernel
theorem dX4_richest_9 : decode cX4_richest 9 = .ok (.istore_n 3, 1) := by decide +kernel
theorem dX4_richest_10 : decode cX4_richest 10 = .ok (.iconst 0, 1) := by decide +kernel
theorem dX4_richest_11 : decode cX4_richest 11 = .ok (.istore 4, 2) := by decide +kernel
theorem dX4_richest_13 : decode cX4_richest 13 = .ok (.iload 4, 2) := by decide +kernel
theorem dX4_richest_15 : decode cX4_richest 15 = .ok (.iload_n 3, 1) := by decide +kernel
theorem dX4_richest_16 : decode cX4_richest 16 = .ok (.if_icmp .ge 34, 3) := by decide +kernel
theorem dX4_richest_19 : decode cX4_richest 19 = .ok (.aload_n 2, 1) := by decide +kernel
theorem dX4_richest_20 : decode cX4_richest 20 = .ok (.iload 4, 2) := by decide +kernel
theorem dX4_richest_22 : decode cX4_richest 22 = .ok (.aaload, 1) := by decide +kernel
theorem dX4_richest_23 : decode cX4_richest 23 = .ok (.astore 5, 2) := by decide +kernel
theorem dX4_richest_25 : decode cX4_richest 25 = .ok (.aload_n 1, 1) := by decide +kernel
theorem dX4_richest_26 : decode cX4_richest 26 = .ok (.ifnull 15, 3) := by decide +kernel
theorem dX4_richest_29 : decode cX4_richest 29 = .ok (.aload 5, 2) := by decide +kernel
theorem dX4_richest_31 : decode cX4_richest 31 = .ok (.invokevirtual 111, 3) := by decide +kernel
theorem dX4_richest_34 : decode cX4_richest 34 = .ok (.aload_n 1, 1) := by decide +kernel
theorem dX4_richest_35 : decode cX4_richest 35 = .ok (.invokevirtual 111, 3) := by decide +kernel
theorem dX4_richest_38 : decode cX4_richest 38 = .ok (.if_icmp .le 6, 3) := by decide +kernel
theorem dX4_richest_41 : decode cX4_richest 41 = .ok (.aload 5, 2) := by decide +kernel
theorem dX4_richest_43 : decode cX4_richest 43 = .ok (.astore_n 1, 1) := by decide +kernel
theorem dX4_richest_44 : decode cX4_richest 44 = .ok (.iinc 4 1, 3) := by decide +kernel
theorem dX4_richest_47 : decode cX4_richest 47 = .ok (.goto (-34), 3) := by decide +kernel
theorem dX4_richest_50 : decode cX4_richest 50 = .ok (.aload_n 1, 1) := by decide +kernel
theorem dX4_richest_51 : decode cX4_richest 51 = .ok (.areturn, 1) := by decide +kernel
set_option maxRecDepth 20000 in
theorem ggX4_isAhead_X1_need : GoodIn wsX4_isAhead wsX1_need := goodIn_r _ [5, 6, 18, 19, 20, 21, 22, 23, 24, 25, 26, 27, 28, 29, 30] (by decide +kernel) (by decide +kernel)
set_option maxRecDepth 20000 in
theorem gX4_isAhead_X1_need : GoodIn wsX4_isAhead (wsV RX4 69 RX1 yX1_need wsX1_need) := goodIn_app (goodIn_of _ (by decide +kernel)) ggX4_isAhead_X1_need
set_option maxRecDepth 20000 in
theorem ggX4_isAhead_X4_setting : GoodIn wsX4_isAhead wsX4_setting := goodIn_r _ [11, 12, 31, 32, 33, 34, 35, 36, 37] (by decide +kernel) (by decide +kernel)
set_option maxRecDepth 20000 in
theorem gX4_isAhead_X4_setting : GoodIn wsX4_isAhead (wsV RX4 101 RX4 yX4_setting wsX4_setting) := goodIn_app (goodIn_of _ (by decide +kernel)) ggX4_isAhead_X4_setting
set_option maxRecDepth 20000 in
theorem ggX4_isAhead_X1_number : GoodIn wsX4_isAhead wsX1_number := goodIn_r _ [16, 17, 18, 19, 20, 21, 22, 23, 24, 25] (by decide +kernel) (by decide +kernel)
set_option maxRecDepth 20000 in
theorem gX4_isAhead_X1_number : GoodIn wsX4_isAhead (wsV RX4 49 RX1 yX1_number wsX1_number) := goodIn_app (goodIn_of _ (by decide +kernel)) ggX4_isAhead_X1_number
theorem dX4_isAhead_0 : decode cX4_isAhead 0 = .ok (.aload_n 1, 1) := by decide +kernel
theorem dX4_isAhead_1 : decode cX4_isAhead 1 = .ok (.invokevirtual 69, 3) := by decide +kernel
theorem dX4_isAhead_4 : decode cX4_isAhead 4 = .ok (.istore_n 3, 1) := by decide +kernel
theorem dX4_isAhead_5 : decode cX4_isAhead 5 = .ok (.aload_n 2, 1) := by decide +kernel
theorem dX4_isAhead_6 : decode cX4_isAhead 6 = .ok (.invokevirtual 69, 3) := by decide +kernel
theorem dX4_isAhead_9 : decode cX4_isAhead 9 = .ok (.istore 4, 2) := by decide +kernel
theorem dX4_isAhead_11 : decode cX4_isAhead 11 = .ok (.aload_n 0, 1) := by decide +kernel
theorem dX4_isAhead_12 : decode cX4_isAhead 12 = .ok (.iconst 1, 1) := by decide +kernel
theorem dX4_isAhead_13 : decode cX4_isAhead 13 = .ok (.invokevirtual 101, 3) := by decide +kernel
theorem dX4_isAhead_16 : decode cX4_isAhead 16 = .ok (.iconst 1, 1) := by decide +kernel
theorem dX4_isAhead_17 : decode cX4_isAhead 17 = .ok (.if_icmp .ne 21, 3) := by decide +kernel
theorem dX4_isAhead_20 : decode cX4_isAhead 20 = .ok (.iload_n 3, 1) := by decide +kernel
theorem dX4_isAhead_21 : decode cX4_isAhead 21 = .ok (.iload 4, 2) := by decide +kernel
theorem dX4_isAhead_23 : decode cX4_isAhead 23 = .ok (.if_icmp .eq 15, 3) := by decide +kernel
theorem dX4_isAhead_26 : decode cX4_isAhead 26 = .ok (.iload_n 3, 1) := by decide +kernel
theorem dX4_isAhead_27 : decode cX4_isAhead 27 = .ok (.iload 4, 2) := by decide +kernel
theorem dX4_isAhead_29 : decode cX4_isAhead 29 = .ok (.if_icmp .ge 7, 3) := by decide +kernel
theorem dX4_isAhead_32 : decode cX4_isAhead 32 = .ok (.iconst 1, 1) := by decide +kernel
theorem dX4_isAhead_33 : decode cX4_isAhead 33 = .ok (.goto 4, 3) := by decide +kernel
theorem dX4_isAhead_36 : decode cX4_isAhead 36 = .ok (.iconst 0, 1) := by decide +kernel
theorem dX4_isAhead_37 : decode cX4_isAhead 37 = .ok (.ireturn, 1) := by decide +kernel
theorem dX4_isAhead_38 : decode cX4_isAhead 38 = .ok (.aload_n 1, 1) := by decide +kernel
theorem dX4_isAhead_39 : decode cX4_isAhead 39 = .ok (.invokevirtual 49, 3) := by decide +kernel
theorem dX4_isAhead_42 : decode cX4_isAhead 42 = .ok (.aload_n 2, 1) := by decide +kernel
theorem dX4_isAhead_43 : decode cX4_isAhead 43 = .ok (.invokevirtual 49, 3) := by decide +kernel
theorem dX4_isAhead_46 : decode cX4_isAhead 46 = .ok (.if_icmp .ge 7, 3) := by decide +kernel
theorem dX4_isAhead_49 : decode cX4_isAhead 49 = .ok (.iconst 1, 1) := by decide +kernel
theorem dX4_isAhead_50 : decode cX4_isAhead 50 = .ok (.goto 4, 3) := by decide +kernel
theorem dX4_isAhead_53 : decode cX4_isAhead 53 = .ok (.iconst 0, 1) := by decide +kernel
theorem dX4_isAhead_54 : decode cX4_isAhead 54 = .ok (.ireturn, 1) := by decide +kernel
set_option maxRecDepth 20000 in
theorem ggX4_rankOf_X1_isIn : GoodIn wsX4_rankOf wsX1_isIn := goodIn_r _ [6, 7, 35, 36, 37, 38, 39, 40, 41, 42] (by decide +kernel) (by decide +kernel)
set_option maxRecDepth 20000 in
theorem gX4_rankOf_X1_isIn : GoodIn wsX4_rankOf (wsV RX4 61 RX1 yX1_isIn wsX1_isIn) := goodIn_app (goodIn_of _ (by decide +kernel)) ggX4_rankOf_X1_isIn
set_option maxRecDepth 20000 in
theorem ggX4_rankOf_X4_isAhead : GoodIn wsX4_rankOf wsX4_isAhead := goodIn_r _ [12, 13, 14, 15, 5, 16, 17, 18, 19, 20, 11, 21, 22, 23, 24, 25, 26, 27, 35, 36, 37, 38, 39, 40, 41, 42, 43, 44, 45, 46, 47, 28, 29, 30, 31, 32, 33, 34] (by decide +kernel) (by decide +kernel)
set_option maxRecDepth 20000 in
theorem gX4_rankOf_X4_isAhead : GoodIn wsX4_rankOf (wsV RX4 65 RX4 yX4_isAhead wsX4_isAhead) := goodIn_app (goodIn_of _ (by decide +kernel)) ggX4_rankOf_X4_isAhead
theorem dX4_rankOf_0 : decode cX4_rankOf 0 = .ok (.iconst 0, 1) := by decide +kernel
theorem dX4_rankOf_1 : decode cX4_rankOf 1 = .ok (.istore_n 2, 1) := by decide +kernel
theorem dX4_rankOf_2 : decode cX4_rankOf 2 = .ok (.aload_n 0, 1) := by decide +kernel
theorem dX4_rankOf_3 : decode cX4_rankOf 3 = .ok (.getfield 25, 3) := by decide +kernel
theorem dX4_rankOf_6 : decode cX4_rankOf 6 = .ok (.astore_n 3, 1) := by decide +kernel
theorem dX4_rankOf_7 : decode cX4_rankOf 7 = .ok (.aload_n 3, 1) := by decide +kernel
theorem dX4_rankOf_8 : decode cX4_rankOf 8 = .ok (.arraylength, 1) := by decide +kernel
theorem dX4_rankOf_9 : decode cX4_rankOf 9 = .ok (.istore 4, 2) := by decide +kernel
theorem dX4_rankOf_11 : decode cX4_rankOf 11 = .ok (.iconst 0, 1) := by decide +kernel
theorem dX4_rankOf_12 : decode cX4_rankOf 12 = .ok (.istore 5, 2) := by decide +kernel
theorem dX4_rankOf_14 : decode cX4_rankOf 14 = .ok (.iload 5, 2) := by decide +kernel
theorem dX4_rankOf_16 : decode cX4_rankOf 16 = .ok (.iload 4, 2) := by decide +kernel
theorem dX4_rankOf_18 : decode cX4_rankOf 18 = .ok (.if_icmp .ge 37, 3) := by decide +kernel
theorem dX4_rankOf_21 : decode cX4_rankOf 21 = .ok (.aload_n 3, 1) := by decide +kernel
theorem dX4_rankOf_22 : decode cX4_rankOf 22 = .ok (.iload 5, 2) := by decide +kernel
theorem dX4_rankOf_24 : decode cX4_rankOf 24 = .ok (.aaload, 1) := by decide +kernel
theorem dX4_rankOf_25 : decode cX4_rankOf 25 = .ok (.astore 6, 2) := by decide +kernel
theorem dX4_rankOf_27 : decode cX4_rankOf 27 = .ok (.aload 6, 2) := by decide +kernel
theorem dX4_rankOf_29 : decode cX4_rankOf 29 = .ok (.iconst 0, 1) := by decide +kernel
theorem dX4_rankOf_30 : decode cX4_rankOf 30 = .ok (.invokevirtual 61, 3) := by decide +kernel
theorem dX4_rankOf_33 : decode cX4_rankOf 33 = .ok (.ifCond .eq 16, 3) := by decide +kernel
theorem dX4_rankOf_36 : decode cX4_rankOf 36 = .ok (.aload_n 0, 1) := by decide +kernel
theorem dX4_rankOf_37 : decode cX4_rankOf 37 = .ok (.aload 6, 2) := by decide +kernel
theorem dX4_rankOf_39 : decode cX4_rankOf 39 = .ok (.aload_n 1, 1) := by decide +kernel
theorem dX4_rankOf_40 : decode cX4_rankOf 40 = .ok (.invokevirtual 65, 3) := by decide +kernel
theorem dX4_rankOf_43 : decode cX4_rankOf 43 = .ok (.ifCond .eq 6, 3) := by decide +kernel
theorem dX4_rankOf_46 : decode cX4_rankOf 46 = .ok (.iinc 2 1, 3) := by decide +kernel
theorem dX4_rankOf_49 : decode cX4_rankOf 49 = .ok (.iinc 5 1, 3) := by decide +kernel
theorem dX4_rankOf_52 : decode cX4_rankOf 52 = .ok (.goto (-38), 3) := by decide +kernel
theorem dX4_rankOf_55 : decode cX4_rankOf 55 = .ok (.iload_n 2, 1) := by decide +kernel
theorem dX4_rankOf_56 : decode cX4_rankOf 56 = .ok (.ireturn, 1) := by decide +kernel
set_option maxRecDepth 20000 in
theorem ggX4_atRank_X1_isIn : GoodIn wsX4_atRank wsX1_isIn := goodIn_r _ [6, 7, 39, 40, 41, 42, 43, 44, 45, 46] (by decide +kernel) (by decide +kernel)
set_option maxRecDepth 20000 in
theorem gX4_atRank_X1_isIn : GoodIn wsX4_atRank (wsV RX4 61 RX1 yX1_isIn wsX1_isIn) := goodIn_app (goodIn_of _ (by decide +kernel)) ggX4_atRank_X1_isIn
set_option maxRecDepth 20000 in
theorem ggX4_atRank_X4_rankOf : GoodIn wsX4_atRank wsX4_rankOf := goodIn_r _ [12, 1, 2, 3, 4, 5, 6, 7, 13, 14, 15, 11, 16, 17, 18, 19, 20, 21, 22, 23, 24, 25, 26, 27, 28, 29, 30, 31, 32, 33, 34, 35, 36, 37, 38, 39, 40, 41, 42, 43, 44, 45, 46, 47, 48, 49, 50, 51] (by decide +kernel) (by decide +kernel)
set_option maxRecDepth 20000 in
theorem gX4_atRank_X4_rankOf : GoodIn wsX4_atRank (wsV RX4 118 RX4 yX4_rankOf wsX4_rankOf) := goodIn_app (goodIn_of _ (by decide +kernel)) ggX4_atRank_X4_rankOf
theorem dX4_atRank_0 : decode cX4_atRank 0 = .ok (.aload_n 0, 1) := by decide +kernel
theorem dX4_atRank_1 : decode cX4_atRank 1 = .ok (.getfield 25, 3) := by decide +kernel
theorem dX4_atRank_4 : decode cX4_atRank 4 = .ok (.astore_n 2, 1) := by decide +kernel
theorem dX4_atRank_5 : decode cX4_atRank 5 = .ok (.aload_n 2, 1) := by decide +kernel
theorem dX4_atRank_6 : decode cX4_atRank 6 = .ok (.arraylength, 1) := by decide +kernel
theorem dX4_atRank_7 : decode cX4_atRank 7 = .ok (.istore_n 3, 1) := by decide +kernel
theorem dX4_atRank_8 : decode cX4_atRank 8 = .ok (.iconst 0, 1) := by decide +kernel
theorem dX4_atRank_9 : decode cX4_atRank 9 = .ok (.istore 4, 2) := by decide +kernel
theorem dX4_atRank_11 : decode cX4_atRank 11 = .ok (.iload 4, 2) := by decide +kernel
theorem dX4_atRank_13 : decode cX4_atRank 13 = .ok (.iload_n 3, 1) := by decide +kernel
theorem dX4_atRank_14 : decode cX4_atRank 14 = .ok (.if_icmp .ge 37, 3) := by decide +kernel
theorem dX4_atRank_17 : decode cX4_atRank 17 = .ok (.aload_n 2, 1) := by decide +kernel
theorem dX4_atRank_18 : decode cX4_atRank 18 = .ok (.iload 4, 2) := by decide +kernel
theorem dX4_atRank_20 : decode cX4_atRank 20 = .ok (.aaload, 1) := by decide +kernel
theorem dX4_atRank_21 : decode cX4_atRank 21 = .ok (.astore 5, 2) := by decide +kernel
theorem dX4_atRank_23 : decode cX4_atRank 23 = .ok (.aload 5, 2) := by decide +kernel
theorem dX4_atRank_25 : decode cX4_atRank 25 = .ok (.iconst 0, 1) := by decide +kernel
theorem dX4_atRank_26 : decode cX4_atRank 26 = .ok (.invokevirtual 61, 3) := by decide +kernel
theorem dX4_atRank_29 : decode cX4_atRank 29 = .ok (.ifCond .eq 16, 3) := by decide +kernel
theorem dX4_atRank_32 : decode cX4_atRank 32 = .ok (.aload_n 0, 1) := by decide +kernel
theorem dX4_atRank_33 : decode cX4_atRank 33 = .ok (.aload 5, 2) := by decide +kernel
theorem dX4_atRank_35 : decode cX4_atRank 35 = .ok (.invokevirtual 118, 3) := by decide +kernel
theorem dX4_atRank_38 : decode cX4_atRank 38 = .ok (.iload_n 1, 1) := by decide +kernel
theorem dX4_atRank_39 : decode cX4_atRank 39 = .ok (.if_icmp .ne 6, 3) := by decide +kernel
theorem dX4_atRank_42 : decode cX4_atRank 42 = .ok (.aload 5, 2) := by decide +kernel
theorem dX4_atRank_44 : decode cX4_atRank 44 = .ok (.areturn, 1) := by decide +kernel
theorem dX4_atRank_45 : decode cX4_atRank 45 = .ok (.iinc 4 1, 3) := by decide +kernel
theorem dX4_atRank_48 : decode cX4_atRank 48 = .ok (.goto (-37), 3) := by decide +kernel
theorem dX4_atRank_51 : decode cX4_atRank 51 = .ok (.aconst_null, 1) := by decide +kernel
theorem dX4_atRank_52 : decode cX4_atRank 52 = .ok (.areturn, 1) := by decide +kernel
set_option maxRecDepth 20000 in
theorem ggX4_hindrance_X1_isIn : GoodIn wsX4_hindrance wsX1_isIn := goodIn_r _ [5, 6, 32, 33, 34, 35, 36, 37, 38, 39] (by decide +kernel) (by decide +kernel)
set_option maxRecDepth 20000 in
theorem gX4_hindrance_X1_isIn : GoodIn wsX4_hindrance (wsV RX4 61 RX1 yX1_isIn wsX1_isIn) := goodIn_app (goodIn_of _ (by decide +kernel)) ggX4_hindrance_X1_isIn
set_option maxRecDepth 20000 in
theorem ggX4_hindrance_X1_need : GoodIn wsX4_hindrance wsX1_need := goodIn_r _ [10, 11, 32, 33, 34, 35, 36, 37, 38, 39, 40, 41, 42, 43, 44] (by decide +kernel) (by decide +kernel)
set_option maxRecDepth 20000 in
theorem gX4_hindrance_X1_need : GoodIn wsX4_hindrance (wsV RX4 69 RX1 yX1_need wsX1_need) := goodIn_app (goodIn_of _ (by decide +kernel)) ggX4_hindrance_X1_need
set_option maxRecDepth 20000 in
theorem ggX4_hindrance_X4_setting : GoodIn wsX4_hindrance wsX4_setting := goodIn_r _ [16, 17, 45, 46, 47, 48, 49, 50, 51] (by decide +kernel) (by decide +kernel)
set_option maxRecDepth 20000 in
theorem gX4_hindrance_X4_setting : GoodIn wsX4_hindrance (wsV RX4 101 RX4 yX4_setting wsX4_setting) := goodIn_app (goodIn_of _ (by decide +kernel)) ggX4_hindrance_X4_setting
set_option maxRecDepth 20000 in
theorem ggX4_hindrance_X4_rankOf : GoodIn wsX4_hindrance wsX4_rankOf := goodIn_r _ [21, 22, 1, 2, 3, 4, 5, 6, 23, 24, 25, 15, 26, 7, 8, 9, 10, 11, 12, 13, 14, 16, 17, 27, 28, 29, 30, 31, 45, 46, 47, 48, 49, 50, 51, 32, 33, 34, 35, 36, 37, 38, 39, 40, 41, 42, 43, 44] (by decide +kernel) (by decide +kernel)
set_option maxRecDepth 20000 in
theorem gX4_hindrance_X4_rankOf : GoodIn wsX4_hindrance (wsV RX4 118 RX4 yX4_rankOf wsX4_rankOf) := goodIn_app (goodIn_of _ (by decide +kernel)) ggX4_hindrance_X4_rankOf
theorem dX4_hindrance_0 : decode cX4_hindrance 0 = .ok (.aload_n 1, 1) := by decide +kernel
theorem dX4_hindrance_1 : decode cX4_hindrance 1 = .ok (.iconst 0, 1) := by decide +kernel
theorem dX4_hindrance_2 : decode cX4_hindrance 2 = .ok (.invokevirtual 61, 3) := by decide +kernel
theorem dX4_hindrance_5 : decode cX4_hindrance 5 = .ok (.ifCond .ne 5, 3) := by decide +kernel
theorem dX4_hindrance_8 : decode cX4_hindrance 8 = .ok (.iconst 0, 1) := by decide +kernel
theorem dX4_hindrance_9 : decode cX4_hindrance 9 = .ok (.ireturn, 1) := by decide +kernel
theorem dX4_hindrance_10 : decode cX4_hindrance 10 = .ok (.aload_n 1, 1) := by decide +kernel
theorem dX4_hindrance_11 : decode cX4_hindrance 11 = .ok (.invokevirtual 69, 3) := by decide +kernel
theorem dX4_hindrance_14 : decode cX4_hindrance 14 = .ok (.aload_n 0, 1) := by decide +kernel
theorem dX4_hindrance_15 : decode cX4_hindrance 15 = .ok (.iconst 0, 1) := by decide +kernel
theorem dX4_hindrance_16 : decode cX4_hindrance 16 = .ok (.invokevirtual 101, 3) := by decide +kernel
theorem dX4_hindrance_19 : decode cX4_hindrance 19 = .ok (.if_icmp .le 5, 3) := by decide +kernel
theorem dX4_hindrance_22 : decode cX4_hindrance 22 = .ok (.iconst 1, 1) := by decide +kernel
theorem dX4_hindrance_23 : decode cX4_hindrance 23 = .ok (.ireturn, 1) := by decide +kernel
theorem dX4_hindrance_24 : decode cX4_hindrance 24 = .ok (.aload_n 0, 1) := by decide +kernel
theorem dX4_hindrance_25 : decode cX4_hindrance 25 = .ok (.aload_n 1, 1) := by decide +kernel
theorem dX4_hindrance_26 : decode cX4_hindrance 26 = .ok (.invokevirtual 118, 3) := by decide +kernel
theorem dX4_hindrance_29 : decode cX4_hindrance 29 = .ok (.ifCond .le 7, 3) := by decide +kernel
theorem dX4_hindrance_32 : decode cX4_hindrance 32 = .ok (.iconst 2, 1) := by decide +kernel
theorem dX4_hindrance_33 : decode cX4_hindrance 33 = .ok (.goto 4, 3) := by decide +kernel
theorem dX4_hindrance_36 : decode cX4_hindrance 36 = .ok (.iconst 3, 1) := by decide +kernel
theorem dX4_hindrance_37 : decode cX4_hindrance 37 = .ok (.ireturn, 1) := by decide +kernel
set_option maxRecDepth 20000 in
theorem ggX4_leap_X4_setting : GoodIn wsX4_leap wsX4_setting := goodIn_r _ [12, 13, 126, 127, 128, 129, 130, 131, 132] (by decide +kernel) (by decide +kernel)
set_option maxRecDepth 20000 in
theorem gX4_leap_X4_setting : GoodIn wsX4_leap (wsV RX4 101 RX4 yX4_setting wsX4_setting) := goodIn_app (goodIn_of _ (by decide +kernel)) ggX4_leap_X4_setting
set_option maxRecDepth 20000 in
theorem ggX4_leap_X1_isIn : GoodIn wsX4_leap wsX1_isIn := goodIn_r _ [18, 19, 133, 134, 135, 136, 137, 138, 139, 140] (by decide +kernel) (by decide +kernel)
set_option maxRecDepth 20000 in
theorem gX4_leap_X1_isIn : GoodIn wsX4_leap (wsV RX4 61 RX1 yX1_isIn wsX1_isIn) := goodIn_app (goodIn_of _ (by decide +kernel)) ggX4_leap_X1_isIn
set_option maxRecDepth 20000 in
theorem ggX4_leap_X1_stepsLeft : GoodIn wsX4_leap wsX1_stepsLeft := goodIn_r _ [23, 24, 133, 134, 135, 136, 137, 138, 139, 140] (by decide +kernel) (by decide +kernel)
set_option maxRecDepth 20000 in
theorem gX4_leap_X1_stepsLeft : GoodIn wsX4_leap (wsV RX4 122 RX1 yX1_stepsLeft wsX1_stepsLeft) := goodIn_app (goodIn_of _ (by decide +kernel)) ggX4_leap_X1_stepsLeft
set_option maxRecDepth 20000 in
theorem ggX4_leap_X1_pass : GoodIn wsX4_leap wsX1_pass := goodIn_r _ [28, 19, 29, 30, 24, 31, 3, 4, 5, 133, 134, 135, 136, 137, 138, 139, 140] (by decide +kernel) (by decide +kernel)
set_option maxRecDepth 20000 in
theorem gX4_leap_X1_pass : GoodIn wsX4_leap (wsV RX4 128 RX1 yX1_pass wsX1_pass) := goodIn_app (goodIn_of _ (by decide +kernel)) ggX4_leap_X1_pass
set_option maxRecDepth 20000 in
theorem ggX4_leap_X1_hasWorkedAll : GoodIn wsX4_leap wsX1_hasWorkedAll := goodIn_r _ [35, 19, 24, 133, 134, 135, 136, 137, 138, 139, 140] (by decide +kernel) (by decide +kernel)
set_option maxRecDepth 20000 in
theorem gX4_leap_X1_hasWorkedAll : GoodIn wsX4_leap (wsV RX4 131 RX1 yX1_hasWorkedAll wsX1_hasWorkedAll) := goodIn_app (goodIn_of _ (by decide +kernel)) ggX4_leap_X1_hasWorkedAll
set_option maxRecDepth 20000 in
theorem ggX4_leap_X1_end : GoodIn wsX4_leap wsX1_end := goodIn_r _ [39, 19, 40, 24, 133, 134, 135, 136, 137, 138, 139, 140] (by decide +kernel) (by decide +kernel)
set_option maxRecDepth 20000 in
theorem gX4_leap_X1_end : GoodIn wsX4_leap (wsV RX4 135 RX1 yX1_end wsX1_end) := goodIn_app (goodIn_of _ (by decide +kernel)) ggX4_leap_X1_end
set_option maxRecDepth 20000 in
theorem ggX4_leap_X4_goThroughQueue : GoodIn wsX4_leap wsX4_goThroughQueue := goodIn_r _ [44, 1, 45, 46, 47, 11, 48, 14, 15, 16, 17, 18, 19, 49, 50, 51, 52, 53, 54, 55, 56, 57, 8, 9, 10, 12, 13, 58, 59, 60, 61, 62, 63, 64, 65, 66, 2, 3, 4, 5, 67, 68, 69, 70, 71, 72, 73, 74, 75, 76, 77, 78, 79, 80, 81, 82, 40, 83, 84, 85, 86, 87, 88, 89, 90, 24, 91, 92, 93, 94, 95, 96, 97, 98, 99, 100, 101, 102, 103, 104, 105, 106, 107, 108, 109, 110, 111, 112, 113, 114, 115, 116, 117, 118, 119, 120, 121, 122, 123, 124, 125, 126, 127, 128, 129, 130, 131, 132, 133, 134, 135, 136, 137, 138, 139, 140, 141, 142, 143, 144, 145] (by decide +kernel) (by decide +kernel)
set_option maxRecDepth 20000 in
theorem gX4_leap_X4_goThroughQueue : GoodIn wsX4_leap (wsV RX4 38 RX4 yX4_goThroughQueue wsX4_goThroughQueue) := goodIn_app (goodIn_of _ (by decide +kernel)) ggX4_leap_X4_goThroughQueue
theorem dX4_leap_0 : decode cX4_leap 0 = .ok (.aload_n 0, 1) := by decide +kernel
theorem dX4_leap_1 : decode cX4_leap 1 = .ok (.iconst 3, 1) := by decide +kernel
theorem dX4_leap_2 : decode cX4_leap 2 = .ok (.invokevirtual 101, 3) := by decide +kernel
theorem dX4_leap_5 : decode cX4_leap 5 = .ok (.istore_n 2, 1) := by decide +kernel
theorem dX4_leap_6 : decode cX4_leap 6 = .ok (.iload_n 1, 1) := by decide +kernel
theorem dX4_leap_7 : decode cX4_leap 7 = .ok (.istore_n 3, 1) := by decide +kernel
theorem dX4_leap_8 : decode cX4_leap 8 = .ok (.aload_n 0, 1) := by decide +kernel
theorem dX4_leap_9 : decode cX4_leap 9 = .ok (.getfield 25, 3) := by decide +kernel
theorem dX4_leap_12 : decode cX4_leap 12 = .ok (.astore 4, 2) := by decide +kernel
theorem dX4_leap_14 : decode cX4_leap 14 = .ok (.aload 4, 2) := by decide +kernel
theorem dX4_leap_16 : decode cX4_leap 16 = .ok (.arraylength, 1) := by decide +kernel
theorem dX4_leap_17 : decode cX4_leap 17 = .ok (.istore 5, 2) := by decide +kernel
theorem dX4_leap_19 : decode cX4_leap 19 = .ok (.iconst 0, 1) := by decide +kernel
theorem dX4_leap_20 : decode cX4_leap 20 = .ok (.istore 6, 2) := by decide +kernel
theorem dX4_leap_22 : decode cX4_leap 22 = .ok (.iload 6, 2) := by decide +kernel
theorem dX4_leap_24 : decode cX4_leap 24 = .ok (.iload 5, 2) := by decide +kernel
theorem dX4_leap_26 : decode cX4_leap 26 = .ok (.if_icmp .ge 36, 3) := by decide +kernel
theorem dX4_leap_29 : decode cX4_leap 29 = .ok (.aload 4, 2) := by decide +kernel
theorem dX4_leap_31 : decode cX4_leap 31 = .ok (.iload 6, 2) := by decide +kernel
theorem dX4_leap_33 : decode cX4_leap 33 = .ok (.aaload, 1) := by decide +kernel
theorem dX4_leap_34 : decode cX4_leap 34 = .ok (.astore 7, 2) := by decide +kernel
theorem dX4_leap_36 : decode cX4_leap 36 = .ok (.aload 7, 2) := by decide +kernel
theorem dX4_leap_38 : decode cX4_leap 38 = .ok (.iconst 1, 1) := by decide +kernel
theorem dX4_leap_39 : decode cX4_leap 39 = .ok (.invokevirtual 61, 3) := by decide +kernel
theorem dX4_leap_42 : decode cX4_leap 42 = .ok (.ifCond .eq 14, 3) := by decide +kernel
theorem dX4_leap_45 : decode cX4_leap 45 = .ok (.iload_n 3, 1) := by decide +kernel
theorem dX4_leap_46 : decode cX4_leap 46 = .ok (.aload 7, 2) := by decide +kernel
theorem dX4_leap_48 : decode cX4_leap 48 = .ok (.iload_n 2, 1) := by decide +kernel
theorem dX4_leap_49 : decode cX4_leap 49 = .ok (.invokevirtual 122, 3) := by decide +kernel
theorem dX4_leap_52 : decode cX4_leap 52 = .ok (.invokestatic 78, 3) := by decide +kernel
theorem dX4_leap_55 : decode cX4_leap 55 = .ok (.istore_n 3, 1) := by decide +kernel
theorem dX4_leap_56 : decode cX4_leap 56 = .ok (.iinc 6 1, 3) := by decide +kernel
theorem dX4_leap_59 : decode cX4_leap 59 = .ok (.goto (-37), 3) := by decide +kernel
theorem dX4_leap_62 : decode cX4_leap 62 = .ok (.iconst 0, 1) := by decide +kernel
theorem dX4_leap_63 : decode cX4_leap 63 = .ok (.istore 4, 2) := by decide +kernel
theorem dX4_leap_65 : decode cX4_leap 65 = .ok (.aload_n 0, 1) := by decide +kernel
theorem dX4_leap_66 : decode cX4_leap 66 = .ok (.getfield 25, 3) := by decide +kernel
theorem dX4_leap_69 : decode cX4_leap 69 = .ok (.astore 5, 2) := by decide +kernel
theorem dX4_leap_71 : decode cX4_leap 71 = .ok (.aload 5, 2) := by decide +kernel
theorem dX4_leap_73 : decode cX4_leap 73 = .ok (.arraylength, 1) := by decide +kernel
theorem dX4_leap_74 : decode cX4_leap 74 = .ok (.istore 6, 2) := by decide +kernel
theorem dX4_leap_76 : decode cX4_leap 76 = .ok (.iconst 0, 1) := by decide +kernel
theorem dX4_leap_77 : decode cX4_leap 77 = .ok (.istore 7, 2) := by decide +kernel
theorem dX4_leap_79 : decode cX4_leap 79 = .ok (.iload 7, 2) := by decide +kernel
theorem dX4_leap_81 : decode cX4_leap 81 = .ok (.iload 6, 2) := by decide +kernel
theorem dX4_leap_83 : decode cX4_leap 83 = .ok (.if_icmp .ge 49, 3) := by decide +kernel
theorem dX4_leap_86 : decode cX4_leap 86 = .ok (.aload 5, 2) := by decide +kernel
theorem dX4_leap_88 : decode cX4_leap 88 = .ok (.iload 7, 2) := by decide +kernel
theorem dX4_leap_90 : decode cX4_leap 90 = .ok (.aaload, 1) := by decide +kernel
theorem dX4_leap_91 : decode cX4_leap 91 = .ok (.astore 8, 2) := by decide +kernel
theorem dX4_leap_93 : decode cX4_leap 93 = .ok (.aload_n 0, 1) := by decide +kernel
theorem dX4_leap_94 : decode cX4_leap 94 = .ok (.dup, 1) := by decide +kernel
theorem dX4_leap_95 : decode cX4_leap 95 = .ok (.getfield 125, 3) := by decide +kernel
theorem dX4_leap_98 : decode cX4_leap 98 = .ok (.aload 8, 2) := by decide +kernel
theorem dX4_leap_100 : decode cX4_leap 100 = .ok (.iload_n 3, 1) := by decide +kernel
theorem dX4_leap_101 : decode cX4_leap 101 = .ok (.iload_n 2, 1) := by decide +kernel
theorem dX4_leap_102 : decode cX4_leap 102 = .ok (.invokevirtual 128, 3) := by decide +kernel
theorem dX4_leap_105 : decode cX4_leap 105 = .ok (.iadd, 1) := by decide +kernel
theorem dX4_leap_106 : decode cX4_leap 106 = .ok (.putfield 125, 3) := by decide +kernel
theorem dX4_leap_109 : decode cX4_leap 109 = .ok (.aload 8, 2) := by decide +kernel
theorem dX4_leap_111 : decode cX4_leap 111 = .ok (.invokevirtual 131, 3) := by decide +kernel
theorem dX4_leap_114 : decode cX4_leap 114 = .ok (.ifCond .eq 12, 3) := by decide +kernel
theorem dX4_leap_117 : decode cX4_leap 117 = .ok (.aload 8, 2) := by decide +kernel
theorem dX4_leap_119 : decode cX4_leap 119 = .ok (.iconst 2, 1) := by decide +kernel
theorem dX4_leap_120 : decode cX4_leap 120 = .ok (.invokevirtual 135, 3) := by decide +kernel
theorem dX4_leap_123 : decode cX4_leap 123 = .ok (.iconst 1, 1) := by decide +kernel
theorem dX4_leap_124 : decode cX4_leap 124 = .ok (.istore 4, 2) := by decide +kernel
theorem dX4_leap_126 : decode cX4_leap 126 = .ok (.iinc 7 1, 3) := by decide +kernel
theorem dX4_leap_129 : decode cX4_leap 129 = .ok (.goto (-50), 3) := by decide +kernel
theorem dX4_leap_132 : decode cX4_leap 132 = .ok (.aload_n 0, 1) := by decide +kernel
theorem dX4_leap_133 : decode cX4_leap 133 = .ok (.dup, 1) := by decide +kernel
theorem dX4_leap_134 : decode cX4_leap 134 = .ok (.getfield 138, 3) := by decide +kernel
theorem dX4_leap_137 : decode cX4_leap 137 = .ok (.iload_n 3, 1) := by decide +kernel
theorem dX4_leap_138 : decode cX4_leap 138 = .ok (.iadd, 1) := by decide +kernel
theorem dX4_leap_139 : decode cX4_leap 139 = .ok (.putfield 138, 3) := by decide +kernel
theorem dX4_leap_142 : decode cX4_leap 142 = .ok (.iload 4, 2) := by decide +kernel
theorem dX4_leap_144 : decode cX4_leap 144 = .ok (.ifCond .eq 7, 3) := by decide +kernel
theorem dX4_leap_147 : decode cX4_leap 147 = .ok (.aload_n 0, 1) := by decide +kernel
theorem dX4_leap_148 : decode cX4_leap 148 = .ok (.invokevirtual 38, 3) := by decide +kernel
theorem dX4_leap_151 : decode cX4_leap 151 = .ok (.iload_n 3, 1) := by decide +kernel
theorem dX4_leap_152 : decode cX4_leap 152 = .ok (.ireturn, 1) := by decide +kernel
set_option maxRecDepth 20000 in
theorem ggX4_granted_X1_pages : GoodIn wsX4_granted wsX1_pages := goodIn_r _ [6, 7, 15, 16, 17, 18, 19, 20, 21, 22] (by decide +kernel) (by decide +kernel)
set_option maxRecDepth 20000 in
theorem gX4_granted_X1_pages : GoodIn wsX4_granted (wsV RX4 141 RX1 yX1_pages wsX1_pages) := goodIn_app (goodIn_of _ (by decide +kernel)) ggX4_granted_X1_pages
theorem dX4_granted_0 : decode cX4_granted 0 = .ok (.iconst 0, 1) := by decide +kernel
theorem dX4_granted_1 : decode cX4_granted 1 = .ok (.istore_n 1, 1) := by decide +kernel
theorem dX4_granted_2 : decode cX4_granted 2 = .ok (.aload_n 0, 1) := by decide +kernel
theorem dX4_granted_3 : decode cX4_granted 3 = .ok (.getfield 25, 3) := by decide +kernel
theorem dX4_granted_6 : decode cX4_granted 6 = .ok (.astore_n 2, 1) := by decide +kernel
theorem dX4_granted_7 : decode cX4_granted 7 = .ok (.aload_n 2, 1) := by decide +kernel
theorem dX4_granted_8 : decode cX4_granted 8 = .ok (.arraylength, 1) := by decide +kernel
theorem dX4_granted_9 : decode cX4_granted 9 = .ok (.istore_n 3, 1) := by decide +kernel
theorem dX4_granted_10 : decode cX4_granted 10 = .ok (.iconst 0, 1) := by decide +kernel
theorem dX4_granted_11 : decode cX4_granted 11 = .ok (.istore 4, 2) := by decide +kernel
theorem dX4_granted_13 : decode cX4_granted 13 = .ok (.iload 4, 2) := by decide +kernel
theorem dX4_granted_15 : decode cX4_granted 15 = .ok (.iload_n 3, 1) := by decide +kernel
theorem dX4_granted_16 : decode cX4_granted 16 = .ok (.if_icmp .ge 23, 3) := by decide +kernel
theorem dX4_granted_19 : decode cX4_granted 19 = .ok (.aload_n 2, 1) := by decide +kernel
theorem dX4_granted_20 : decode cX4_granted 20 = .ok (.iload 4, 2) := by decide +kernel
theorem dX4_granted_22 : decode cX4_granted 22 = .ok (.aaload, 1) := by decide +kernel
theorem dX4_granted_23 : decode cX4_granted 23 = .ok (.astore 5, 2) := by decide +kernel
theorem dX4_granted_25 : decode cX4_granted 25 = .ok (.iload_n 1, 1) := by decide +kernel
theorem dX4_granted_26 : decode cX4_granted 26 = .ok (.aload 5, 2) := by decide +kernel
theorem dX4_granted_28 : decode cX4_granted 28 = .ok (.invokevirtual 141, 3) := by decide +kernel
theorem dX4_granted_31 : decode cX4_granted 31 = .ok (.iadd, 1) := by decide +kernel
theorem dX4_granted_32 : decode cX4_granted 32 = .ok (.istore_n 1, 1) := by decide +kernel
theorem dX4_granted_33 : decode cX4_granted 33 = .ok (.iinc 4 1, 3) := by decide +kernel
theorem dX4_granted_36 : decode cX4_granted 36 = .ok (.goto (-23), 3) := by decide +kernel
theorem dX4_granted_39 : decode cX4_granted 39 = .ok (.iload_n 1, 1) := by decide +kernel
theorem dX4_granted_40 : decode cX4_granted 40 = .ok (.ireturn, 1) := by decide +kernel
set_option maxRecDepth 20000 in
theorem ggX4_free_X4_setting : GoodIn wsX4_free wsX4_setting := goodIn_r _ [9, 10, 22, 23, 24, 25, 26, 27, 28] (by decide +kernel) (by decide +kernel)
set_option maxRecDepth 20000 in
theorem gX4_free_X4_setting : GoodIn wsX4_free (wsV RX4 101 RX4 yX4_setting wsX4_setting) := goodIn_app (goodIn_of _ (by decide +kernel)) ggX4_free_X4_setting
set_option maxRecDepth 20000 in
theorem ggX4_free_X4_granted : GoodIn wsX4_free wsX4_granted := goodIn_r _ [14, 15, 16, 17, 18, 19, 20, 21, 22, 23, 24, 25, 26, 27, 28, 29, 30, 31, 32, 33, 34, 35, 36] (by decide +kernel) (by decide +kernel)
set_option maxRecDepth 20000 in
theorem gX4_free_X4_granted : GoodIn wsX4_free (wsV RX4 95 RX4 yX4_granted wsX4_granted) := goodIn_app (goodIn_of _ (by decide +kernel)) ggX4_free_X4_granted
theorem dX4_free_0 : decode cX4_free 0 = .ok (.iconst 0, 1) := by decide +kernel
theorem dX4_free_1 : decode cX4_free 1 = .ok (.aload_n 0, 1) := by decide +kernel
theorem dX4_free_2 : decode cX4_free 2 = .ok (.iconst 0, 1) := by decide +kernel
theorem dX4_free_3 : decode cX4_free 3 = .ok (.invokevirtual 101, 3) := by decide +kernel
theorem dX4_free_6 : decode cX4_free 6 = .ok (.aload_n 0, 1) := by decide +kernel
theorem dX4_free_7 : decode cX4_free 7 = .ok (.invokevirtual 95, 3) := by decide +kernel
theorem dX4_free_10 : decode cX4_free 10 = .ok (.isub, 1) := by decide +kernel
theorem dX4_free_11 : decode cX4_free 11 = .ok (.invokestatic 98, 3) := by decide +kernel
theorem dX4_free_14 : decode cX4_free 14 = .ok (.ireturn, 1) := by decide +kernel
set_option maxRecDepth 20000 in
theorem ggX4_surplus_X1_surplus : GoodIn wsX4_surplus wsX1_surplus := goodIn_r _ [6, 7, 8, 9, 17, 18, 19, 20, 21, 22, 23, 24, 25, 26, 27, 28, 29] (by decide +kernel) (by decide +kernel)
set_option maxRecDepth 20000 in
theorem gX4_surplus_X1_surplus : GoodIn wsX4_surplus (wsV RX4 111 RX1 yX1_surplus wsX1_surplus) := goodIn_app (goodIn_of _ (by decide +kernel)) ggX4_surplus_X1_surplus
theorem dX4_surplus_0 : decode cX4_surplus 0 = .ok (.iconst 0, 1) := by decide +kernel
theorem dX4_surplus_1 : decode cX4_surplus 1 = .ok (.istore_n 1, 1) := by decide +kernel
theorem dX4_surplus_2 : decode cX4_surplus 2 = .ok (.aload_n 0, 1) := by decide +kernel
theorem dX4_surplus_3 : decode cX4_surplus 3 = .ok (.getfield 25, 3) := by decide +kernel
theorem dX4_surplus_6 : decode cX4_surplus 6 = .ok (.astore_n 2, 1) := by decide +kernel
theorem dX4_surplus_7 : decode cX4_surplus 7 = .ok (.aload_n 2, 1) := by decide +kernel
theorem dX4_surplus_8 : decode cX4_surplus 8 = .ok (.arraylength, 1) := by decide +kernel
theorem dX4_surplus_9 : decode cX4_surplus 9 = .ok (.istore_n 3, 1) := by decide +kernel
theorem dX4_surplus_10 : decode cX4_surplus 10 = .ok (.iconst 0, 1) := by decide +kernel
theorem dX4_surplus_11 : decode cX4_surplus 11 = .ok (.istore 4, 2) := by decide +kernel
theorem dX4_surplus_13 : decode cX4_surplus 13 = .ok (.iload 4, 2) := by decide +kernel
theorem dX4_surplus_15 : decode cX4_surplus 15 = .ok (.iload_n 3, 1) := by decide +kernel
theorem dX4_surplus_16 : decode cX4_surplus 16 = .ok (.if_icmp .ge 23, 3) := by decide +kernel
theorem dX4_surplus_19 : decode cX4_surplus 19 = .ok (.aload_n 2, 1) := by decide +kernel
theorem dX4_surplus_20 : decode cX4_surplus 20 = .ok (.iload 4, 2) := by decide +kernel
theorem dX4_surplus_22 : decode cX4_surplus 22 = .ok (.aaload, 1) := by decide +kernel
theorem dX4_surplus_23 : decode cX4_surplus 23 = .ok (.astore 5, 2) := by decide +kernel
theorem dX4_surplus_25 : decode cX4_surplus 25 = .ok (.iload_n 1, 1) := by decide +kernel
theorem dX4_surplus_26 : decode cX4_surplus 26 = .ok (.aload 5, 2) := by decide +kernel
theorem dX4_surplus_28 : decode cX4_surplus 28 = .ok (.invokevirtual 111, 3) := by decide +kernel
theorem dX4_surplus_31 : decode cX4_surplus 31 = .ok (.iadd, 1) := by decide +kernel
theorem dX4_surplus_32 : decode cX4_surplus 32 = .ok (.istore_n 1, 1) := by decide +kernel
theorem dX4_surplus_33 : decode cX4_surplus 33 = .ok (.iinc 4 1, 3) := by decide +kernel
theorem dX4_surplus_36 : decode cX4_surplus 36 = .ok (.goto (-23), 3) := by decide +kernel
theorem dX4_surplus_39 : decode cX4_surplus 39 = .ok (.iload_n 1, 1) := by decide +kernel
theorem dX4_surplus_40 : decode cX4_surplus 40 = .ok (.ireturn, 1) := by decide +kernel
set_option maxRecDepth 20000 in
theorem ggX4_spilling_X1_spills : GoodIn wsX4_spilling wsX1_spills := goodIn_r _ [6, 7, 8, 9, 10, 11, 12, 13, 14, 15, 16, 24, 25, 26, 27, 28, 29, 30, 31, 32, 33, 34, 35, 36] (by decide +kernel) (by decide +kernel)
set_option maxRecDepth 20000 in
theorem gX4_spilling_X1_spills : GoodIn wsX4_spilling (wsV RX4 144 RX1 yX1_spills wsX1_spills) := goodIn_app (goodIn_of _ (by decide +kernel)) ggX4_spilling_X1_spills
theorem dX4_spilling_0 : decode cX4_spilling 0 = .ok (.iconst 0, 1) := by decide +kernel
theorem dX4_spilling_1 : decode cX4_spilling 1 = .ok (.istore_n 1, 1) := by decide +kernel
theorem dX4_spilling_2 : decode cX4_spilling 2 = .ok (.aload_n 0, 1) := by decide +kernel
theorem dX4_spilling_3 : decode cX4_spilling 3 = .ok (.getfield 25, 3) := by decide +kernel
theorem dX4_spilling_6 : decode cX4_spilling 6 = .ok (.astore_n 2, 1) := by decide +kernel
theorem dX4_spilling_7 : decode cX4_spilling 7 = .ok (.aload_n 2, 1) := by decide +kernel
theorem dX4_spilling_8 : decode cX4_spilling 8 = .ok (.arraylength, 1) := by decide +kernel
theorem dX4_spilling_9 : decode cX4_spilling 9 = .ok (.istore_n 3, 1) := by decide +kernel
theorem dX4_spilling_10 : decode cX4_spilling 10 = .ok (.iconst 0, 1) := by decide +kernel
theorem dX4_spilling_11 : decode cX4_spilling 11 = .ok (.istore 4, 2) := by decide +kernel
theorem dX4_spilling_13 : decode cX4_spilling 13 = .ok (.iload 4, 2) := by decide +kernel
theorem dX4_spilling_15 : decode cX4_spilling 15 = .ok (.iload_n 3, 1) := by decide +kernel
theorem dX4_spilling_16 : decode cX4_spilling 16 = .ok (.if_icmp .ge 31, 3) := by decide +kernel
theorem dX4_spilling_19 : decode cX4_spilling 19 = .ok (.aload_n 2, 1) := by decide +kernel
theorem dX4_spilling_20 : decode cX4_spilling 20 = .ok (.iload 4, 2) := by decide +kernel
theorem dX4_spilling_22 : decode cX4_spilling 22 = .ok (.aaload, 1) := by decide +kernel
theorem dX4_spilling_23 : decode cX4_spilling 23 = .ok (.astore 5, 2) := by decide +kernel
theorem dX4_spilling_25 : decode cX4_spilling 25 = .ok (.iload_n 1, 1) := by decide +kernel
theorem dX4_spilling_26 : decode cX4_spilling 26 = .ok (.aload 5, 2) := by decide +kernel
theorem dX4_spilling_28 : decode cX4_spilling 28 = .ok (.invokevirtual 144, 3) := by decide +kernel
theorem dX4_spilling_31 : decode cX4_spilling 31 = .ok (.ifCond .eq 7, 3) := by decide +kernel
theorem dX4_spilling_34 : decode cX4_spilling 34 = .ok (.iconst 1, 1) := by decide +kernel
theorem dX4_spilling_35 : decode cX4_spilling 35 = .ok (.goto 4, 3) := by decide +kernel
theorem dX4_spilling_38 : decode cX4_spilling 38 = .ok (.iconst 0, 1) := by decide +kernel
theorem dX4_spilling_39 : decode cX4_spilling 39 = .ok (.iadd, 1) := by decide +kernel
theorem dX4_spilling_40 : decode cX4_spilling 40 = .ok (.istore_n 1, 1) := by decide +kernel
theorem dX4_spilling_41 : decode cX4_spilling 41 = .ok (.iinc 4 1, 3) := by decide +kernel
theorem dX4_spilling_44 : decode cX4_spilling 44 = .ok (.goto (-31), 3) := by decide +kernel
theorem dX4_spilling_47 : decode cX4_spilling 47 = .ok (.iload_n 1, 1) := by decide +kernel
theorem dX4_spilling_48 : decode cX4_spilling 48 = .ok (.ireturn, 1) := by decide +kernel
set_option maxRecDepth 20000 in
theorem ggX4_joinsIn_X1_isIn : GoodIn wsX4_joinsIn wsX1_isIn := goodIn_r _ [6, 7, 15, 16, 17, 18, 19, 20, 21, 22] (by decide +kernel) (by decide +kernel)
set_option maxRecDepth 20000 in
theorem gX4_joinsIn_X1_isIn : GoodIn wsX4_joinsIn (wsV RX4 61 RX1 yX1_isIn wsX1_isIn) := goodIn_app (goodIn_of _ (by decide +kernel)) ggX4_joinsIn_X1_isIn
theorem dX4_joinsIn_0 : decode cX4_joinsIn 0 = .ok (.iconst 0, 1) := by decide +kernel
theorem dX4_joinsIn_1 : decode cX4_joinsIn 1 = .ok (.istore_n 2, 1) := by decide +kernel
theorem dX4_joinsIn_2 : decode cX4_joinsIn 2 = .ok (.aload_n 0, 1) := by decide +kernel
theorem dX4_joinsIn_3 : decode cX4_joinsIn 3 = .ok (.getfield 25, 3) := by decide +kernel
theorem dX4_joinsIn_6 : decode cX4_joinsIn 6 = .ok (.astore_n 3, 1) := by decide +kernel
theorem dX4_joinsIn_7 : decode cX4_joinsIn 7 = .ok (.aload_n 3, 1) := by decide +kernel
theorem dX4_joinsIn_8 : decode cX4_joinsIn 8 = .ok (.arraylength, 1) := by decide +kernel
theorem dX4_joinsIn_9 : decode cX4_joinsIn 9 = .ok (.istore 4, 2) := by decide +kernel
theorem dX4_joinsIn_11 : decode cX4_joinsIn 11 = .ok (.iconst 0, 1) := by decide +kernel
theorem dX4_joinsIn_12 : decode cX4_joinsIn 12 = .ok (.istore 5, 2) := by decide +kernel
theorem dX4_joinsIn_14 : decode cX4_joinsIn 14 = .ok (.iload 5, 2) := by decide +kernel
theorem dX4_joinsIn_16 : decode cX4_joinsIn 16 = .ok (.iload 4, 2) := by decide +kernel
theorem dX4_joinsIn_18 : decode cX4_joinsIn 18 = .ok (.if_icmp .ge 32, 3) := by decide +kernel
theorem dX4_joinsIn_21 : decode cX4_joinsIn 21 = .ok (.aload_n 3, 1) := by decide +kernel
theorem dX4_joinsIn_22 : decode cX4_joinsIn 22 = .ok (.iload 5, 2) := by decide +kernel
theorem dX4_joinsIn_24 : decode cX4_joinsIn 24 = .ok (.aaload, 1) := by decide +kernel
theorem dX4_joinsIn_25 : decode cX4_joinsIn 25 = .ok (.astore 6, 2) := by decide +kernel
theorem dX4_joinsIn_27 : decode cX4_joinsIn 27 = .ok (.iload_n 2, 1) := by decide +kernel
theorem dX4_joinsIn_28 : decode cX4_joinsIn 28 = .ok (.aload 6, 2) := by decide +kernel
theorem dX4_joinsIn_30 : decode cX4_joinsIn 30 = .ok (.iload_n 1, 1) := by decide +kernel
theorem dX4_joinsIn_31 : decode cX4_joinsIn 31 = .ok (.invokevirtual 61, 3) := by decide +kernel
theorem dX4_joinsIn_34 : decode cX4_joinsIn 34 = .ok (.ifCond .eq 7, 3) := by decide +kernel
theorem dX4_joinsIn_37 : decode cX4_joinsIn 37 = .ok (.iconst 1, 1) := by decide +kernel
theorem dX4_joinsIn_38 : decode cX4_joinsIn 38 = .ok (.goto 4, 3) := by decide +kernel
theorem dX4_joinsIn_41 : decode cX4_joinsIn 41 = .ok (.iconst 0, 1) := by decide +kernel
theorem dX4_joinsIn_42 : decode cX4_joinsIn 42 = .ok (.iadd, 1) := by decide +kernel
theorem dX4_joinsIn_43 : decode cX4_joinsIn 43 = .ok (.istore_n 2, 1) := by decide +kernel
theorem dX4_joinsIn_44 : decode cX4_joinsIn 44 = .ok (.iinc 5 1, 3) := by decide +kernel
theorem dX4_joinsIn_47 : decode cX4_joinsIn 47 = .ok (.goto (-33), 3) := by decide +kernel
theorem dX4_joinsIn_50 : decode cX4_joinsIn 50 = .ok (.iload_n 2, 1) := by decide +kernel
theorem dX4_joinsIn_51 : decode cX4_joinsIn 51 = .ok (.ireturn, 1) := by decide +kernel
theorem dX4_canTell_0 : decode cX4_canTell 0 = .ok (.iload_n 0, 1) := by decide +kernel
theorem dX4_canTell_1 : decode cX4_canTell 1 = .ok (.ifCond .lt 13, 3) := by decide +kernel
theorem dX4_canTell_4 : decode cX4_canTell 4 = .ok (.iload_n 0, 1) := by decide +kernel
theorem dX4_canTell_5 : decode cX4_canTell 5 = .ok (.bipush 15, 2) := by decide +kernel
theorem dX4_canTell_7 : decode cX4_canTell 7 = .ok (.if_icmp .gt 7, 3) := by decide +kernel
theorem dX4_canTell_10 : decode cX4_canTell 10 = .ok (.iconst 1, 1) := by decide +kernel
theorem dX4_canTell_11 : decode cX4_canTell 11 = .ok (.goto 4, 3) := by decide +kernel
theorem dX4_canTell_14 : decode cX4_canTell 14 = .ok (.iconst 0, 1) := by decide +kernel
theorem dX4_canTell_15 : decode cX4_canTell 15 = .ok (.ireturn, 1) := by decide +kernel
set_option maxRecDepth 20000 in
theorem ggX4_tell_X4_joinsIn : GoodIn wsX4_tell wsX4_joinsIn := goodIn_r _ [10, 11, 12, 13, 14, 15, 16, 17, 56, 57, 58, 59, 60, 61, 62, 63, 64, 65, 66, 67, 68, 69, 70] (by decide +kernel) (by decide +kernel)
set_option maxRecDepth 20000 in
theorem gX4_tell_X4_joinsIn : GoodIn wsX4_tell (wsV RX4 147 RX4 yX4_joinsIn wsX4_joinsIn) := goodIn_app (goodIn_of _ (by decide +kernel)) ggX4_tell_X4_joinsIn
set_option maxRecDepth 20000 in
theorem ggX4_tell_X4_granted : GoodIn wsX4_tell wsX4_granted := goodIn_r _ [21, 11, 22, 23, 24, 15, 25, 26, 56, 57, 58, 59, 60, 61, 62, 63, 64, 65, 66, 67, 68, 69, 70] (by decide +kernel) (by decide +kernel)
set_option maxRecDepth 20000 in
theorem gX4_tell_X4_granted : GoodIn wsX4_tell (wsV RX4 95 RX4 yX4_granted wsX4_granted) := goodIn_app (goodIn_of _ (by decide +kernel)) ggX4_tell_X4_granted
set_option maxRecDepth 20000 in
theorem ggX4_tell_X4_free : GoodIn wsX4_tell wsX4_free := goodIn_r _ [30, 31, 32, 33, 34, 35, 36, 37, 9, 38, 39, 18, 19, 20, 21, 11, 22, 23, 24, 15, 25, 26, 56, 57, 58, 59, 60, 61, 62, 63, 64, 65, 66, 67, 68, 69, 70] (by decide +kernel) (by decide +kernel)
set_option maxRecDepth 20000 in
theorem gX4_tell_X4_free : GoodIn wsX4_tell (wsV RX4 72 RX4 yX4_free wsX4_free) := goodIn_app (goodIn_of _ (by decide +kernel)) ggX4_tell_X4_free
set_option maxRecDepth 20000 in
theorem ggX4_tell_X4_spilling : GoodIn wsX4_tell wsX4_spilling := goodIn_r _ [43, 11, 44, 45, 46, 15, 47, 17, 48, 26, 49, 50, 51, 52, 53, 54, 55, 56, 57, 58, 59, 60, 61, 62, 63, 64, 65, 66, 67, 68, 69, 70, 71, 72, 73, 74, 75] (by decide +kernel) (by decide +kernel)
set_option maxRecDepth 20000 in
theorem gX4_tell_X4_spilling : GoodIn wsX4_tell (wsV RX4 150 RX4 yX4_spilling wsX4_spilling) := goodIn_app (goodIn_of _ (by decide +kernel)) ggX4_tell_X4_spilling
set_option maxRecDepth 20000 in
theorem ggX4_tell_X4_setting : GoodIn wsX4_tell wsX4_setting := goodIn_r _ [38, 39, 56, 57, 58, 59, 60, 61, 62] (by decide +kernel) (by decide +kernel)
set_option maxRecDepth 20000 in
theorem gX4_tell_X4_setting : GoodIn wsX4_tell (wsV RX4 101 RX4 yX4_setting wsX4_setting) := goodIn_app (goodIn_of _ (by decide +kernel)) ggX4_tell_X4_setting
theorem dX4_tell_0 : decode cX4_tell 0 = .ok (.iload_n 1, 1) := by decide +kernel
theorem dX4_tell_1 : decode cX4_tell 1 = .ok (.tableswitch 111 0 11 #[63, 68, 68, 68, 68, 76, 81, 86, 91, 96, 101, 106], 63) := by decide +kernel
theorem dX4_tell_64 : decode cX4_tell 64 = .ok (.aload_n 0, 1) := by decide +kernel
theorem dX4_tell_65 : decode cX4_tell 65 = .ok (.getfield 41, 3) := by decide +kernel
theorem dX4_tell_68 : decode cX4_tell 68 = .ok (.ireturn, 1) := by decide +kernel
theorem dX4_tell_69 : decode cX4_tell 69 = .ok (.aload_n 0, 1) := by decide +kernel
theorem dX4_tell_70 : decode cX4_tell 70 = .ok (.iload_n 1, 1) := by decide +kernel
theorem dX4_tell_71 : decode cX4_tell 71 = .ok (.iconst 1, 1) := by decide +kernel
theorem dX4_tell_72 : decode cX4_tell 72 = .ok (.isub, 1) := by decide +kernel
theorem dX4_tell_73 : decode cX4_tell 73 = .ok (.invokevirtual 147, 3) := by decide +kernel
theorem dX4_tell_76 : decode cX4_tell 76 = .ok (.ireturn, 1) := by decide +kernel
theorem dX4_tell_77 : decode cX4_tell 77 = .ok (.aload_n 0, 1) := by decide +kernel
theorem dX4_tell_78 : decode cX4_tell 78 = .ok (.invokevirtual 95, 3) := by decide +kernel
theorem dX4_tell_81 : decode cX4_tell 81 = .ok (.ireturn, 1) := by decide +kernel
theorem dX4_tell_82 : decode cX4_tell 82 = .ok (.aload_n 0, 1) := by decide +kernel
theorem dX4_tell_83 : decode cX4_tell 83 = .ok (.invokevirtual 72, 3) := by decide +kernel
theorem dX4_tell_86 : decode cX4_tell 86 = .ok (.ireturn, 1) := by decide +kernel
theorem dX4_tell_87 : decode cX4_tell 87 = .ok (.aload_n 0, 1) := by decide +kernel
theorem dX4_tell_88 : decode cX4_tell 88 = .ok (.getfield 92, 3) := by decide +kernel
theorem dX4_tell_91 : decode cX4_tell 91 = .ok (.ireturn, 1) := by decide +kernel
theorem dX4_tell_92 : decode cX4_tell 92 = .ok (.aload_n 0, 1) := by decide +kernel
theorem dX4_tell_93 : decode cX4_tell 93 = .ok (.getfield 138, 3) := by decide +kernel
theorem dX4_tell_96 : decode cX4_tell 96 = .ok (.ireturn, 1) := by decide +kernel
theorem dX4_tell_97 : decode cX4_tell 97 = .ok (.aload_n 0, 1) := by decide +kernel
theorem dX4_tell_98 : decode cX4_tell 98 = .ok (.getfield 125, 3) := by decide +kernel
theorem dX4_tell_101 : decode cX4_tell 101 = .ok (.ireturn, 1) := by decide +kernel
theorem dX4_tell_102 : decode cX4_tell 102 = .ok (.aload_n 0, 1) := by decide +kernel
theorem dX4_tell_103 : decode cX4_tell 103 = .ok (.getfield 115, 3) := by decide +kernel
theorem dX4_tell_106 : decode cX4_tell 106 = .ok (.ireturn, 1) := by decide +kernel
theorem dX4_tell_107 : decode cX4_tell 107 = .ok (.aload_n 0, 1) := by decide +kernel
theorem dX4_tell_108 : decode cX4_tell 108 = .ok (.invokevirtual 150, 3) := by decide +kernel
theorem dX4_tell_111 : decode cX4_tell 111 = .ok (.ireturn, 1) := by decide +kernel
theorem dX4_tell_112 : decode cX4_tell 112 = .ok (.aload_n 0, 1) := by decide +kernel
theorem dX4_tell_113 : decode cX4_tell 113 = .ok (.iload_n 1, 1) := by decide +kernel
theorem dX4_tell_114 : decode cX4_tell 114 = .ok (.bipush 12, 2) := by decide +kernel
theorem dX4_tell_116 : decode cX4_tell 116 = .ok (.isub, 1) := by decide +kernel
theorem dX4_tell_117 : decode cX4_tell 117 = .ok (.invokevirtual 101, 3) := by decide +kernel
theorem dX4_tell_120 : decode cX4_tell 120 = .ok (.ireturn, 1) := by decide +kernel
set_option maxRecDepth 20000 in
theorem ggX4_copyFrom_X1_copyFrom : GoodIn wsX4_copyFrom wsX1_copyFrom := goodIn_r _ [12, 13, 14, 15, 16, 17, 18, 19, 20, 21, 22, 23, 24, 25, 26, 27, 28, 29, 37, 38, 39, 40, 41, 42, 43, 44, 45, 46, 47, 48, 49] (by decide +kernel) (by decide +kernel)
set_option maxRecDepth 20000 in
theorem gX4_copyFrom_X1_copyFrom : GoodIn wsX4_copyFrom (wsV RX4 153 RX1 yX1_copyFrom wsX1_copyFrom) := goodIn_app (goodIn_of _ (by decide +kernel)) ggX4_copyFrom_X1_copyFrom
theorem dX4_copyFrom_0 : decode cX4_copyFrom 0 = .ok (.iconst 0, 1) := by decide +kernel
theorem dX4_copyFrom_1 : decode cX4_copyFrom 1 = .ok (.istore_n 2, 1) := by decide +kernel
theorem dX4_copyFrom_2 : decode cX4_copyFrom 2 = .ok (.iload_n 2, 1) := by decide +kernel
theorem dX4_copyFrom_3 : decode cX4_copyFrom 3 = .ok (.aload_n 0, 1) := by decide +kernel
theorem dX4_copyFrom_4 : decode cX4_copyFrom 4 = .ok (.getfield 20, 3) := by decide +kernel
theorem dX4_copyFrom_7 : decode cX4_copyFrom 7 = .ok (.arraylength, 1) := by decide +kernel
theorem dX4_copyFrom_8 : decode cX4_copyFrom 8 = .ok (.if_icmp .ge 30, 3) := by decide +kernel
theorem dX4_copyFrom_11 : decode cX4_copyFrom 11 = .ok (.iload_n 2, 1) := by decide +kernel
theorem dX4_copyFrom_12 : decode cX4_copyFrom 12 = .ok (.aload_n 1, 1) := by decide +kernel
theorem dX4_copyFrom_13 : decode cX4_copyFrom 13 = .ok (.getfield 20, 3) := by decide +kernel
theorem dX4_copyFrom_16 : decode cX4_copyFrom 16 = .ok (.arraylength, 1) := by decide +kernel
theorem dX4_copyFrom_17 : decode cX4_copyFrom 17 = .ok (.if_icmp .ge 21, 3) := by decide +kernel
theorem dX4_copyFrom_20 : decode cX4_copyFrom 20 = .ok (.aload_n 0, 1) := by decide +kernel
theorem dX4_copyFrom_21 : decode cX4_copyFrom 21 = .ok (.getfield 20, 3) := by decide +kernel
theorem dX4_copyFrom_24 : decode cX4_copyFrom 24 = .ok (.iload_n 2, 1) := by decide +kernel
theorem dX4_copyFrom_25 : decode cX4_copyFrom 25 = .ok (.aload_n 1, 1) := by decide +kernel
theorem dX4_copyFrom_26 : decode cX4_copyFrom 26 = .ok (.getfield 20, 3) := by decide +kernel
theorem dX4_copyFrom_29 : decode cX4_copyFrom 29 = .ok (.iload_n 2, 1) := by decide +kernel
theorem dX4_copyFrom_30 : decode cX4_copyFrom 30 = .ok (.iaload, 1) := by decide +kernel
theorem dX4_copyFrom_31 : decode cX4_copyFrom 31 = .ok (.iastore, 1) := by decide +kernel
theorem dX4_copyFrom_32 : decode cX4_copyFrom 32 = .ok (.iinc 2 1, 3) := by decide +kernel
theorem dX4_copyFrom_35 : decode cX4_copyFrom 35 = .ok (.goto (-33), 3) := by decide +kernel
theorem dX4_copyFrom_38 : decode cX4_copyFrom 38 = .ok (.iconst 0, 1) := by decide +kernel
theorem dX4_copyFrom_39 : decode cX4_copyFrom 39 = .ok (.istore_n 2, 1) := by decide +kernel
theorem dX4_copyFrom_40 : decode cX4_copyFrom 40 = .ok (.iload_n 2, 1) := by decide +kernel
theorem dX4_copyFrom_41 : decode cX4_copyFrom 41 = .ok (.aload_n 0, 1) := by decide +kernel
theorem dX4_copyFrom_42 : decode cX4_copyFrom 42 = .ok (.getfield 25, 3) := by decide +kernel
theorem dX4_copyFrom_45 : decode cX4_copyFrom 45 = .ok (.arraylength, 1) := by decide +kernel
theorem dX4_copyFrom_46 : decode cX4_copyFrom 46 = .ok (.if_icmp .ge 33, 3) := by decide +kernel
theorem dX4_copyFrom_49 : decode cX4_copyFrom 49 = .ok (.iload_n 2, 1) := by decide +kernel
theorem dX4_copyFrom_50 : decode cX4_copyFrom 50 = .ok (.aload_n 1, 1) := by decide +kernel
theorem dX4_copyFrom_51 : decode cX4_copyFrom 51 = .ok (.getfield 25, 3) := by decide +kernel
theorem dX4_copyFrom_54 : decode cX4_copyFrom 54 = .ok (.arraylength, 1) := by decide +kernel
theorem dX4_copyFrom_55 : decode cX4_copyFrom 55 = .ok (.if_icmp .ge 24, 3) := by decide +kernel
theorem dX4_copyFrom_58 : decode cX4_copyFrom 58 = .ok (.aload_n 0, 1) := by decide +kernel
theorem dX4_copyFrom_59 : decode cX4_copyFrom 59 = .ok (.getfield 25, 3) := by decide +kernel
theorem dX4_copyFrom_62 : decode cX4_copyFrom 62 = .ok (.iload_n 2, 1) := by decide +kernel
theorem dX4_copyFrom_63 : decode cX4_copyFrom 63 = .ok (.aaload, 1) := by decide +kernel
theorem dX4_copyFrom_64 : decode cX4_copyFrom 64 = .ok (.aload_n 1, 1) := by decide +kernel
theorem dX4_copyFrom_65 : decode cX4_copyFrom 65 = .ok (.getfield 25, 3) := by decide +kernel
theorem dX4_copyFrom_68 : decode cX4_copyFrom 68 = .ok (.iload_n 2, 1) := by decide +kernel
theorem dX4_copyFrom_69 : decode cX4_copyFrom 69 = .ok (.aaload, 1) := by decide +kernel
theorem dX4_copyFrom_70 : decode cX4_copyFrom 70 = .ok (.invokevirtual 153, 3) := by decide +kernel
theorem dX4_copyFrom_73 : decode cX4_copyFrom 73 = .ok (.iinc 2 1, 3) := by decide +kernel
theorem dX4_copyFrom_76 : decode cX4_copyFrom 76 = .ok (.goto (-36), 3) := by decide +kernel
theorem dX4_copyFrom_79 : decode cX4_copyFrom 79 = .ok (.aload_n 0, 1) := by decide +kernel
theorem dX4_copyFrom_80 : decode cX4_copyFrom 80 = .ok (.aload_n 1, 1) := by decide +kernel
theorem dX4_copyFrom_81 : decode cX4_copyFrom 81 = .ok (.getfield 41, 3) := by decide +kernel
theorem dX4_copyFrom_84 : decode cX4_copyFrom 84 = .ok (.putfield 41, 3) := by decide +kernel
theorem dX4_copyFrom_87 : decode cX4_copyFrom 87 = .ok (.aload_n 0, 1) := by decide +kernel
theorem dX4_copyFrom_88 : decode cX4_copyFrom 88 = .ok (.aload_n 1, 1) := by decide +kernel
theorem dX4_copyFrom_89 : decode cX4_copyFrom 89 = .ok (.getfield 92, 3) := by decide +kernel
theorem dX4_copyFrom_92 : decode cX4_copyFrom 92 = .ok (.putfield 92, 3) := by decide +kernel
theorem dX4_copyFrom_95 : decode cX4_copyFrom 95 = .ok (.aload_n 0, 1) := by decide +kernel
theorem dX4_copyFrom_96 : decode cX4_copyFrom 96 = .ok (.aload_n 1, 1) := by decide +kernel
theorem dX4_copyFrom_97 : decode cX4_copyFrom 97 = .ok (.getfield 138, 3) := by decide +kernel
theorem dX4_copyFrom_100 : decode cX4_copyFrom 100 = .ok (.putfield 138, 3) := by decide +kernel
theorem dX4_copyFrom_103 : decode cX4_copyFrom 103 = .ok (.aload_n 0, 1) := by decide +kernel
theorem dX4_copyFrom_104 : decode cX4_copyFrom 104 = .ok (.aload_n 1, 1) := by decide +kernel
theorem dX4_copyFrom_105 : decode cX4_copyFrom 105 = .ok (.getfield 125, 3) := by decide +kernel
theorem dX4_copyFrom_108 : decode cX4_copyFrom 108 = .ok (.putfield 125, 3) := by decide +kernel
theorem dX4_copyFrom_111 : decode cX4_copyFrom 111 = .ok (.aload_n 0, 1) := by decide +kernel
theorem dX4_copyFrom_112 : decode cX4_copyFrom 112 = .ok (.aload_n 1, 1) := by decide +kernel
theorem dX4_copyFrom_113 : decode cX4_copyFrom 113 = .ok (.getfield 115, 3) := by decide +kernel
theorem dX4_copyFrom_116 : decode cX4_copyFrom 116 = .ok (.putfield 115, 3) := by decide +kernel
theorem dX4_copyFrom_119 : decode cX4_copyFrom 119 = .ok (.return_, 1) := by decide +kernel
