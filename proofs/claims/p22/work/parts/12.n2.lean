theorem dX2_init_0 : decode cX2_init 0 = .ok (.aload_n 0, 1) := by decide +kernel
theorem dX2_init_1 : decode cX2_init 1 = .ok (.invokespecial 1, 3) := by decide +kernel
theorem dX2_init_4 : decode cX2_init 4 = .ok (.aload_n 0, 1) := by decide +kernel
theorem dX2_init_5 : decode cX2_init 5 = .ok (.bipush 60, 2) := by decide +kernel
theorem dX2_init_7 : decode cX2_init 7 = .ok (.newarray .char, 2) := by decide +kernel
theorem dX2_init_9 : decode cX2_init 9 = .ok (.putfield 9, 3) := by decide +kernel
theorem dX2_init_12 : decode cX2_init 12 = .ok (.aload_n 0, 1) := by decide +kernel
theorem dX2_init_13 : decode cX2_init 13 = .ok (.bipush 12, 2) := by decide +kernel
theorem dX2_init_15 : decode cX2_init 15 = .ok (.newarray .int, 2) := by decide +kernel
theorem dX2_init_17 : decode cX2_init 17 = .ok (.putfield 13, 3) := by decide +kernel
theorem dX2_init_20 : decode cX2_init 20 = .ok (.aload_n 0, 1) := by decide +kernel
theorem dX2_init_21 : decode cX2_init 21 = .ok (.bipush 12, 2) := by decide +kernel
theorem dX2_init_23 : decode cX2_init 23 = .ok (.newarray .int, 2) := by decide +kernel
theorem dX2_init_25 : decode cX2_init 25 = .ok (.putfield 17, 3) := by decide +kernel
theorem dX2_init_28 : decode cX2_init 28 = .ok (.aload_n 0, 1) := by decide +kernel
theorem dX2_init_29 : decode cX2_init 29 = .ok (.bipush 12, 2) := by decide +kernel
theorem dX2_init_31 : decode cX2_init 31 = .ok (.newarray .int, 2) := by decide +kernel
theorem dX2_init_33 : decode cX2_init 33 = .ok (.putfield 20, 3) := by decide +kernel
theorem dX2_init_36 : decode cX2_init 36 = .ok (.return_, 1) := by decide +kernel
theorem dX2_append_0 : decode cX2_append 0 = .ok (.aload_n 0, 1) := by decide +kernel
theorem dX2_append_1 : decode cX2_append 1 = .ok (.getfield 23, 3) := by decide +kernel
theorem dX2_append_4 : decode cX2_append 4 = .ok (.aload_n 0, 1) := by decide +kernel
theorem dX2_append_5 : decode cX2_append 5 = .ok (.getfield 9, 3) := by decide +kernel
theorem dX2_append_8 : decode cX2_append 8 = .ok (.arraylength, 1) := by decide +kernel
theorem dX2_append_9 : decode cX2_append 9 = .ok (.if_icmp .lt 5, 3) := by decide +kernel
theorem dX2_append_12 : decode cX2_append 12 = .ok (.iconst 0, 1) := by decide +kernel
theorem dX2_append_13 : decode cX2_append 13 = .ok (.ireturn, 1) := by decide +kernel
theorem dX2_append_14 : decode cX2_append 14 = .ok (.aload_n 0, 1) := by decide +kernel
theorem dX2_append_15 : decode cX2_append 15 = .ok (.getfield 9, 3) := by decide +kernel
theorem dX2_append_18 : decode cX2_append 18 = .ok (.aload_n 0, 1) := by decide +kernel
theorem dX2_append_19 : decode cX2_append 19 = .ok (.getfield 23, 3) := by decide +kernel
theorem dX2_append_22 : decode cX2_append 22 = .ok (.iload_n 1, 1) := by decide +kernel
theorem dX2_append_23 : decode cX2_append 23 = .ok (.castore, 1) := by decide +kernel
theorem dX2_append_24 : decode cX2_append 24 = .ok (.aload_n 0, 1) := by decide +kernel
theorem dX2_append_25 : decode cX2_append 25 = .ok (.dup, 1) := by decide +kernel
theorem dX2_append_26 : decode cX2_append 26 = .ok (.getfield 23, 3) := by decide +kernel
theorem dX2_append_29 : decode cX2_append 29 = .ok (.iconst 1, 1) := by decide +kernel
theorem dX2_append_30 : decode cX2_append 30 = .ok (.iadd, 1) := by decide +kernel
theorem dX2_append_31 : decode cX2_append 31 = .ok (.putfield 23, 3) := by decide +kernel
theorem dX2_append_34 : decode cX2_append 34 = .ok (.iconst 1, 1) := by decide +kernel
theorem dX2_append_35 : decode cX2_append 35 = .ok (.ireturn, 1) := by decide +kernel
theorem dX2_clear_0 : decode cX2_clear 0 = .ok (.aload_n 0, 1) := by decide +kernel
theorem dX2_clear_1 : decode cX2_clear 1 = .ok (.iconst 0, 1) := by decide +kernel
theorem dX2_clear_2 : decode cX2_clear 2 = .ok (.putfield 23, 3) := by decide +kernel
theorem dX2_clear_5 : decode cX2_clear 5 = .ok (.return_, 1) := by decide +kernel
theorem dX2_length_0 : decode cX2_length 0 = .ok (.aload_n 0, 1) := by decide +kernel
theorem dX2_length_1 : decode cX2_length 1 = .ok (.getfield 23, 3) := by decide +kernel
theorem dX2_length_4 : decode cX2_length 4 = .ok (.ireturn, 1) := by decide +kernel
set_option maxRecDepth 20000 in
theorem ggX2_read_X2_takes : GoodIn wsX2_read wsX2_takes := goodIn_r _ [10, 2, 3, 11, 12, 13, 14, 9, 15, 16, 17, 18, 19, 20, 21, 22, 23, 24, 1, 25, 26, 27, 28, 29, 30, 31, 32, 33, 34, 35, 36, 37] (by decide +kernel) (by decide +kernel)
set_option maxRecDepth 20000 in
theorem gX2_read_X2_takes : GoodIn wsX2_read (wsV RX2 36 RX2 yX2_takes wsX2_takes) := goodIn_app (goodIn_of _ (by decide +kernel)) ggX2_read_X2_takes
set_option maxRecDepth 20000 in
theorem ggX2_read_X2_endJoin : GoodIn wsX2_read wsX2_endJoin := goodIn_r _ [24, 1, 25, 26, 27, 16, 11, 3, 2, 28, 29, 30, 31, 32, 33, 34, 35, 36, 37] (by decide +kernel) (by decide +kernel)
set_option maxRecDepth 20000 in
theorem gX2_read_X2_endJoin : GoodIn wsX2_read (wsV RX2 40 RX2 yX2_endJoin wsX2_endJoin) := goodIn_app (goodIn_of _ (by decide +kernel)) ggX2_read_X2_endJoin
theorem dX2_read_0 : decode cX2_read 0 = .ok (.aload_n 0, 1) := by decide +kernel
theorem dX2_read_1 : decode cX2_read 1 = .ok (.iconst 0, 1) := by decide +kernel
theorem dX2_read_2 : decode cX2_read 2 = .ok (.putfield 27, 3) := by decide +kernel
theorem dX2_read_5 : decode cX2_read 5 = .ok (.aload_n 0, 1) := by decide +kernel
theorem dX2_read_6 : decode cX2_read 6 = .ok (.iconst 0, 1) := by decide +kernel
theorem dX2_read_7 : decode cX2_read 7 = .ok (.putfield 30, 3) := by decide +kernel
theorem dX2_read_10 : decode cX2_read 10 = .ok (.aload_n 0, 1) := by decide +kernel
theorem dX2_read_11 : decode cX2_read 11 = .ok (.iconst 0, 1) := by decide +kernel
theorem dX2_read_12 : decode cX2_read 12 = .ok (.putfield 33, 3) := by decide +kernel
theorem dX2_read_15 : decode cX2_read 15 = .ok (.iconst 0, 1) := by decide +kernel
theorem dX2_read_16 : decode cX2_read 16 = .ok (.istore_n 1, 1) := by decide +kernel
theorem dX2_read_17 : decode cX2_read 17 = .ok (.iload_n 1, 1) := by decide +kernel
theorem dX2_read_18 : decode cX2_read 18 = .ok (.aload_n 0, 1) := by decide +kernel
theorem dX2_read_19 : decode cX2_read 19 = .ok (.getfield 23, 3) := by decide +kernel
theorem dX2_read_22 : decode cX2_read 22 = .ok (.if_icmp .ge 33, 3) := by decide +kernel
theorem dX2_read_25 : decode cX2_read 25 = .ok (.iload_n 1, 1) := by decide +kernel
theorem dX2_read_26 : decode cX2_read 26 = .ok (.aload_n 0, 1) := by decide +kernel
theorem dX2_read_27 : decode cX2_read 27 = .ok (.getfield 9, 3) := by decide +kernel
theorem dX2_read_30 : decode cX2_read 30 = .ok (.arraylength, 1) := by decide +kernel
theorem dX2_read_31 : decode cX2_read 31 = .ok (.if_icmp .ge 24, 3) := by decide +kernel
theorem dX2_read_34 : decode cX2_read 34 = .ok (.aload_n 0, 1) := by decide +kernel
theorem dX2_read_35 : decode cX2_read 35 = .ok (.aload_n 0, 1) := by decide +kernel
theorem dX2_read_36 : decode cX2_read 36 = .ok (.getfield 9, 3) := by decide +kernel
theorem dX2_read_39 : decode cX2_read 39 = .ok (.iload_n 1, 1) := by decide +kernel
theorem dX2_read_40 : decode cX2_read 40 = .ok (.caload, 1) := by decide +kernel
theorem dX2_read_41 : decode cX2_read 41 = .ok (.invokevirtual 36, 3) := by decide +kernel
theorem dX2_read_44 : decode cX2_read 44 = .ok (.ifCond .ne 5, 3) := by decide +kernel
theorem dX2_read_47 : decode cX2_read 47 = .ok (.iload_n 1, 1) := by decide +kernel
theorem dX2_read_48 : decode cX2_read 48 = .ok (.ireturn, 1) := by decide +kernel
theorem dX2_read_49 : decode cX2_read 49 = .ok (.iinc 1 1, 3) := by decide +kernel
theorem dX2_read_52 : decode cX2_read 52 = .ok (.goto (-35), 3) := by decide +kernel
theorem dX2_read_55 : decode cX2_read 55 = .ok (.aload_n 0, 1) := by decide +kernel
theorem dX2_read_56 : decode cX2_read 56 = .ok (.getfield 30, 3) := by decide +kernel
theorem dX2_read_59 : decode cX2_read 59 = .ok (.iconst 2, 1) := by decide +kernel
theorem dX2_read_60 : decode cX2_read 60 = .ok (.if_icmp .ne 10, 3) := by decide +kernel
theorem dX2_read_63 : decode cX2_read 63 = .ok (.aload_n 0, 1) := by decide +kernel
theorem dX2_read_64 : decode cX2_read 64 = .ok (.getfield 33, 3) := by decide +kernel
theorem dX2_read_67 : decode cX2_read 67 = .ok (.ifCond .ne 8, 3) := by decide +kernel
theorem dX2_read_70 : decode cX2_read 70 = .ok (.aload_n 0, 1) := by decide +kernel
theorem dX2_read_71 : decode cX2_read 71 = .ok (.getfield 23, 3) := by decide +kernel
theorem dX2_read_74 : decode cX2_read 74 = .ok (.ireturn, 1) := by decide +kernel
theorem dX2_read_75 : decode cX2_read 75 = .ok (.aload_n 0, 1) := by decide +kernel
theorem dX2_read_76 : decode cX2_read 76 = .ok (.invokevirtual 40, 3) := by decide +kernel
theorem dX2_read_79 : decode cX2_read 79 = .ok (.iconst (-1), 1) := by decide +kernel
theorem dX2_read_80 : decode cX2_read 80 = .ok (.ireturn, 1) := by decide +kernel
set_option maxRecDepth 20000 in
theorem ggX2_takes_X2_takesWay : GoodIn wsX2_takes wsX2_takesWay := goodIn_r _ [8, 9, 1, 22, 23, 24, 25, 26, 27, 28, 29, 30, 31] (by decide +kernel) (by decide +kernel)
set_option maxRecDepth 20000 in
theorem gX2_takes_X2_takesWay : GoodIn wsX2_takes (wsV RX2 43 RX2 yX2_takesWay wsX2_takesWay) := goodIn_app (goodIn_of _ (by decide +kernel)) ggX2_takes_X2_takesWay
set_option maxRecDepth 20000 in
theorem ggX2_takes_X2_takesDigit : GoodIn wsX2_takes wsX2_takesDigit := goodIn_r _ [13, 2, 22, 23, 24, 25, 26, 27, 28, 29, 30, 31] (by decide +kernel) (by decide +kernel)
set_option maxRecDepth 20000 in
theorem gX2_takes_X2_takesDigit : GoodIn wsX2_takes (wsV RX2 46 RX2 yX2_takesDigit wsX2_takesDigit) := goodIn_app (goodIn_of _ (by decide +kernel)) ggX2_takes_X2_takesDigit
set_option maxRecDepth 20000 in
theorem ggX2_takes_X2_endJoin : GoodIn wsX2_takes wsX2_endJoin := goodIn_r _ [17, 18, 19, 20, 21, 9, 3, 2, 1, 22, 23, 24, 25, 26, 27, 28, 29, 30, 31] (by decide +kernel) (by decide +kernel)
set_option maxRecDepth 20000 in
theorem gX2_takes_X2_endJoin : GoodIn wsX2_takes (wsV RX2 40 RX2 yX2_endJoin wsX2_endJoin) := goodIn_app (goodIn_of _ (by decide +kernel)) ggX2_takes_X2_endJoin
theorem dX2_takes_0 : decode cX2_takes 0 = .ok (.aload_n 0, 1) := by decide +kernel
theorem dX2_takes_1 : decode cX2_takes 1 = .ok (.getfield 30, 3) := by decide +kernel
theorem dX2_takes_4 : decode cX2_takes 4 = .ok (.ifCond .ne 9, 3) := by decide +kernel
theorem dX2_takes_7 : decode cX2_takes 7 = .ok (.aload_n 0, 1) := by decide +kernel
theorem dX2_takes_8 : decode cX2_takes 8 = .ok (.iload_n 1, 1) := by decide +kernel
theorem dX2_takes_9 : decode cX2_takes 9 = .ok (.invokevirtual 43, 3) := by decide +kernel
theorem dX2_takes_12 : decode cX2_takes 12 = .ok (.ireturn, 1) := by decide +kernel
theorem dX2_takes_13 : decode cX2_takes 13 = .ok (.iload_n 1, 1) := by decide +kernel
theorem dX2_takes_14 : decode cX2_takes 14 = .ok (.bipush 48, 2) := by decide +kernel
theorem dX2_takes_16 : decode cX2_takes 16 = .ok (.if_icmp .lt 18, 3) := by decide +kernel
theorem dX2_takes_19 : decode cX2_takes 19 = .ok (.iload_n 1, 1) := by decide +kernel
theorem dX2_takes_20 : decode cX2_takes 20 = .ok (.bipush 57, 2) := by decide +kernel
theorem dX2_takes_22 : decode cX2_takes 22 = .ok (.if_icmp .gt 12, 3) := by decide +kernel
theorem dX2_takes_25 : decode cX2_takes 25 = .ok (.aload_n 0, 1) := by decide +kernel
theorem dX2_takes_26 : decode cX2_takes 26 = .ok (.iload_n 1, 1) := by decide +kernel
theorem dX2_takes_27 : decode cX2_takes 27 = .ok (.bipush 48, 2) := by decide +kernel
theorem dX2_takes_29 : decode cX2_takes 29 = .ok (.isub, 1) := by decide +kernel
theorem dX2_takes_30 : decode cX2_takes 30 = .ok (.invokevirtual 46, 3) := by decide +kernel
theorem dX2_takes_33 : decode cX2_takes 33 = .ok (.ireturn, 1) := by decide +kernel
theorem dX2_takes_34 : decode cX2_takes 34 = .ok (.aload_n 0, 1) := by decide +kernel
theorem dX2_takes_35 : decode cX2_takes 35 = .ok (.getfield 33, 3) := by decide +kernel
theorem dX2_takes_38 : decode cX2_takes 38 = .ok (.ifCond .ne 5, 3) := by decide +kernel
theorem dX2_takes_41 : decode cX2_takes 41 = .ok (.iconst 0, 1) := by decide +kernel
theorem dX2_takes_42 : decode cX2_takes 42 = .ok (.ireturn, 1) := by decide +kernel
theorem dX2_takes_43 : decode cX2_takes 43 = .ok (.aload_n 0, 1) := by decide +kernel
theorem dX2_takes_44 : decode cX2_takes 44 = .ok (.getfield 30, 3) := by decide +kernel
theorem dX2_takes_47 : decode cX2_takes 47 = .ok (.iconst 1, 1) := by decide +kernel
theorem dX2_takes_48 : decode cX2_takes 48 = .ok (.if_icmp .ne 29, 3) := by decide +kernel
theorem dX2_takes_51 : decode cX2_takes 51 = .ok (.iload_n 1, 1) := by decide +kernel
theorem dX2_takes_52 : decode cX2_takes 52 = .ok (.bipush 120, 2) := by decide +kernel
theorem dX2_takes_54 : decode cX2_takes 54 = .ok (.if_icmp .ne 23, 3) := by decide +kernel
theorem dX2_takes_57 : decode cX2_takes 57 = .ok (.aload_n 0, 1) := by decide +kernel
theorem dX2_takes_58 : decode cX2_takes 58 = .ok (.aload_n 0, 1) := by decide +kernel
theorem dX2_takes_59 : decode cX2_takes 59 = .ok (.getfield 33, 3) := by decide +kernel
theorem dX2_takes_62 : decode cX2_takes 62 = .ok (.putfield 50, 3) := by decide +kernel
theorem dX2_takes_65 : decode cX2_takes 65 = .ok (.aload_n 0, 1) := by decide +kernel
theorem dX2_takes_66 : decode cX2_takes 66 = .ok (.iconst 0, 1) := by decide +kernel
theorem dX2_takes_67 : decode cX2_takes 67 = .ok (.putfield 33, 3) := by decide +kernel
theorem dX2_takes_70 : decode cX2_takes 70 = .ok (.aload_n 0, 1) := by decide +kernel
theorem dX2_takes_71 : decode cX2_takes 71 = .ok (.iconst 2, 1) := by decide +kernel
theorem dX2_takes_72 : decode cX2_takes 72 = .ok (.putfield 30, 3) := by decide +kernel
theorem dX2_takes_75 : decode cX2_takes 75 = .ok (.iconst 1, 1) := by decide +kernel
theorem dX2_takes_76 : decode cX2_takes 76 = .ok (.ireturn, 1) := by decide +kernel
theorem dX2_takes_77 : decode cX2_takes 77 = .ok (.aload_n 0, 1) := by decide +kernel
theorem dX2_takes_78 : decode cX2_takes 78 = .ok (.getfield 30, 3) := by decide +kernel
theorem dX2_takes_81 : decode cX2_takes 81 = .ok (.iconst 2, 1) := by decide +kernel
theorem dX2_takes_82 : decode cX2_takes 82 = .ok (.if_icmp .ne 15, 3) := by decide +kernel
theorem dX2_takes_85 : decode cX2_takes 85 = .ok (.iload_n 1, 1) := by decide +kernel
theorem dX2_takes_86 : decode cX2_takes 86 = .ok (.bipush 44, 2) := by decide +kernel
theorem dX2_takes_88 : decode cX2_takes 88 = .ok (.if_icmp .ne 9, 3) := by decide +kernel
theorem dX2_takes_91 : decode cX2_takes 91 = .ok (.aload_n 0, 1) := by decide +kernel
theorem dX2_takes_92 : decode cX2_takes 92 = .ok (.invokevirtual 40, 3) := by decide +kernel
theorem dX2_takes_95 : decode cX2_takes 95 = .ok (.iconst 1, 1) := by decide +kernel
theorem dX2_takes_96 : decode cX2_takes 96 = .ok (.ireturn, 1) := by decide +kernel
theorem dX2_takes_97 : decode cX2_takes 97 = .ok (.iconst 0, 1) := by decide +kernel
theorem dX2_takes_98 : decode cX2_takes 98 = .ok (.ireturn, 1) := by decide +kernel
theorem dX2_takesWay_0 : decode cX2_takesWay 0 = .ok (.iload_n 1, 1) := by decide +kernel
theorem dX2_takesWay_1 : decode cX2_takesWay 1 = .ok (.bipush 108, 2) := by decide +kernel
theorem dX2_takesWay_3 : decode cX2_takesWay 3 = .ok (.if_icmp .ne 11, 3) := by decide +kernel
theorem dX2_takesWay_6 : decode cX2_takesWay 6 = .ok (.aload_n 0, 1) := by decide +kernel
theorem dX2_takesWay_7 : decode cX2_takesWay 7 = .ok (.iconst 0, 1) := by decide +kernel
theorem dX2_takesWay_8 : decode cX2_takesWay 8 = .ok (.putfield 55, 3) := by decide +kernel
theorem dX2_takesWay_11 : decode cX2_takesWay 11 = .ok (.goto 33, 3) := by decide +kernel
theorem dX2_takesWay_14 : decode cX2_takesWay 14 = .ok (.iload_n 1, 1) := by decide +kernel
theorem dX2_takesWay_15 : decode cX2_takesWay 15 = .ok (.bipush 98, 2) := by decide +kernel
theorem dX2_takesWay_17 : decode cX2_takesWay 17 = .ok (.if_icmp .ne 11, 3) := by decide +kernel
theorem dX2_takesWay_20 : decode cX2_takesWay 20 = .ok (.aload_n 0, 1) := by decide +kernel
theorem dX2_takesWay_21 : decode cX2_takesWay 21 = .ok (.iconst 1, 1) := by decide +kernel
theorem dX2_takesWay_22 : decode cX2_takesWay 22 = .ok (.putfield 55, 3) := by decide +kernel
theorem dX2_takesWay_25 : decode cX2_takesWay 25 = .ok (.goto 19, 3) := by decide +kernel
theorem dX2_takesWay_28 : decode cX2_takesWay 28 = .ok (.iload_n 1, 1) := by decide +kernel
theorem dX2_takesWay_29 : decode cX2_takesWay 29 = .ok (.bipush 109, 2) := by decide +kernel
theorem dX2_takesWay_31 : decode cX2_takesWay 31 = .ok (.if_icmp .ne 11, 3) := by decide +kernel
theorem dX2_takesWay_34 : decode cX2_takesWay 34 = .ok (.aload_n 0, 1) := by decide +kernel
theorem dX2_takesWay_35 : decode cX2_takesWay 35 = .ok (.iconst 2, 1) := by decide +kernel
theorem dX2_takesWay_36 : decode cX2_takesWay 36 = .ok (.putfield 55, 3) := by decide +kernel
theorem dX2_takesWay_39 : decode cX2_takesWay 39 = .ok (.goto 5, 3) := by decide +kernel
theorem dX2_takesWay_42 : decode cX2_takesWay 42 = .ok (.iconst 0, 1) := by decide +kernel
theorem dX2_takesWay_43 : decode cX2_takesWay 43 = .ok (.ireturn, 1) := by decide +kernel
theorem dX2_takesWay_44 : decode cX2_takesWay 44 = .ok (.aload_n 0, 1) := by decide +kernel
theorem dX2_takesWay_45 : decode cX2_takesWay 45 = .ok (.iconst 1, 1) := by decide +kernel
theorem dX2_takesWay_46 : decode cX2_takesWay 46 = .ok (.putfield 30, 3) := by decide +kernel
theorem dX2_takesWay_49 : decode cX2_takesWay 49 = .ok (.iconst 1, 1) := by decide +kernel
theorem dX2_takesWay_50 : decode cX2_takesWay 50 = .ok (.ireturn, 1) := by decide +kernel
theorem dX2_takesDigit_0 : decode cX2_takesDigit 0 = .ok (.aload_n 0, 1) := by decide +kernel
theorem dX2_takesDigit_1 : decode cX2_takesDigit 1 = .ok (.getfield 33, 3) := by decide +kernel
theorem dX2_takesDigit_4 : decode cX2_takesDigit 4 = .ok (.bipush 10, 2) := by decide +kernel
theorem dX2_takesDigit_6 : decode cX2_takesDigit 6 = .ok (.imul, 1) := by decide +kernel
theorem dX2_takesDigit_7 : decode cX2_takesDigit 7 = .ok (.iload_n 1, 1) := by decide +kernel
theorem dX2_takesDigit_8 : decode cX2_takesDigit 8 = .ok (.iadd, 1) := by decide +kernel
theorem dX2_takesDigit_9 : decode cX2_takesDigit 9 = .ok (.istore_n 2, 1) := by decide +kernel
theorem dX2_takesDigit_10 : decode cX2_takesDigit 10 = .ok (.iload_n 2, 1) := by decide +kernel
theorem dX2_takesDigit_11 : decode cX2_takesDigit 11 = .ok (.ifCond .eq 10, 3) := by decide +kernel
theorem dX2_takesDigit_14 : decode cX2_takesDigit 14 = .ok (.iload_n 2, 1) := by decide +kernel
theorem dX2_takesDigit_15 : decode cX2_takesDigit 15 = .ok (.sipush 200, 3) := by decide +kernel
theorem dX2_takesDigit_18 : decode cX2_takesDigit 18 = .ok (.if_icmp .le 5, 3) := by decide +kernel
theorem dX2_takesDigit_21 : decode cX2_takesDigit 21 = .ok (.iconst 0, 1) := by decide +kernel
theorem dX2_takesDigit_22 : decode cX2_takesDigit 22 = .ok (.ireturn, 1) := by decide +kernel
theorem dX2_takesDigit_23 : decode cX2_takesDigit 23 = .ok (.aload_n 0, 1) := by decide +kernel
theorem dX2_takesDigit_24 : decode cX2_takesDigit 24 = .ok (.iload_n 2, 1) := by decide +kernel
theorem dX2_takesDigit_25 : decode cX2_takesDigit 25 = .ok (.putfield 33, 3) := by decide +kernel
theorem dX2_takesDigit_28 : decode cX2_takesDigit 28 = .ok (.iconst 1, 1) := by decide +kernel
theorem dX2_takesDigit_29 : decode cX2_takesDigit 29 = .ok (.ireturn, 1) := by decide +kernel
theorem dX2_endJoin_0 : decode cX2_endJoin 0 = .ok (.aload_n 0, 1) := by decide +kernel
theorem dX2_endJoin_1 : decode cX2_endJoin 1 = .ok (.getfield 27, 3) := by decide +kernel
theorem dX2_endJoin_4 : decode cX2_endJoin 4 = .ok (.aload_n 0, 1) := by decide +kernel
theorem dX2_endJoin_5 : decode cX2_endJoin 5 = .ok (.getfield 13, 3) := by decide +kernel
theorem dX2_endJoin_8 : decode cX2_endJoin 8 = .ok (.arraylength, 1) := by decide +kernel
theorem dX2_endJoin_9 : decode cX2_endJoin 9 = .ok (.if_icmp .ge 76, 3) := by decide +kernel
theorem dX2_endJoin_12 : decode cX2_endJoin 12 = .ok (.aload_n 0, 1) := by decide +kernel
theorem dX2_endJoin_13 : decode cX2_endJoin 13 = .ok (.getfield 27, 3) := by decide +kernel
theorem dX2_endJoin_16 : decode cX2_endJoin 16 = .ok (.aload_n 0, 1) := by decide +kernel
theorem dX2_endJoin_17 : decode cX2_endJoin 17 = .ok (.getfield 17, 3) := by decide +kernel
theorem dX2_endJoin_20 : decode cX2_endJoin 20 = .ok (.arraylength, 1) := by decide +kernel
theorem dX2_endJoin_21 : decode cX2_endJoin 21 = .ok (.if_icmp .ge 64, 3) := by decide +kernel
theorem dX2_endJoin_24 : decode cX2_endJoin 24 = .ok (.aload_n 0, 1) := by decide +kernel
theorem dX2_endJoin_25 : decode cX2_endJoin 25 = .ok (.getfield 27, 3) := by decide +kernel
theorem dX2_endJoin_28 : decode cX2_endJoin 28 = .ok (.aload_n 0, 1) := by decide +kernel
theorem dX2_endJoin_29 : decode cX2_endJoin 29 = .ok (.getfield 20, 3) := by decide +kernel
theorem dX2_endJoin_32 : decode cX2_endJoin 32 = .ok (.arraylength, 1) := by decide +kernel
theorem dX2_endJoin_33 : decode cX2_endJoin 33 = .ok (.if_icmp .ge 52, 3) := by decide +kernel
theorem dX2_endJoin_36 : decode cX2_endJoin 36 = .ok (.aload_n 0, 1) := by decide +kernel
theorem dX2_endJoin_37 : decode cX2_endJoin 37 = .ok (.getfield 13, 3) := by decide +kernel
theorem dX2_endJoin_40 : decode cX2_endJoin 40 = .ok (.aload_n 0, 1) := by decide +kernel
theorem dX2_endJoin_41 : decode cX2_endJoin 41 = .ok (.getfield 27, 3) := by decide +kernel
theorem dX2_endJoin_44 : decode cX2_endJoin 44 = .ok (.aload_n 0, 1) := by decide +kernel
theorem dX2_endJoin_45 : decode cX2_endJoin 45 = .ok (.getfield 55, 3) := by decide +kernel
theorem dX2_endJoin_48 : decode cX2_endJoin 48 = .ok (.iastore, 1) := by decide +kernel
theorem dX2_endJoin_49 : decode cX2_endJoin 49 = .ok (.aload_n 0, 1) := by decide +kernel
theorem dX2_endJoin_50 : decode cX2_endJoin 50 = .ok (.getfield 17, 3) := by decide +kernel
theorem dX2_endJoin_53 : decode cX2_endJoin 53 = .ok (.aload_n 0, 1) := by decide +kernel
theorem dX2_endJoin_54 : decode cX2_endJoin 54 = .ok (.getfield 27, 3) := by decide +kernel
theorem dX2_endJoin_57 : decode cX2_endJoin 57 = .ok (.aload_n 0, 1) := by decide +kernel
theorem dX2_endJoin_58 : decode cX2_endJoin 58 = .ok (.getfield 50, 3) := by decide +kernel
theorem dX2_endJoin_61 : decode cX2_endJoin 61 = .ok (.iastore, 1) := by decide +kernel
theorem dX2_endJoin_62 : decode cX2_endJoin 62 = .ok (.aload_n 0, 1) := by decide +kernel
theorem dX2_endJoin_63 : decode cX2_endJoin 63 = .ok (.getfield 20, 3) := by decide +kernel
theorem dX2_endJoin_66 : decode cX2_endJoin 66 = .ok (.aload_n 0, 1) := by decide +kernel
theorem dX2_endJoin_67 : decode cX2_endJoin 67 = .ok (.getfield 27, 3) := by decide +kernel
theorem dX2_endJoin_70 : decode cX2_endJoin 70 = .ok (.aload_n 0, 1) := by decide +kernel
theorem dX2_endJoin_71 : decode cX2_endJoin 71 = .ok (.getfield 33, 3) := by decide +kernel
theorem dX2_endJoin_74 : decode cX2_endJoin 74 = .ok (.iastore, 1) := by decide +kernel
theorem dX2_endJoin_75 : decode cX2_endJoin 75 = .ok (.aload_n 0, 1) := by decide +kernel
theorem dX2_endJoin_76 : decode cX2_endJoin 76 = .ok (.dup, 1) := by decide +kernel
theorem dX2_endJoin_77 : decode cX2_endJoin 77 = .ok (.getfield 27, 3) := by decide +kernel
theorem dX2_endJoin_80 : decode cX2_endJoin 80 = .ok (.iconst 1, 1) := by decide +kernel
theorem dX2_endJoin_81 : decode cX2_endJoin 81 = .ok (.iadd, 1) := by decide +kernel
theorem dX2_endJoin_82 : decode cX2_endJoin 82 = .ok (.putfield 27, 3) := by decide +kernel
theorem dX2_endJoin_85 : decode cX2_endJoin 85 = .ok (.aload_n 0, 1) := by decide +kernel
theorem dX2_endJoin_86 : decode cX2_endJoin 86 = .ok (.iconst 0, 1) := by decide +kernel
theorem dX2_endJoin_87 : decode cX2_endJoin 87 = .ok (.putfield 33, 3) := by decide +kernel
theorem dX2_endJoin_90 : decode cX2_endJoin 90 = .ok (.aload_n 0, 1) := by decide +kernel
theorem dX2_endJoin_91 : decode cX2_endJoin 91 = .ok (.iconst 0, 1) := by decide +kernel
theorem dX2_endJoin_92 : decode cX2_endJoin 92 = .ok (.putfield 30, 3) := by decide +kernel
theorem dX2_endJoin_95 : decode cX2_endJoin 95 = .ok (.return_, 1) := by decide +kernel
theorem dX2_joins_0 : decode cX2_joins 0 = .ok (.aload_n 0, 1) := by decide +kernel
theorem dX2_joins_1 : decode cX2_joins 1 = .ok (.getfield 27, 3) := by decide +kernel
theorem dX2_joins_4 : decode cX2_joins 4 = .ok (.ireturn, 1) := by decide +kernel
theorem dX2_wayOf_0 : decode cX2_wayOf 0 = .ok (.iload_n 1, 1) := by decide +kernel
theorem dX2_wayOf_1 : decode cX2_wayOf 1 = .ok (.ifCond .lt 21, 3) := by decide +kernel
theorem dX2_wayOf_4 : decode cX2_wayOf 4 = .ok (.iload_n 1, 1) := by decide +kernel
theorem dX2_wayOf_5 : decode cX2_wayOf 5 = .ok (.aload_n 0, 1) := by decide +kernel
theorem dX2_wayOf_6 : decode cX2_wayOf 6 = .ok (.getfield 13, 3) := by decide +kernel
theorem dX2_wayOf_9 : decode cX2_wayOf 9 = .ok (.arraylength, 1) := by decide +kernel
theorem dX2_wayOf_10 : decode cX2_wayOf 10 = .ok (.if_icmp .ge 12, 3) := by decide +kernel
theorem dX2_wayOf_13 : decode cX2_wayOf 13 = .ok (.aload_n 0, 1) := by decide +kernel
theorem dX2_wayOf_14 : decode cX2_wayOf 14 = .ok (.getfield 13, 3) := by decide +kernel
theorem dX2_wayOf_17 : decode cX2_wayOf 17 = .ok (.iload_n 1, 1) := by decide +kernel
theorem dX2_wayOf_18 : decode cX2_wayOf 18 = .ok (.iaload, 1) := by decide +kernel
theorem dX2_wayOf_19 : decode cX2_wayOf 19 = .ok (.goto 4, 3) := by decide +kernel
theorem dX2_wayOf_22 : decode cX2_wayOf 22 = .ok (.iconst 0, 1) := by decide +kernel
theorem dX2_wayOf_23 : decode cX2_wayOf 23 = .ok (.ireturn, 1) := by decide +kernel
theorem dX2_leftOf_0 : decode cX2_leftOf 0 = .ok (.iload_n 1, 1) := by decide +kernel
theorem dX2_leftOf_1 : decode cX2_leftOf 1 = .ok (.ifCond .lt 21, 3) := by decide +kernel
theorem dX2_leftOf_4 : decode cX2_leftOf 4 = .ok (.iload_n 1, 1) := by decide +kernel
theorem dX2_leftOf_5 : decode cX2_leftOf 5 = .ok (.aload_n 0, 1) := by decide +kernel
theorem dX2_leftOf_6 : decode cX2_leftOf 6 = .ok (.getfield 17, 3) := by decide +kernel
theorem dX2_leftOf_9 : decode cX2_leftOf 9 = .ok (.arraylength, 1) := by decide +kernel
theorem dX2_leftOf_10 : decode cX2_leftOf 10 = .ok (.if_icmp .ge 12, 3) := by decide +kernel
theorem dX2_leftOf_13 : decode cX2_leftOf 13 = .ok (.aload_n 0, 1) := by decide +kernel
theorem dX2_leftOf_14 : decode cX2_leftOf 14 = .ok (.getfield 17, 3) := by decide +kernel
theorem dX2_leftOf_17 : decode cX2_leftOf 17 = .ok (.iload_n 1, 1) := by decide +kernel
theorem dX2_leftOf_18 : decode cX2_leftOf 18 = .ok (.iaload, 1) := by decide +kernel
theorem dX2_leftOf_19 : decode cX2_leftOf 19 = .ok (.goto 4, 3) := by decide +kernel
theorem dX2_leftOf_22 : decode cX2_leftOf 22 = .ok (.iconst 0, 1) := by decide +kernel
theorem dX2_leftOf_23 : decode cX2_leftOf 23 = .ok (.ireturn, 1) := by decide +kernel
theorem dX2_rightOf_0 : decode cX2_rightOf 0 = .ok (.iload_n 1, 1) := by decide +kernel
theorem dX2_rightOf_1 : decode cX2_rightOf 1 = .ok (.ifCond .lt 21, 3) := by decide +kernel
theorem dX2_rightOf_4 : decode cX2_rightOf 4 = .ok (.iload_n 1, 1) := by decide +kernel
theorem dX2_rightOf_5 : decode cX2_rightOf 5 = .ok (.aload_n 0, 1) := by decide +kernel
theorem dX2_rightOf_6 : decode cX2_rightOf 6 = .ok (.getfield 20, 3) := by decide +kernel
theorem dX2_rightOf_9 : decode cX2_rightOf 9 = .ok (.arraylength, 1) := by decide +kernel
theorem dX2_rightOf_10 : decode cX2_rightOf 10 = .ok (.if_icmp .ge 12, 3) := by decide +kernel
theorem dX2_rightOf_13 : decode cX2_rightOf 13 = .ok (.aload_n 0, 1) := by decide +kernel
theorem dX2_rightOf_14 : decode cX2_rightOf 14 = .ok (.getfield 20, 3) := by decide +kernel
theorem dX2_rightOf_17 : decode cX2_rightOf 17 = .ok (.iload_n 1, 1) := by decide +kernel
theorem dX2_rightOf_18 : decode cX2_rightOf 18 = .ok (.iaload, 1) := by decide +kernel
theorem dX2_rightOf_19 : decode cX2_rightOf 19 = .ok (.goto 4, 3) := by decide +kernel
theorem dX2_rightOf_22 : decode cX2_rightOf 22 = .ok (.iconst 0, 1) := by decide +kernel
theorem dX2_rightOf_23 : decode cX2_rightOf 23 = .ok (.ireturn, 1) := by decide +kernel
