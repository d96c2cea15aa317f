set_option maxRecDepth 20000 in
theorem ggX1_init_X3_init : GoodIn wsX1_init wsX3_init := goodIn_r _ [11, 12, 2, 3] (by decide +kernel) (by decide +kernel)
set_option maxRecDepth 20000 in
theorem gX1_init_X3_init_n9 : GoodIn wsX1_init (wsX3_init) := ggX1_init_X3_init
theorem dX1_init_0 : decode cX1_init 0 = .ok (.aload_n 0, 1) := by decide +kernel
theorem dX1_init_1 : decode cX1_init 1 = .ok (.invokespecial 1, 3) := by decide +kernel
theorem dX1_init_4 : decode cX1_init 4 = .ok (.aload_n 0, 1) := by decide +kernel
theorem dX1_init_5 : decode cX1_init 5 = .ok (.new 7, 3) := by decide +kernel
theorem dX1_init_8 : decode cX1_init 8 = .ok (.dup, 1) := by decide +kernel
theorem dX1_init_9 : decode cX1_init 9 = .ok (.invokespecial 9, 3) := by decide +kernel
theorem dX1_init_12 : decode cX1_init 12 = .ok (.putfield 10, 3) := by decide +kernel
theorem dX1_init_15 : decode cX1_init 15 = .ok (.aload_n 0, 1) := by decide +kernel
theorem dX1_init_16 : decode cX1_init 16 = .ok (.iconst (-1), 1) := by decide +kernel
theorem dX1_init_17 : decode cX1_init 17 = .ok (.putfield 16, 3) := by decide +kernel
theorem dX1_init_20 : decode cX1_init 20 = .ok (.aload_n 0, 1) := by decide +kernel
theorem dX1_init_21 : decode cX1_init 21 = .ok (.iload_n 1, 1) := by decide +kernel
theorem dX1_init_22 : decode cX1_init 22 = .ok (.putfield 20, 3) := by decide +kernel
theorem dX1_init_25 : decode cX1_init 25 = .ok (.return_, 1) := by decide +kernel
set_option maxRecDepth 20000 in
theorem ggX1_come_X3_make : GoodIn wsX1_come wsX3_make := goodIn_r _ [7, 8, 9, 10, 11, 12, 6, 13, 14, 15, 16, 17, 18, 19, 20, 21, 22, 23, 24, 25, 26, 27, 28, 29, 30, 31, 40, 41, 42, 43, 44] (by decide +kernel) (by decide +kernel)
set_option maxRecDepth 20000 in
theorem gX1_come_X3_make : GoodIn wsX1_come (wsV RX1 23 RX3 yX3_make wsX3_make) := goodIn_app (goodIn_of _ (by decide +kernel)) ggX1_come_X3_make
theorem dX1_come_0 : decode cX1_come 0 = .ok (.aload_n 0, 1) := by decide +kernel
theorem dX1_come_1 : decode cX1_come 1 = .ok (.getfield 10, 3) := by decide +kernel
theorem dX1_come_4 : decode cX1_come 4 = .ok (.iload_n 1, 1) := by decide +kernel
theorem dX1_come_5 : decode cX1_come 5 = .ok (.iload_n 2, 1) := by decide +kernel
theorem dX1_come_6 : decode cX1_come 6 = .ok (.iload_n 3, 1) := by decide +kernel
theorem dX1_come_7 : decode cX1_come 7 = .ok (.invokevirtual 23, 3) := by decide +kernel
theorem dX1_come_10 : decode cX1_come 10 = .ok (.aload_n 0, 1) := by decide +kernel
theorem dX1_come_11 : decode cX1_come 11 = .ok (.iconst 0, 1) := by decide +kernel
theorem dX1_come_12 : decode cX1_come 12 = .ok (.putfield 16, 3) := by decide +kernel
theorem dX1_come_15 : decode cX1_come 15 = .ok (.return_, 1) := by decide +kernel
set_option maxRecDepth 20000 in
theorem ggX1_changeWay_X3_changeWay : GoodIn wsX1_changeWay wsX3_changeWay := goodIn_r _ [6, 7, 8, 9, 10, 11, 12, 13, 14, 15, 16, 5, 17, 18, 19, 20, 21, 22, 23, 24, 25, 26, 35, 36, 37, 38, 39] (by decide +kernel) (by decide +kernel)
set_option maxRecDepth 20000 in
theorem gX1_changeWay_X3_changeWay : GoodIn wsX1_changeWay (wsV RX1 27 RX3 yX3_changeWay wsX3_changeWay) := goodIn_app (goodIn_of _ (by decide +kernel)) ggX1_changeWay_X3_changeWay
theorem dX1_changeWay_0 : decode cX1_changeWay 0 = .ok (.aload_n 0, 1) := by decide +kernel
theorem dX1_changeWay_1 : decode cX1_changeWay 1 = .ok (.getfield 10, 3) := by decide +kernel
theorem dX1_changeWay_4 : decode cX1_changeWay 4 = .ok (.iload_n 1, 1) := by decide +kernel
theorem dX1_changeWay_5 : decode cX1_changeWay 5 = .ok (.invokevirtual 27, 3) := by decide +kernel
theorem dX1_changeWay_8 : decode cX1_changeWay 8 = .ok (.return_, 1) := by decide +kernel
set_option maxRecDepth 20000 in
theorem ggX1_start_X3_workWith : GoodIn wsX1_start wsX3_workWith := goodIn_r _ [9, 10, 11, 12, 13, 22, 23, 24, 25, 26] (by decide +kernel) (by decide +kernel)
set_option maxRecDepth 20000 in
theorem gX1_start_X3_workWith : GoodIn wsX1_start (wsV RX1 34 RX3 yX3_workWith wsX3_workWith) := goodIn_app (goodIn_of _ (by decide +kernel)) ggX1_start_X3_workWith
theorem dX1_start_0 : decode cX1_start 0 = .ok (.aload_n 0, 1) := by decide +kernel
theorem dX1_start_1 : decode cX1_start 1 = .ok (.iconst 1, 1) := by decide +kernel
theorem dX1_start_2 : decode cX1_start 2 = .ok (.putfield 16, 3) := by decide +kernel
theorem dX1_start_5 : decode cX1_start 5 = .ok (.aload_n 0, 1) := by decide +kernel
theorem dX1_start_6 : decode cX1_start 6 = .ok (.iload_n 1, 1) := by decide +kernel
theorem dX1_start_7 : decode cX1_start 7 = .ok (.putfield 31, 3) := by decide +kernel
theorem dX1_start_10 : decode cX1_start 10 = .ok (.aload_n 0, 1) := by decide +kernel
theorem dX1_start_11 : decode cX1_start 11 = .ok (.aload_n 0, 1) := by decide +kernel
theorem dX1_start_12 : decode cX1_start 12 = .ok (.getfield 10, 3) := by decide +kernel
theorem dX1_start_15 : decode cX1_start 15 = .ok (.iload_n 1, 1) := by decide +kernel
theorem dX1_start_16 : decode cX1_start 16 = .ok (.invokevirtual 34, 3) := by decide +kernel
theorem dX1_start_19 : decode cX1_start 19 = .ok (.putfield 38, 3) := by decide +kernel
theorem dX1_start_22 : decode cX1_start 22 = .ok (.return_, 1) := by decide +kernel
theorem dX1_end_0 : decode cX1_end 0 = .ok (.aload_n 0, 1) := by decide +kernel
theorem dX1_end_1 : decode cX1_end 1 = .ok (.iload_n 1, 1) := by decide +kernel
theorem dX1_end_2 : decode cX1_end 2 = .ok (.putfield 16, 3) := by decide +kernel
theorem dX1_end_5 : decode cX1_end 5 = .ok (.aload_n 0, 1) := by decide +kernel
theorem dX1_end_6 : decode cX1_end 6 = .ok (.iconst 0, 1) := by decide +kernel
theorem dX1_end_7 : decode cX1_end 7 = .ok (.putfield 31, 3) := by decide +kernel
theorem dX1_end_10 : decode cX1_end 10 = .ok (.aload_n 0, 1) := by decide +kernel
theorem dX1_end_11 : decode cX1_end 11 = .ok (.iconst 0, 1) := by decide +kernel
theorem dX1_end_12 : decode cX1_end 12 = .ok (.putfield 38, 3) := by decide +kernel
theorem dX1_end_15 : decode cX1_end 15 = .ok (.return_, 1) := by decide +kernel
set_option maxRecDepth 20000 in
theorem ggX1_giveBack_X3_workWith : GoodIn wsX1_giveBack wsX3_workWith := goodIn_r _ [9, 10, 11, 12, 13, 22, 23, 24, 25, 26] (by decide +kernel) (by decide +kernel)
set_option maxRecDepth 20000 in
theorem gX1_giveBack_X3_workWith : GoodIn wsX1_giveBack (wsV RX1 34 RX3 yX3_workWith wsX3_workWith) := goodIn_app (goodIn_of _ (by decide +kernel)) ggX1_giveBack_X3_workWith
theorem dX1_giveBack_0 : decode cX1_giveBack 0 = .ok (.aload_n 0, 1) := by decide +kernel
theorem dX1_giveBack_1 : decode cX1_giveBack 1 = .ok (.getfield 10, 3) := by decide +kernel
theorem dX1_giveBack_4 : decode cX1_giveBack 4 = .ok (.aload_n 0, 1) := by decide +kernel
theorem dX1_giveBack_5 : decode cX1_giveBack 5 = .ok (.getfield 31, 3) := by decide +kernel
theorem dX1_giveBack_8 : decode cX1_giveBack 8 = .ok (.invokevirtual 34, 3) := by decide +kernel
theorem dX1_giveBack_11 : decode cX1_giveBack 11 = .ok (.i2l, 1) := by decide +kernel
theorem dX1_giveBack_12 : decode cX1_giveBack 12 = .ok (.lstore_n 2, 1) := by decide +kernel
theorem dX1_giveBack_13 : decode cX1_giveBack 13 = .ok (.aload_n 0, 1) := by decide +kernel
theorem dX1_giveBack_14 : decode cX1_giveBack 14 = .ok (.getfield 10, 3) := by decide +kernel
theorem dX1_giveBack_17 : decode cX1_giveBack 17 = .ok (.aload_n 0, 1) := by decide +kernel
theorem dX1_giveBack_18 : decode cX1_giveBack 18 = .ok (.getfield 31, 3) := by decide +kernel
theorem dX1_giveBack_21 : decode cX1_giveBack 21 = .ok (.iload_n 1, 1) := by decide +kernel
theorem dX1_giveBack_22 : decode cX1_giveBack 22 = .ok (.isub, 1) := by decide +kernel
theorem dX1_giveBack_23 : decode cX1_giveBack 23 = .ok (.invokevirtual 34, 3) := by decide +kernel
theorem dX1_giveBack_26 : decode cX1_giveBack 26 = .ok (.i2l, 1) := by decide +kernel
theorem dX1_giveBack_27 : decode cX1_giveBack 27 = .ok (.lstore 4, 2) := by decide +kernel
theorem dX1_giveBack_29 : decode cX1_giveBack 29 = .ok (.lload_n 2, 1) := by decide +kernel
theorem dX1_giveBack_30 : decode cX1_giveBack 30 = .ok (.lconst 0, 1) := by decide +kernel
theorem dX1_giveBack_31 : decode cX1_giveBack 31 = .ok (.lcmp, 1) := by decide +kernel
theorem dX1_giveBack_32 : decode cX1_giveBack 32 = .ok (.ifCond .le 24, 3) := by decide +kernel
theorem dX1_giveBack_35 : decode cX1_giveBack 35 = .ok (.aload_n 0, 1) := by decide +kernel
theorem dX1_giveBack_36 : decode cX1_giveBack 36 = .ok (.aload_n 0, 1) := by decide +kernel
theorem dX1_giveBack_37 : decode cX1_giveBack 37 = .ok (.getfield 38, 3) := by decide +kernel
theorem dX1_giveBack_40 : decode cX1_giveBack 40 = .ok (.i2l, 1) := by decide +kernel
theorem dX1_giveBack_41 : decode cX1_giveBack 41 = .ok (.lload 4, 2) := by decide +kernel
theorem dX1_giveBack_43 : decode cX1_giveBack 43 = .ok (.lmul, 1) := by decide +kernel
theorem dX1_giveBack_44 : decode cX1_giveBack 44 = .ok (.lload_n 2, 1) := by decide +kernel
theorem dX1_giveBack_45 : decode cX1_giveBack 45 = .ok (.ladd, 1) := by decide +kernel
theorem dX1_giveBack_46 : decode cX1_giveBack 46 = .ok (.lconst 1, 1) := by decide +kernel
theorem dX1_giveBack_47 : decode cX1_giveBack 47 = .ok (.lsub, 1) := by decide +kernel
theorem dX1_giveBack_48 : decode cX1_giveBack 48 = .ok (.lload_n 2, 1) := by decide +kernel
theorem dX1_giveBack_49 : decode cX1_giveBack 49 = .ok (.ldiv, 1) := by decide +kernel
theorem dX1_giveBack_50 : decode cX1_giveBack 50 = .ok (.l2i, 1) := by decide +kernel
theorem dX1_giveBack_51 : decode cX1_giveBack 51 = .ok (.iload_n 1, 1) := by decide +kernel
theorem dX1_giveBack_52 : decode cX1_giveBack 52 = .ok (.iadd, 1) := by decide +kernel
theorem dX1_giveBack_53 : decode cX1_giveBack 53 = .ok (.putfield 38, 3) := by decide +kernel
theorem dX1_giveBack_56 : decode cX1_giveBack 56 = .ok (.aload_n 0, 1) := by decide +kernel
theorem dX1_giveBack_57 : decode cX1_giveBack 57 = .ok (.dup, 1) := by decide +kernel
theorem dX1_giveBack_58 : decode cX1_giveBack 58 = .ok (.getfield 31, 3) := by decide +kernel
theorem dX1_giveBack_61 : decode cX1_giveBack 61 = .ok (.iload_n 1, 1) := by decide +kernel
theorem dX1_giveBack_62 : decode cX1_giveBack 62 = .ok (.isub, 1) := by decide +kernel
theorem dX1_giveBack_63 : decode cX1_giveBack 63 = .ok (.putfield 31, 3) := by decide +kernel
theorem dX1_giveBack_66 : decode cX1_giveBack 66 = .ok (.aload_n 0, 1) := by decide +kernel
theorem dX1_giveBack_67 : decode cX1_giveBack 67 = .ok (.dup, 1) := by decide +kernel
theorem dX1_giveBack_68 : decode cX1_giveBack 68 = .ok (.getfield 41, 3) := by decide +kernel
theorem dX1_giveBack_71 : decode cX1_giveBack 71 = .ok (.iload_n 1, 1) := by decide +kernel
theorem dX1_giveBack_72 : decode cX1_giveBack 72 = .ok (.iadd, 1) := by decide +kernel
theorem dX1_giveBack_73 : decode cX1_giveBack 73 = .ok (.putfield 41, 3) := by decide +kernel
theorem dX1_giveBack_76 : decode cX1_giveBack 76 = .ok (.return_, 1) := by decide +kernel
theorem dX1_pass_0 : decode cX1_pass 0 = .ok (.aload_n 0, 1) := by decide +kernel
theorem dX1_pass_1 : decode cX1_pass 1 = .ok (.getfield 16, 3) := by decide +kernel
theorem dX1_pass_4 : decode cX1_pass 4 = .ok (.ifCond .ne 13, 3) := by decide +kernel
theorem dX1_pass_7 : decode cX1_pass 7 = .ok (.aload_n 0, 1) := by decide +kernel
theorem dX1_pass_8 : decode cX1_pass 8 = .ok (.dup, 1) := by decide +kernel
theorem dX1_pass_9 : decode cX1_pass 9 = .ok (.getfield 44, 3) := by decide +kernel
theorem dX1_pass_12 : decode cX1_pass 12 = .ok (.iload_n 1, 1) := by decide +kernel
theorem dX1_pass_13 : decode cX1_pass 13 = .ok (.iadd, 1) := by decide +kernel
theorem dX1_pass_14 : decode cX1_pass 14 = .ok (.putfield 44, 3) := by decide +kernel
theorem dX1_pass_17 : decode cX1_pass 17 = .ok (.aload_n 0, 1) := by decide +kernel
theorem dX1_pass_18 : decode cX1_pass 18 = .ok (.getfield 16, 3) := by decide +kernel
theorem dX1_pass_21 : decode cX1_pass 21 = .ok (.iconst 1, 1) := by decide +kernel
theorem dX1_pass_22 : decode cX1_pass 22 = .ok (.if_icmp .eq 5, 3) := by decide +kernel
theorem dX1_pass_25 : decode cX1_pass 25 = .ok (.iconst 0, 1) := by decide +kernel
theorem dX1_pass_26 : decode cX1_pass 26 = .ok (.ireturn, 1) := by decide +kernel
theorem dX1_pass_27 : decode cX1_pass 27 = .ok (.aload_n 0, 1) := by decide +kernel
theorem dX1_pass_28 : decode cX1_pass 28 = .ok (.dup, 1) := by decide +kernel
theorem dX1_pass_29 : decode cX1_pass 29 = .ok (.getfield 47, 3) := by decide +kernel
theorem dX1_pass_32 : decode cX1_pass 32 = .ok (.iload_n 1, 1) := by decide +kernel
theorem dX1_pass_33 : decode cX1_pass 33 = .ok (.iadd, 1) := by decide +kernel
theorem dX1_pass_34 : decode cX1_pass 34 = .ok (.putfield 47, 3) := by decide +kernel
theorem dX1_pass_37 : decode cX1_pass 37 = .ok (.aload_n 0, 1) := by decide +kernel
theorem dX1_pass_38 : decode cX1_pass 38 = .ok (.getfield 38, 3) := by decide +kernel
theorem dX1_pass_41 : decode cX1_pass 41 = .ok (.iload_n 1, 1) := by decide +kernel
theorem dX1_pass_42 : decode cX1_pass 42 = .ok (.iload_n 2, 1) := by decide +kernel
theorem dX1_pass_43 : decode cX1_pass 43 = .ok (.imul, 1) := by decide +kernel
theorem dX1_pass_44 : decode cX1_pass 44 = .ok (.invokestatic 50, 3) := by decide +kernel
theorem dX1_pass_47 : decode cX1_pass 47 = .ok (.istore_n 3, 1) := by decide +kernel
theorem dX1_pass_48 : decode cX1_pass 48 = .ok (.aload_n 0, 1) := by decide +kernel
theorem dX1_pass_49 : decode cX1_pass 49 = .ok (.dup, 1) := by decide +kernel
theorem dX1_pass_50 : decode cX1_pass 50 = .ok (.getfield 38, 3) := by decide +kernel
theorem dX1_pass_53 : decode cX1_pass 53 = .ok (.iload_n 3, 1) := by decide +kernel
theorem dX1_pass_54 : decode cX1_pass 54 = .ok (.isub, 1) := by decide +kernel
theorem dX1_pass_55 : decode cX1_pass 55 = .ok (.putfield 38, 3) := by decide +kernel
theorem dX1_pass_58 : decode cX1_pass 58 = .ok (.iload_n 3, 1) := by decide +kernel
theorem dX1_pass_59 : decode cX1_pass 59 = .ok (.ireturn, 1) := by decide +kernel
theorem dX1_stepsLeft_0 : decode cX1_stepsLeft 0 = .ok (.iload_n 1, 1) := by decide +kernel
theorem dX1_stepsLeft_1 : decode cX1_stepsLeft 1 = .ok (.iconst 1, 1) := by decide +kernel
theorem dX1_stepsLeft_2 : decode cX1_stepsLeft 2 = .ok (.if_icmp .ge 7, 3) := by decide +kernel
theorem dX1_stepsLeft_5 : decode cX1_stepsLeft 5 = .ok (.iconst 1, 1) := by decide +kernel
theorem dX1_stepsLeft_6 : decode cX1_stepsLeft 6 = .ok (.goto 13, 3) := by decide +kernel
theorem dX1_stepsLeft_9 : decode cX1_stepsLeft 9 = .ok (.aload_n 0, 1) := by decide +kernel
theorem dX1_stepsLeft_10 : decode cX1_stepsLeft 10 = .ok (.getfield 38, 3) := by decide +kernel
theorem dX1_stepsLeft_13 : decode cX1_stepsLeft 13 = .ok (.iload_n 1, 1) := by decide +kernel
theorem dX1_stepsLeft_14 : decode cX1_stepsLeft 14 = .ok (.iadd, 1) := by decide +kernel
theorem dX1_stepsLeft_15 : decode cX1_stepsLeft 15 = .ok (.iconst 1, 1) := by decide +kernel
theorem dX1_stepsLeft_16 : decode cX1_stepsLeft 16 = .ok (.isub, 1) := by decide +kernel
theorem dX1_stepsLeft_17 : decode cX1_stepsLeft 17 = .ok (.iload_n 1, 1) := by decide +kernel
theorem dX1_stepsLeft_18 : decode cX1_stepsLeft 18 = .ok (.idiv, 1) := by decide +kernel
theorem dX1_stepsLeft_19 : decode cX1_stepsLeft 19 = .ok (.ireturn, 1) := by decide +kernel
theorem dX1_hasWorkedAll_0 : decode cX1_hasWorkedAll 0 = .ok (.aload_n 0, 1) := by decide +kernel
theorem dX1_hasWorkedAll_1 : decode cX1_hasWorkedAll 1 = .ok (.getfield 16, 3) := by decide +kernel
theorem dX1_hasWorkedAll_4 : decode cX1_hasWorkedAll 4 = .ok (.iconst 1, 1) := by decide +kernel
theorem dX1_hasWorkedAll_5 : decode cX1_hasWorkedAll 5 = .ok (.if_icmp .ne 14, 3) := by decide +kernel
theorem dX1_hasWorkedAll_8 : decode cX1_hasWorkedAll 8 = .ok (.aload_n 0, 1) := by decide +kernel
theorem dX1_hasWorkedAll_9 : decode cX1_hasWorkedAll 9 = .ok (.getfield 38, 3) := by decide +kernel
theorem dX1_hasWorkedAll_12 : decode cX1_hasWorkedAll 12 = .ok (.ifCond .ne 7, 3) := by decide +kernel
theorem dX1_hasWorkedAll_15 : decode cX1_hasWorkedAll 15 = .ok (.iconst 1, 1) := by decide +kernel
theorem dX1_hasWorkedAll_16 : decode cX1_hasWorkedAll 16 = .ok (.goto 4, 3) := by decide +kernel
theorem dX1_hasWorkedAll_19 : decode cX1_hasWorkedAll 19 = .ok (.iconst 0, 1) := by decide +kernel
theorem dX1_hasWorkedAll_20 : decode cX1_hasWorkedAll 20 = .ok (.ireturn, 1) := by decide +kernel
theorem dX1_surplus_0 : decode cX1_surplus 0 = .ok (.aload_n 0, 1) := by decide +kernel
theorem dX1_surplus_1 : decode cX1_surplus 1 = .ok (.getfield 16, 3) := by decide +kernel
theorem dX1_surplus_4 : decode cX1_surplus 4 = .ok (.iconst 1, 1) := by decide +kernel
theorem dX1_surplus_5 : decode cX1_surplus 5 = .ok (.if_icmp .ne 18, 3) := by decide +kernel
theorem dX1_surplus_8 : decode cX1_surplus 8 = .ok (.aload_n 0, 1) := by decide +kernel
theorem dX1_surplus_9 : decode cX1_surplus 9 = .ok (.getfield 31, 3) := by decide +kernel
theorem dX1_surplus_12 : decode cX1_surplus 12 = .ok (.aload_n 0, 1) := by decide +kernel
theorem dX1_surplus_13 : decode cX1_surplus 13 = .ok (.getfield 10, 3) := by decide +kernel
theorem dX1_surplus_16 : decode cX1_surplus 16 = .ok (.getfield 56, 3) := by decide +kernel
theorem dX1_surplus_19 : decode cX1_surplus 19 = .ok (.isub, 1) := by decide +kernel
theorem dX1_surplus_20 : decode cX1_surplus 20 = .ok (.goto 4, 3) := by decide +kernel
theorem dX1_surplus_23 : decode cX1_surplus 23 = .ok (.iconst 0, 1) := by decide +kernel
theorem dX1_surplus_24 : decode cX1_surplus 24 = .ok (.ireturn, 1) := by decide +kernel
set_option maxRecDepth 20000 in
theorem ggX1_spills_X3_spillsWith : GoodIn wsX1_spills wsX3_spillsWith := goodIn_r _ [8, 9, 10, 19, 20, 21, 22, 23] (by decide +kernel) (by decide +kernel)
set_option maxRecDepth 20000 in
theorem gX1_spills_X3_spillsWith : GoodIn wsX1_spills (wsV RX1 59 RX3 yX3_spillsWith wsX3_spillsWith) := goodIn_app (goodIn_of _ (by decide +kernel)) ggX1_spills_X3_spillsWith
theorem dX1_spills_0 : decode cX1_spills 0 = .ok (.aload_n 0, 1) := by decide +kernel
theorem dX1_spills_1 : decode cX1_spills 1 = .ok (.getfield 16, 3) := by decide +kernel
theorem dX1_spills_4 : decode cX1_spills 4 = .ok (.iconst 1, 1) := by decide +kernel
theorem dX1_spills_5 : decode cX1_spills 5 = .ok (.if_icmp .ne 21, 3) := by decide +kernel
theorem dX1_spills_8 : decode cX1_spills 8 = .ok (.aload_n 0, 1) := by decide +kernel
theorem dX1_spills_9 : decode cX1_spills 9 = .ok (.getfield 10, 3) := by decide +kernel
theorem dX1_spills_12 : decode cX1_spills 12 = .ok (.aload_n 0, 1) := by decide +kernel
theorem dX1_spills_13 : decode cX1_spills 13 = .ok (.getfield 31, 3) := by decide +kernel
theorem dX1_spills_16 : decode cX1_spills 16 = .ok (.invokevirtual 59, 3) := by decide +kernel
theorem dX1_spills_19 : decode cX1_spills 19 = .ok (.ifCond .eq 7, 3) := by decide +kernel
theorem dX1_spills_22 : decode cX1_spills 22 = .ok (.iconst 1, 1) := by decide +kernel
theorem dX1_spills_23 : decode cX1_spills 23 = .ok (.goto 4, 3) := by decide +kernel
theorem dX1_spills_26 : decode cX1_spills 26 = .ok (.iconst 0, 1) := by decide +kernel
theorem dX1_spills_27 : decode cX1_spills 27 = .ok (.ireturn, 1) := by decide +kernel
theorem dX1_isIn_0 : decode cX1_isIn 0 = .ok (.aload_n 0, 1) := by decide +kernel
theorem dX1_isIn_1 : decode cX1_isIn 1 = .ok (.getfield 16, 3) := by decide +kernel
theorem dX1_isIn_4 : decode cX1_isIn 4 = .ok (.iload_n 1, 1) := by decide +kernel
theorem dX1_isIn_5 : decode cX1_isIn 5 = .ok (.if_icmp .ne 7, 3) := by decide +kernel
theorem dX1_isIn_8 : decode cX1_isIn 8 = .ok (.iconst 1, 1) := by decide +kernel
theorem dX1_isIn_9 : decode cX1_isIn 9 = .ok (.goto 4, 3) := by decide +kernel
theorem dX1_isIn_12 : decode cX1_isIn 12 = .ok (.iconst 0, 1) := by decide +kernel
theorem dX1_isIn_13 : decode cX1_isIn 13 = .ok (.ireturn, 1) := by decide +kernel
theorem dX1_number_0 : decode cX1_number 0 = .ok (.aload_n 0, 1) := by decide +kernel
theorem dX1_number_1 : decode cX1_number 1 = .ok (.getfield 20, 3) := by decide +kernel
theorem dX1_number_4 : decode cX1_number 4 = .ok (.ireturn, 1) := by decide +kernel
theorem dX1_way_0 : decode cX1_way 0 = .ok (.aload_n 0, 1) := by decide +kernel
theorem dX1_way_1 : decode cX1_way 1 = .ok (.getfield 10, 3) := by decide +kernel
theorem dX1_way_4 : decode cX1_way 4 = .ok (.getfield 63, 3) := by decide +kernel
theorem dX1_way_7 : decode cX1_way 7 = .ok (.ireturn, 1) := by decide +kernel
theorem dX1_need_0 : decode cX1_need 0 = .ok (.aload_n 0, 1) := by decide +kernel
theorem dX1_need_1 : decode cX1_need 1 = .ok (.getfield 10, 3) := by decide +kernel
theorem dX1_need_4 : decode cX1_need 4 = .ok (.getfield 56, 3) := by decide +kernel
theorem dX1_need_7 : decode cX1_need 7 = .ok (.ireturn, 1) := by decide +kernel
theorem dX1_want_0 : decode cX1_want 0 = .ok (.aload_n 0, 1) := by decide +kernel
theorem dX1_want_1 : decode cX1_want 1 = .ok (.getfield 10, 3) := by decide +kernel
theorem dX1_want_4 : decode cX1_want 4 = .ok (.getfield 66, 3) := by decide +kernel
theorem dX1_want_7 : decode cX1_want 7 = .ok (.ireturn, 1) := by decide +kernel
theorem dX1_pages_0 : decode cX1_pages 0 = .ok (.aload_n 0, 1) := by decide +kernel
theorem dX1_pages_1 : decode cX1_pages 1 = .ok (.getfield 31, 3) := by decide +kernel
theorem dX1_pages_4 : decode cX1_pages 4 = .ok (.ireturn, 1) := by decide +kernel
theorem dX1_canTell_0 : decode cX1_canTell 0 = .ok (.iload_n 0, 1) := by decide +kernel
theorem dX1_canTell_1 : decode cX1_canTell 1 = .ok (.ifCond .lt 13, 3) := by decide +kernel
theorem dX1_canTell_4 : decode cX1_canTell 4 = .ok (.iload_n 0, 1) := by decide +kernel
theorem dX1_canTell_5 : decode cX1_canTell 5 = .ok (.bipush 11, 2) := by decide +kernel
theorem dX1_canTell_7 : decode cX1_canTell 7 = .ok (.if_icmp .gt 7, 3) := by decide +kernel
theorem dX1_canTell_10 : decode cX1_canTell 10 = .ok (.iconst 1, 1) := by decide +kernel
theorem dX1_canTell_11 : decode cX1_canTell 11 = .ok (.goto 4, 3) := by decide +kernel
theorem dX1_canTell_14 : decode cX1_canTell 14 = .ok (.iconst 0, 1) := by decide +kernel
theorem dX1_canTell_15 : decode cX1_canTell 15 = .ok (.ireturn, 1) := by decide +kernel
set_option maxRecDepth 20000 in
theorem ggX1_tell_X1_spills : GoodIn wsX1_tell wsX1_spills := goodIn_r _ [12, 2, 1, 3, 13, 14, 15, 16, 17, 18, 19, 20, 21, 22, 23, 24, 25, 26, 27, 28, 29, 30, 31, 32] (by decide +kernel) (by decide +kernel)
set_option maxRecDepth 20000 in
theorem gX1_tell_X1_spills : GoodIn wsX1_tell (wsV RX1 75 RX1 yX1_spills wsX1_spills) := goodIn_app (goodIn_of _ (by decide +kernel)) ggX1_tell_X1_spills
theorem dX1_tell_0 : decode cX1_tell 0 = .ok (.iload_n 1, 1) := by decide +kernel
theorem dX1_tell_1 : decode cX1_tell 1 = .ok (.tableswitch 129 0 10 #[59, 67, 75, 83, 88, 96, 104, 109, 114, 119, 124], 59) := by decide +kernel
theorem dX1_tell_60 : decode cX1_tell 60 = .ok (.aload_n 0, 1) := by decide +kernel
theorem dX1_tell_61 : decode cX1_tell 61 = .ok (.getfield 10, 3) := by decide +kernel
theorem dX1_tell_64 : decode cX1_tell 64 = .ok (.getfield 63, 3) := by decide +kernel
theorem dX1_tell_67 : decode cX1_tell 67 = .ok (.ireturn, 1) := by decide +kernel
theorem dX1_tell_68 : decode cX1_tell 68 = .ok (.aload_n 0, 1) := by decide +kernel
theorem dX1_tell_69 : decode cX1_tell 69 = .ok (.getfield 10, 3) := by decide +kernel
theorem dX1_tell_72 : decode cX1_tell 72 = .ok (.getfield 69, 3) := by decide +kernel
theorem dX1_tell_75 : decode cX1_tell 75 = .ok (.ireturn, 1) := by decide +kernel
theorem dX1_tell_76 : decode cX1_tell 76 = .ok (.aload_n 0, 1) := by decide +kernel
theorem dX1_tell_77 : decode cX1_tell 77 = .ok (.getfield 10, 3) := by decide +kernel
theorem dX1_tell_80 : decode cX1_tell 80 = .ok (.getfield 72, 3) := by decide +kernel
theorem dX1_tell_83 : decode cX1_tell 83 = .ok (.ireturn, 1) := by decide +kernel
theorem dX1_tell_84 : decode cX1_tell 84 = .ok (.aload_n 0, 1) := by decide +kernel
theorem dX1_tell_85 : decode cX1_tell 85 = .ok (.getfield 16, 3) := by decide +kernel
theorem dX1_tell_88 : decode cX1_tell 88 = .ok (.ireturn, 1) := by decide +kernel
theorem dX1_tell_89 : decode cX1_tell 89 = .ok (.aload_n 0, 1) := by decide +kernel
theorem dX1_tell_90 : decode cX1_tell 90 = .ok (.getfield 10, 3) := by decide +kernel
theorem dX1_tell_93 : decode cX1_tell 93 = .ok (.getfield 56, 3) := by decide +kernel
theorem dX1_tell_96 : decode cX1_tell 96 = .ok (.ireturn, 1) := by decide +kernel
theorem dX1_tell_97 : decode cX1_tell 97 = .ok (.aload_n 0, 1) := by decide +kernel
theorem dX1_tell_98 : decode cX1_tell 98 = .ok (.getfield 10, 3) := by decide +kernel
theorem dX1_tell_101 : decode cX1_tell 101 = .ok (.getfield 66, 3) := by decide +kernel
theorem dX1_tell_104 : decode cX1_tell 104 = .ok (.ireturn, 1) := by decide +kernel
theorem dX1_tell_105 : decode cX1_tell 105 = .ok (.aload_n 0, 1) := by decide +kernel
theorem dX1_tell_106 : decode cX1_tell 106 = .ok (.getfield 31, 3) := by decide +kernel
theorem dX1_tell_109 : decode cX1_tell 109 = .ok (.ireturn, 1) := by decide +kernel
theorem dX1_tell_110 : decode cX1_tell 110 = .ok (.aload_n 0, 1) := by decide +kernel
theorem dX1_tell_111 : decode cX1_tell 111 = .ok (.getfield 38, 3) := by decide +kernel
theorem dX1_tell_114 : decode cX1_tell 114 = .ok (.ireturn, 1) := by decide +kernel
theorem dX1_tell_115 : decode cX1_tell 115 = .ok (.aload_n 0, 1) := by decide +kernel
theorem dX1_tell_116 : decode cX1_tell 116 = .ok (.getfield 44, 3) := by decide +kernel
theorem dX1_tell_119 : decode cX1_tell 119 = .ok (.ireturn, 1) := by decide +kernel
theorem dX1_tell_120 : decode cX1_tell 120 = .ok (.aload_n 0, 1) := by decide +kernel
theorem dX1_tell_121 : decode cX1_tell 121 = .ok (.getfield 47, 3) := by decide +kernel
theorem dX1_tell_124 : decode cX1_tell 124 = .ok (.ireturn, 1) := by decide +kernel
theorem dX1_tell_125 : decode cX1_tell 125 = .ok (.aload_n 0, 1) := by decide +kernel
theorem dX1_tell_126 : decode cX1_tell 126 = .ok (.getfield 41, 3) := by decide +kernel
theorem dX1_tell_129 : decode cX1_tell 129 = .ok (.ireturn, 1) := by decide +kernel
theorem dX1_tell_130 : decode cX1_tell 130 = .ok (.aload_n 0, 1) := by decide +kernel
theorem dX1_tell_131 : decode cX1_tell 131 = .ok (.invokevirtual 75, 3) := by decide +kernel
theorem dX1_tell_134 : decode cX1_tell 134 = .ok (.ifCond .eq 7, 3) := by decide +kernel
theorem dX1_tell_137 : decode cX1_tell 137 = .ok (.iconst 1, 1) := by decide +kernel
theorem dX1_tell_138 : decode cX1_tell 138 = .ok (.goto 4, 3) := by decide +kernel
theorem dX1_tell_141 : decode cX1_tell 141 = .ok (.iconst 0, 1) := by decide +kernel
theorem dX1_tell_142 : decode cX1_tell 142 = .ok (.ireturn, 1) := by decide +kernel
set_option maxRecDepth 20000 in
theorem ggX1_copyFrom_X3_copyFrom : GoodIn wsX1_copyFrom wsX3_copyFrom := goodIn_r _ [12, 13, 14, 15, 16, 17, 26, 27, 28, 29, 30] (by decide +kernel) (by decide +kernel)
set_option maxRecDepth 20000 in
theorem gX1_copyFrom_X3_copyFrom : GoodIn wsX1_copyFrom (wsV RX1 79 RX3 yX3_copyFrom wsX3_copyFrom) := goodIn_app (goodIn_of _ (by decide +kernel)) ggX1_copyFrom_X3_copyFrom
theorem dX1_copyFrom_0 : decode cX1_copyFrom 0 = .ok (.aload_n 0, 1) := by decide +kernel
theorem dX1_copyFrom_1 : decode cX1_copyFrom 1 = .ok (.getfield 10, 3) := by decide +kernel
theorem dX1_copyFrom_4 : decode cX1_copyFrom 4 = .ok (.aload_n 1, 1) := by decide +kernel
theorem dX1_copyFrom_5 : decode cX1_copyFrom 5 = .ok (.getfield 10, 3) := by decide +kernel
theorem dX1_copyFrom_8 : decode cX1_copyFrom 8 = .ok (.invokevirtual 79, 3) := by decide +kernel
theorem dX1_copyFrom_11 : decode cX1_copyFrom 11 = .ok (.aload_n 0, 1) := by decide +kernel
theorem dX1_copyFrom_12 : decode cX1_copyFrom 12 = .ok (.aload_n 1, 1) := by decide +kernel
theorem dX1_copyFrom_13 : decode cX1_copyFrom 13 = .ok (.getfield 16, 3) := by decide +kernel
theorem dX1_copyFrom_16 : decode cX1_copyFrom 16 = .ok (.putfield 16, 3) := by decide +kernel
theorem dX1_copyFrom_19 : decode cX1_copyFrom 19 = .ok (.aload_n 0, 1) := by decide +kernel
theorem dX1_copyFrom_20 : decode cX1_copyFrom 20 = .ok (.aload_n 1, 1) := by decide +kernel
theorem dX1_copyFrom_21 : decode cX1_copyFrom 21 = .ok (.getfield 31, 3) := by decide +kernel
theorem dX1_copyFrom_24 : decode cX1_copyFrom 24 = .ok (.putfield 31, 3) := by decide +kernel
theorem dX1_copyFrom_27 : decode cX1_copyFrom 27 = .ok (.aload_n 0, 1) := by decide +kernel
theorem dX1_copyFrom_28 : decode cX1_copyFrom 28 = .ok (.aload_n 1, 1) := by decide +kernel
theorem dX1_copyFrom_29 : decode cX1_copyFrom 29 = .ok (.getfield 38, 3) := by decide +kernel
theorem dX1_copyFrom_32 : decode cX1_copyFrom 32 = .ok (.putfield 38, 3) := by decide +kernel
theorem dX1_copyFrom_35 : decode cX1_copyFrom 35 = .ok (.aload_n 0, 1) := by decide +kernel
theorem dX1_copyFrom_36 : decode cX1_copyFrom 36 = .ok (.aload_n 1, 1) := by decide +kernel
theorem dX1_copyFrom_37 : decode cX1_copyFrom 37 = .ok (.getfield 44, 3) := by decide +kernel
theorem dX1_copyFrom_40 : decode cX1_copyFrom 40 = .ok (.putfield 44, 3) := by decide +kernel
theorem dX1_copyFrom_43 : decode cX1_copyFrom 43 = .ok (.aload_n 0, 1) := by decide +kernel
theorem dX1_copyFrom_44 : decode cX1_copyFrom 44 = .ok (.aload_n 1, 1) := by decide +kernel
theorem dX1_copyFrom_45 : decode cX1_copyFrom 45 = .ok (.getfield 47, 3) := by decide +kernel
theorem dX1_copyFrom_48 : decode cX1_copyFrom 48 = .ok (.putfield 47, 3) := by decide +kernel
theorem dX1_copyFrom_51 : decode cX1_copyFrom 51 = .ok (.aload_n 0, 1) := by decide +kernel
theorem dX1_copyFrom_52 : decode cX1_copyFrom 52 = .ok (.aload_n 1, 1) := by decide +kernel
theorem dX1_copyFrom_53 : decode cX1_copyFrom 53 = .ok (.getfield 41, 3) := by decide +kernel
theorem dX1_copyFrom_56 : decode cX1_copyFrom 56 = .ok (.putfield 41, 3) := by decide +kernel
theorem dX1_copyFrom_59 : decode cX1_copyFrom 59 = .ok (.return_, 1) := by decide +kernel
