theorem dX6_init_0 : decode cX6_init 0 = .ok (.aload_n 0, 1) := by decide +kernel
theorem dX6_init_1 : decode cX6_init 1 = .ok (.invokespecial 1, 3) := by decide +kernel
theorem dX6_init_4 : decode cX6_init 4 = .ok (.aload_n 0, 1) := by decide +kernel
theorem dX6_init_5 : decode cX6_init 5 = .ok (.sipush 153, 3) := by decide +kernel
theorem dX6_init_8 : decode cX6_init 8 = .ok (.newarray .int, 2) := by decide +kernel
theorem dX6_init_10 : decode cX6_init 10 = .ok (.putfield 7, 3) := by decide +kernel
theorem dX6_init_13 : decode cX6_init 13 = .ok (.aload_n 0, 1) := by decide +kernel
theorem dX6_init_14 : decode cX6_init 14 = .ok (.sipush 153, 3) := by decide +kernel
theorem dX6_init_17 : decode cX6_init 17 = .ok (.newarray .int, 2) := by decide +kernel
theorem dX6_init_19 : decode cX6_init 19 = .ok (.putfield 13, 3) := by decide +kernel
theorem dX6_init_22 : decode cX6_init 22 = .ok (.aload_n 0, 1) := by decide +kernel
theorem dX6_init_23 : decode cX6_init 23 = .ok (.sipush 153, 3) := by decide +kernel
theorem dX6_init_26 : decode cX6_init 26 = .ok (.newarray .int, 2) := by decide +kernel
theorem dX6_init_28 : decode cX6_init 28 = .ok (.putfield 16, 3) := by decide +kernel
theorem dX6_init_31 : decode cX6_init 31 = .ok (.aload_n 0, 1) := by decide +kernel
theorem dX6_init_32 : decode cX6_init 32 = .ok (.sipush 612, 3) := by decide +kernel
theorem dX6_init_35 : decode cX6_init 35 = .ok (.newarray .int, 2) := by decide +kernel
theorem dX6_init_37 : decode cX6_init 37 = .ok (.putfield 19, 3) := by decide +kernel
theorem dX6_init_40 : decode cX6_init 40 = .ok (.aload_n 0, 1) := by decide +kernel
theorem dX6_init_41 : decode cX6_init 41 = .ok (.sipush 153, 3) := by decide +kernel
theorem dX6_init_44 : decode cX6_init 44 = .ok (.newarray .int, 2) := by decide +kernel
theorem dX6_init_46 : decode cX6_init 46 = .ok (.putfield 22, 3) := by decide +kernel
theorem dX6_init_49 : decode cX6_init 49 = .ok (.aload_n 0, 1) := by decide +kernel
theorem dX6_init_50 : decode cX6_init 50 = .ok (.bipush 60, 2) := by decide +kernel
theorem dX6_init_52 : decode cX6_init 52 = .ok (.newarray .int, 2) := by decide +kernel
theorem dX6_init_54 : decode cX6_init 54 = .ok (.putfield 25, 3) := by decide +kernel
theorem dX6_init_57 : decode cX6_init 57 = .ok (.aload_n 0, 1) := by decide +kernel
theorem dX6_init_58 : decode cX6_init 58 = .ok (.bipush 60, 2) := by decide +kernel
theorem dX6_init_60 : decode cX6_init 60 = .ok (.newarray .int, 2) := by decide +kernel
theorem dX6_init_62 : decode cX6_init 62 = .ok (.putfield 28, 3) := by decide +kernel
theorem dX6_init_65 : decode cX6_init 65 = .ok (.aload_n 0, 1) := by decide +kernel
theorem dX6_init_66 : decode cX6_init 66 = .ok (.getfield 7, 3) := by decide +kernel
theorem dX6_init_69 : decode cX6_init 69 = .ok (.iconst 0, 1) := by decide +kernel
theorem dX6_init_70 : decode cX6_init 70 = .ok (.bipush 100, 2) := by decide +kernel
theorem dX6_init_72 : decode cX6_init 72 = .ok (.iastore, 1) := by decide +kernel
theorem dX6_init_73 : decode cX6_init 73 = .ok (.aload_n 0, 1) := by decide +kernel
theorem dX6_init_74 : decode cX6_init 74 = .ok (.getfield 7, 3) := by decide +kernel
theorem dX6_init_77 : decode cX6_init 77 = .ok (.iconst 3, 1) := by decide +kernel
theorem dX6_init_78 : decode cX6_init 78 = .ok (.bipush 10, 2) := by decide +kernel
theorem dX6_init_80 : decode cX6_init 80 = .ok (.iastore, 1) := by decide +kernel
theorem dX6_init_81 : decode cX6_init 81 = .ok (.return_, 1) := by decide +kernel
theorem dX6_in_0 : decode cX6_in 0 = .ok (.lload_n 0, 1) := by decide +kernel
theorem dX6_in_1 : decode cX6_in 1 = .ok (.lload_n 2, 1) := by decide +kernel
theorem dX6_in_2 : decode cX6_in 2 = .ok (.lcmp, 1) := by decide +kernel
theorem dX6_in_3 : decode cX6_in 3 = .ok (.ifCond .lt 14, 3) := by decide +kernel
theorem dX6_in_6 : decode cX6_in 6 = .ok (.lload_n 0, 1) := by decide +kernel
theorem dX6_in_7 : decode cX6_in 7 = .ok (.lload 4, 2) := by decide +kernel
theorem dX6_in_9 : decode cX6_in 9 = .ok (.lcmp, 1) := by decide +kernel
theorem dX6_in_10 : decode cX6_in 10 = .ok (.ifCond .gt 7, 3) := by decide +kernel
theorem dX6_in_13 : decode cX6_in 13 = .ok (.iconst 1, 1) := by decide +kernel
theorem dX6_in_14 : decode cX6_in 14 = .ok (.goto 4, 3) := by decide +kernel
theorem dX6_in_17 : decode cX6_in 17 = .ok (.iconst 0, 1) := by decide +kernel
theorem dX6_in_18 : decode cX6_in 18 = .ok (.ireturn, 1) := by decide +kernel
theorem dX6_copy_0 : decode cX6_copy 0 = .ok (.iconst 0, 1) := by decide +kernel
theorem dX6_copy_1 : decode cX6_copy 1 = .ok (.istore_n 2, 1) := by decide +kernel
theorem dX6_copy_2 : decode cX6_copy 2 = .ok (.iload_n 2, 1) := by decide +kernel
theorem dX6_copy_3 : decode cX6_copy 3 = .ok (.sipush 153, 3) := by decide +kernel
theorem dX6_copy_6 : decode cX6_copy 6 = .ok (.if_icmp .ge 15, 3) := by decide +kernel
theorem dX6_copy_9 : decode cX6_copy 9 = .ok (.aload_n 1, 1) := by decide +kernel
theorem dX6_copy_10 : decode cX6_copy 10 = .ok (.iload_n 2, 1) := by decide +kernel
theorem dX6_copy_11 : decode cX6_copy 11 = .ok (.aload_n 0, 1) := by decide +kernel
theorem dX6_copy_12 : decode cX6_copy 12 = .ok (.iload_n 2, 1) := by decide +kernel
theorem dX6_copy_13 : decode cX6_copy 13 = .ok (.iaload, 1) := by decide +kernel
theorem dX6_copy_14 : decode cX6_copy 14 = .ok (.iastore, 1) := by decide +kernel
theorem dX6_copy_15 : decode cX6_copy 15 = .ok (.iinc 2 1, 3) := by decide +kernel
theorem dX6_copy_18 : decode cX6_copy 18 = .ok (.goto (-16), 3) := by decide +kernel
theorem dX6_copy_21 : decode cX6_copy 21 = .ok (.return_, 1) := by decide +kernel
set_option maxRecDepth 20000 in
theorem ggX6_remember_X6_copy : GoodIn wsX6_remember wsX6_copy := goodIn_r _ [6] (by decide +kernel) (by decide +kernel)
set_option maxRecDepth 20000 in
theorem gX6_remember_X6_copy : GoodIn wsX6_remember (va_wsS RX6 31 yX6_copy wsX6_copy) := goodIn_app (goodIn_of _ (by decide +kernel)) ggX6_remember_X6_copy
theorem dX6_remember_0 : decode cX6_remember 0 = .ok (.aload_n 0, 1) := by decide +kernel
theorem dX6_remember_1 : decode cX6_remember 1 = .ok (.getfield 7, 3) := by decide +kernel
theorem dX6_remember_4 : decode cX6_remember 4 = .ok (.aload_n 0, 1) := by decide +kernel
theorem dX6_remember_5 : decode cX6_remember 5 = .ok (.getfield 13, 3) := by decide +kernel
theorem dX6_remember_8 : decode cX6_remember 8 = .ok (.invokestatic 31, 3) := by decide +kernel
theorem dX6_remember_11 : decode cX6_remember 11 = .ok (.return_, 1) := by decide +kernel
theorem dX6_acted_0 : decode cX6_acted 0 = .ok (.aload_n 0, 1) := by decide +kernel
theorem dX6_acted_1 : decode cX6_acted 1 = .ok (.getfield 35, 3) := by decide +kernel
theorem dX6_acted_4 : decode cX6_acted 4 = .ok (.iconst 4, 1) := by decide +kernel
theorem dX6_acted_5 : decode cX6_acted 5 = .ok (.if_icmp .ne 44, 3) := by decide +kernel
theorem dX6_acted_8 : decode cX6_acted 8 = .ok (.iconst 0, 1) := by decide +kernel
theorem dX6_acted_9 : decode cX6_acted 9 = .ok (.istore_n 2, 1) := by decide +kernel
theorem dX6_acted_10 : decode cX6_acted 10 = .ok (.iload_n 2, 1) := by decide +kernel
theorem dX6_acted_11 : decode cX6_acted 11 = .ok (.sipush 459, 3) := by decide +kernel
theorem dX6_acted_14 : decode cX6_acted 14 = .ok (.if_icmp .ge 25, 3) := by decide +kernel
theorem dX6_acted_17 : decode cX6_acted 17 = .ok (.aload_n 0, 1) := by decide +kernel
theorem dX6_acted_18 : decode cX6_acted 18 = .ok (.getfield 19, 3) := by decide +kernel
theorem dX6_acted_21 : decode cX6_acted 21 = .ok (.iload_n 2, 1) := by decide +kernel
theorem dX6_acted_22 : decode cX6_acted 22 = .ok (.aload_n 0, 1) := by decide +kernel
theorem dX6_acted_23 : decode cX6_acted 23 = .ok (.getfield 19, 3) := by decide +kernel
theorem dX6_acted_26 : decode cX6_acted 26 = .ok (.iload_n 2, 1) := by decide +kernel
theorem dX6_acted_27 : decode cX6_acted 27 = .ok (.sipush 153, 3) := by decide +kernel
theorem dX6_acted_30 : decode cX6_acted 30 = .ok (.iadd, 1) := by decide +kernel
theorem dX6_acted_31 : decode cX6_acted 31 = .ok (.iaload, 1) := by decide +kernel
theorem dX6_acted_32 : decode cX6_acted 32 = .ok (.iastore, 1) := by decide +kernel
theorem dX6_acted_33 : decode cX6_acted 33 = .ok (.iinc 2 1, 3) := by decide +kernel
theorem dX6_acted_36 : decode cX6_acted 36 = .ok (.goto (-26), 3) := by decide +kernel
theorem dX6_acted_39 : decode cX6_acted 39 = .ok (.aload_n 0, 1) := by decide +kernel
theorem dX6_acted_40 : decode cX6_acted 40 = .ok (.dup, 1) := by decide +kernel
theorem dX6_acted_41 : decode cX6_acted 41 = .ok (.getfield 35, 3) := by decide +kernel
theorem dX6_acted_44 : decode cX6_acted 44 = .ok (.iconst 1, 1) := by decide +kernel
theorem dX6_acted_45 : decode cX6_acted 45 = .ok (.isub, 1) := by decide +kernel
theorem dX6_acted_46 : decode cX6_acted 46 = .ok (.putfield 35, 3) := by decide +kernel
theorem dX6_acted_49 : decode cX6_acted 49 = .ok (.iconst 0, 1) := by decide +kernel
theorem dX6_acted_50 : decode cX6_acted 50 = .ok (.istore_n 2, 1) := by decide +kernel
theorem dX6_acted_51 : decode cX6_acted 51 = .ok (.iload_n 2, 1) := by decide +kernel
theorem dX6_acted_52 : decode cX6_acted 52 = .ok (.sipush 153, 3) := by decide +kernel
theorem dX6_acted_55 : decode cX6_acted 55 = .ok (.if_icmp .ge 30, 3) := by decide +kernel
theorem dX6_acted_58 : decode cX6_acted 58 = .ok (.aload_n 0, 1) := by decide +kernel
theorem dX6_acted_59 : decode cX6_acted 59 = .ok (.getfield 19, 3) := by decide +kernel
theorem dX6_acted_62 : decode cX6_acted 62 = .ok (.sipush 153, 3) := by decide +kernel
theorem dX6_acted_65 : decode cX6_acted 65 = .ok (.aload_n 0, 1) := by decide +kernel
theorem dX6_acted_66 : decode cX6_acted 66 = .ok (.getfield 35, 3) := by decide +kernel
theorem dX6_acted_69 : decode cX6_acted 69 = .ok (.imul, 1) := by decide +kernel
theorem dX6_acted_70 : decode cX6_acted 70 = .ok (.iload_n 2, 1) := by decide +kernel
theorem dX6_acted_71 : decode cX6_acted 71 = .ok (.iadd, 1) := by decide +kernel
theorem dX6_acted_72 : decode cX6_acted 72 = .ok (.aload_n 0, 1) := by decide +kernel
theorem dX6_acted_73 : decode cX6_acted 73 = .ok (.getfield 13, 3) := by decide +kernel
theorem dX6_acted_76 : decode cX6_acted 76 = .ok (.iload_n 2, 1) := by decide +kernel
theorem dX6_acted_77 : decode cX6_acted 77 = .ok (.iaload, 1) := by decide +kernel
theorem dX6_acted_78 : decode cX6_acted 78 = .ok (.iastore, 1) := by decide +kernel
theorem dX6_acted_79 : decode cX6_acted 79 = .ok (.iinc 2 1, 3) := by decide +kernel
theorem dX6_acted_82 : decode cX6_acted 82 = .ok (.goto (-31), 3) := by decide +kernel
theorem dX6_acted_85 : decode cX6_acted 85 = .ok (.aload_n 0, 1) := by decide +kernel
theorem dX6_acted_86 : decode cX6_acted 86 = .ok (.dup, 1) := by decide +kernel
theorem dX6_acted_87 : decode cX6_acted 87 = .ok (.getfield 35, 3) := by decide +kernel
theorem dX6_acted_90 : decode cX6_acted 90 = .ok (.iconst 1, 1) := by decide +kernel
theorem dX6_acted_91 : decode cX6_acted 91 = .ok (.iadd, 1) := by decide +kernel
theorem dX6_acted_92 : decode cX6_acted 92 = .ok (.putfield 35, 3) := by decide +kernel
theorem dX6_acted_95 : decode cX6_acted 95 = .ok (.iload_n 1, 1) := by decide +kernel
theorem dX6_acted_96 : decode cX6_acted 96 = .ok (.ireturn, 1) := by decide +kernel
theorem dX6_root_0 : decode cX6_root 0 = .ok (.iconst 0, 1) := by decide +kernel
theorem dX6_root_1 : decode cX6_root 1 = .ok (.istore_n 1, 1) := by decide +kernel
theorem dX6_root_2 : decode cX6_root 2 = .ok (.iload_n 1, 1) := by decide +kernel
theorem dX6_root_3 : decode cX6_root 3 = .ok (.iconst 1, 1) := by decide +kernel
theorem dX6_root_4 : decode cX6_root 4 = .ok (.iadd, 1) := by decide +kernel
theorem dX6_root_5 : decode cX6_root 5 = .ok (.iload_n 1, 1) := by decide +kernel
theorem dX6_root_6 : decode cX6_root 6 = .ok (.iconst 1, 1) := by decide +kernel
theorem dX6_root_7 : decode cX6_root 7 = .ok (.iadd, 1) := by decide +kernel
theorem dX6_root_8 : decode cX6_root 8 = .ok (.imul, 1) := by decide +kernel
theorem dX6_root_9 : decode cX6_root 9 = .ok (.iload_n 0, 1) := by decide +kernel
theorem dX6_root_10 : decode cX6_root 10 = .ok (.if_icmp .gt 9, 3) := by decide +kernel
theorem dX6_root_13 : decode cX6_root 13 = .ok (.iinc 1 1, 3) := by decide +kernel
theorem dX6_root_16 : decode cX6_root 16 = .ok (.goto (-14), 3) := by decide +kernel
theorem dX6_root_19 : decode cX6_root 19 = .ok (.iload_n 1, 1) := by decide +kernel
theorem dX6_root_20 : decode cX6_root 20 = .ok (.ireturn, 1) := by decide +kernel
theorem dX6_over_0 : decode cX6_over 0 = .ok (.iload_n 0, 1) := by decide +kernel
theorem dX6_over_1 : decode cX6_over 1 = .ok (.iload_n 1, 1) := by decide +kernel
theorem dX6_over_2 : decode cX6_over 2 = .ok (.iadd, 1) := by decide +kernel
theorem dX6_over_3 : decode cX6_over 3 = .ok (.iconst 1, 1) := by decide +kernel
theorem dX6_over_4 : decode cX6_over 4 = .ok (.isub, 1) := by decide +kernel
theorem dX6_over_5 : decode cX6_over 5 = .ok (.iload_n 1, 1) := by decide +kernel
theorem dX6_over_6 : decode cX6_over 6 = .ok (.idiv, 1) := by decide +kernel
theorem dX6_over_7 : decode cX6_over 7 = .ok (.ireturn, 1) := by decide +kernel
set_option maxRecDepth 20000 in
theorem ggX6_needsOf_X6_root : GoodIn wsX6_needsOf wsX6_root := goodIn_r _ [4] (by decide +kernel) (by decide +kernel)
set_option maxRecDepth 20000 in
theorem gX6_needsOf_X6_root : GoodIn wsX6_needsOf (va_wsS RX6 39 yX6_root wsX6_root) := goodIn_app (goodIn_of _ (by decide +kernel)) ggX6_needsOf_X6_root
theorem dX6_needsOf_0 : decode cX6_needsOf 0 = .ok (.iload_n 0, 1) := by decide +kernel
theorem dX6_needsOf_1 : decode cX6_needsOf 1 = .ok (.ifCond .ne 7, 3) := by decide +kernel
theorem dX6_needsOf_4 : decode cX6_needsOf 4 = .ok (.iconst 3, 1) := by decide +kernel
theorem dX6_needsOf_5 : decode cX6_needsOf 5 = .ok (.goto 25, 3) := by decide +kernel
theorem dX6_needsOf_8 : decode cX6_needsOf 8 = .ok (.iload_n 0, 1) := by decide +kernel
theorem dX6_needsOf_9 : decode cX6_needsOf 9 = .ok (.iconst 1, 1) := by decide +kernel
theorem dX6_needsOf_10 : decode cX6_needsOf 10 = .ok (.if_icmp .ne 12, 3) := by decide +kernel
theorem dX6_needsOf_13 : decode cX6_needsOf 13 = .ok (.iload_n 2, 1) := by decide +kernel
theorem dX6_needsOf_14 : decode cX6_needsOf 14 = .ok (.invokestatic 39, 3) := by decide +kernel
theorem dX6_needsOf_17 : decode cX6_needsOf 17 = .ok (.iconst 2, 1) := by decide +kernel
theorem dX6_needsOf_18 : decode cX6_needsOf 18 = .ok (.iadd, 1) := by decide +kernel
theorem dX6_needsOf_19 : decode cX6_needsOf 19 = .ok (.goto 11, 3) := by decide +kernel
theorem dX6_needsOf_22 : decode cX6_needsOf 22 = .ok (.iload_n 1, 1) := by decide +kernel
theorem dX6_needsOf_23 : decode cX6_needsOf 23 = .ok (.iload_n 2, 1) := by decide +kernel
theorem dX6_needsOf_24 : decode cX6_needsOf 24 = .ok (.iadd, 1) := by decide +kernel
theorem dX6_needsOf_25 : decode cX6_needsOf 25 = .ok (.invokestatic 39, 3) := by decide +kernel
theorem dX6_needsOf_28 : decode cX6_needsOf 28 = .ok (.iconst 2, 1) := by decide +kernel
theorem dX6_needsOf_29 : decode cX6_needsOf 29 = .ok (.iadd, 1) := by decide +kernel
theorem dX6_needsOf_30 : decode cX6_needsOf 30 = .ok (.ireturn, 1) := by decide +kernel
set_option maxRecDepth 20000 in
theorem ggX6_wantsOf_X6_needsOf : GoodIn wsX6_wantsOf wsX6_needsOf := goodIn_r _ [4, 5, 6, 3, 7] (by decide +kernel) (by decide +kernel)
set_option maxRecDepth 20000 in
theorem gX6_wantsOf_X6_needsOf : GoodIn wsX6_wantsOf (va_wsS RX6 43 yX6_needsOf wsX6_needsOf) := goodIn_app (goodIn_of _ (by decide +kernel)) ggX6_wantsOf_X6_needsOf
theorem dX6_wantsOf_0 : decode cX6_wantsOf 0 = .ok (.iload_n 0, 1) := by decide +kernel
theorem dX6_wantsOf_1 : decode cX6_wantsOf 1 = .ok (.ifCond .ne 9, 3) := by decide +kernel
theorem dX6_wantsOf_4 : decode cX6_wantsOf 4 = .ok (.iload_n 2, 1) := by decide +kernel
theorem dX6_wantsOf_5 : decode cX6_wantsOf 5 = .ok (.iconst 2, 1) := by decide +kernel
theorem dX6_wantsOf_6 : decode cX6_wantsOf 6 = .ok (.iadd, 1) := by decide +kernel
theorem dX6_wantsOf_7 : decode cX6_wantsOf 7 = .ok (.goto 25, 3) := by decide +kernel
theorem dX6_wantsOf_10 : decode cX6_wantsOf 10 = .ok (.iload_n 0, 1) := by decide +kernel
theorem dX6_wantsOf_11 : decode cX6_wantsOf 11 = .ok (.iconst 1, 1) := by decide +kernel
theorem dX6_wantsOf_12 : decode cX6_wantsOf 12 = .ok (.if_icmp .ne 13, 3) := by decide +kernel
theorem dX6_wantsOf_15 : decode cX6_wantsOf 15 = .ok (.iload_n 2, 1) := by decide +kernel
theorem dX6_wantsOf_16 : decode cX6_wantsOf 16 = .ok (.iload_n 2, 1) := by decide +kernel
theorem dX6_wantsOf_17 : decode cX6_wantsOf 17 = .ok (.iconst 5, 1) := by decide +kernel
theorem dX6_wantsOf_18 : decode cX6_wantsOf 18 = .ok (.idiv, 1) := by decide +kernel
theorem dX6_wantsOf_19 : decode cX6_wantsOf 19 = .ok (.iadd, 1) := by decide +kernel
theorem dX6_wantsOf_20 : decode cX6_wantsOf 20 = .ok (.iconst 2, 1) := by decide +kernel
theorem dX6_wantsOf_21 : decode cX6_wantsOf 21 = .ok (.iadd, 1) := by decide +kernel
theorem dX6_wantsOf_22 : decode cX6_wantsOf 22 = .ok (.goto 10, 3) := by decide +kernel
theorem dX6_wantsOf_25 : decode cX6_wantsOf 25 = .ok (.iload_n 1, 1) := by decide +kernel
theorem dX6_wantsOf_26 : decode cX6_wantsOf 26 = .ok (.iload_n 2, 1) := by decide +kernel
theorem dX6_wantsOf_27 : decode cX6_wantsOf 27 = .ok (.iadd, 1) := by decide +kernel
theorem dX6_wantsOf_28 : decode cX6_wantsOf 28 = .ok (.iconst 2, 1) := by decide +kernel
theorem dX6_wantsOf_29 : decode cX6_wantsOf 29 = .ok (.idiv, 1) := by decide +kernel
theorem dX6_wantsOf_30 : decode cX6_wantsOf 30 = .ok (.iconst 3, 1) := by decide +kernel
theorem dX6_wantsOf_31 : decode cX6_wantsOf 31 = .ok (.iadd, 1) := by decide +kernel
theorem dX6_wantsOf_32 : decode cX6_wantsOf 32 = .ok (.istore_n 3, 1) := by decide +kernel
theorem dX6_wantsOf_33 : decode cX6_wantsOf 33 = .ok (.iload_n 0, 1) := by decide +kernel
theorem dX6_wantsOf_34 : decode cX6_wantsOf 34 = .ok (.iload_n 1, 1) := by decide +kernel
theorem dX6_wantsOf_35 : decode cX6_wantsOf 35 = .ok (.iload_n 2, 1) := by decide +kernel
theorem dX6_wantsOf_36 : decode cX6_wantsOf 36 = .ok (.invokestatic 43, 3) := by decide +kernel
theorem dX6_wantsOf_39 : decode cX6_wantsOf 39 = .ok (.istore 4, 2) := by decide +kernel
theorem dX6_wantsOf_41 : decode cX6_wantsOf 41 = .ok (.iload_n 3, 1) := by decide +kernel
theorem dX6_wantsOf_42 : decode cX6_wantsOf 42 = .ok (.iload 4, 2) := by decide +kernel
theorem dX6_wantsOf_44 : decode cX6_wantsOf 44 = .ok (.if_icmp .ge 8, 3) := by decide +kernel
theorem dX6_wantsOf_47 : decode cX6_wantsOf 47 = .ok (.iload 4, 2) := by decide +kernel
theorem dX6_wantsOf_49 : decode cX6_wantsOf 49 = .ok (.goto 4, 3) := by decide +kernel
theorem dX6_wantsOf_52 : decode cX6_wantsOf 52 = .ok (.iload_n 3, 1) := by decide +kernel
theorem dX6_wantsOf_53 : decode cX6_wantsOf 53 = .ok (.ireturn, 1) := by decide +kernel
set_option maxRecDepth 20000 in
theorem ggX6_workOf_X6_over : GoodIn wsX6_workOf wsX6_over := goodIn_r _ [4] (by decide +kernel) (by decide +kernel)
set_option maxRecDepth 20000 in
theorem gX6_workOf_X6_over : GoodIn wsX6_workOf (va_wsS RX6 47 yX6_over wsX6_over) := goodIn_app (goodIn_of _ (by decide +kernel)) ggX6_workOf_X6_over
set_option maxRecDepth 20000 in
theorem ggX6_workOf_X6_wantsOf : GoodIn wsX6_workOf wsX6_wantsOf := goodIn_r _ [7, 8, 9, 3, 10, 11, 12, 13] (by decide +kernel) (by decide +kernel)
set_option maxRecDepth 20000 in
theorem gX6_workOf_X6_wantsOf : GoodIn wsX6_workOf (va_wsS RX6 51 yX6_wantsOf wsX6_wantsOf) := goodIn_app (goodIn_of _ (by decide +kernel)) ggX6_workOf_X6_wantsOf
theorem dX6_workOf_0 : decode cX6_workOf 0 = .ok (.iload_n 1, 1) := by decide +kernel
theorem dX6_workOf_1 : decode cX6_workOf 1 = .ok (.iload_n 2, 1) := by decide +kernel
theorem dX6_workOf_2 : decode cX6_workOf 2 = .ok (.iadd, 1) := by decide +kernel
theorem dX6_workOf_3 : decode cX6_workOf 3 = .ok (.istore 4, 2) := by decide +kernel
theorem dX6_workOf_5 : decode cX6_workOf 5 = .ok (.iload_n 0, 1) := by decide +kernel
theorem dX6_workOf_6 : decode cX6_workOf 6 = .ok (.ifCond .ne 15, 3) := by decide +kernel
theorem dX6_workOf_9 : decode cX6_workOf 9 = .ok (.iload_n 1, 1) := by decide +kernel
theorem dX6_workOf_10 : decode cX6_workOf 10 = .ok (.iload_n 2, 1) := by decide +kernel
theorem dX6_workOf_11 : decode cX6_workOf 11 = .ok (.iload_n 1, 1) := by decide +kernel
theorem dX6_workOf_12 : decode cX6_workOf 12 = .ok (.iload_n 3, 1) := by decide +kernel
theorem dX6_workOf_13 : decode cX6_workOf 13 = .ok (.iconst 2, 1) := by decide +kernel
theorem dX6_workOf_14 : decode cX6_workOf 14 = .ok (.isub, 1) := by decide +kernel
theorem dX6_workOf_15 : decode cX6_workOf 15 = .ok (.invokestatic 47, 3) := by decide +kernel
theorem dX6_workOf_18 : decode cX6_workOf 18 = .ok (.imul, 1) := by decide +kernel
theorem dX6_workOf_19 : decode cX6_workOf 19 = .ok (.iadd, 1) := by decide +kernel
theorem dX6_workOf_20 : decode cX6_workOf 20 = .ok (.ireturn, 1) := by decide +kernel
theorem dX6_workOf_21 : decode cX6_workOf 21 = .ok (.iload_n 0, 1) := by decide +kernel
theorem dX6_workOf_22 : decode cX6_workOf 22 = .ok (.iconst 1, 1) := by decide +kernel
theorem dX6_workOf_23 : decode cX6_workOf 23 = .ok (.if_icmp .ne 23, 3) := by decide +kernel
theorem dX6_workOf_26 : decode cX6_workOf 26 = .ok (.iload_n 3, 1) := by decide +kernel
theorem dX6_workOf_27 : decode cX6_workOf 27 = .ok (.iload_n 0, 1) := by decide +kernel
theorem dX6_workOf_28 : decode cX6_workOf 28 = .ok (.iload_n 1, 1) := by decide +kernel
theorem dX6_workOf_29 : decode cX6_workOf 29 = .ok (.iload_n 2, 1) := by decide +kernel
theorem dX6_workOf_30 : decode cX6_workOf 30 = .ok (.invokestatic 51, 3) := by decide +kernel
theorem dX6_workOf_33 : decode cX6_workOf 33 = .ok (.if_icmp .lt 8, 3) := by decide +kernel
theorem dX6_workOf_36 : decode cX6_workOf 36 = .ok (.iload 4, 2) := by decide +kernel
theorem dX6_workOf_38 : decode cX6_workOf 38 = .ok (.goto 7, 3) := by decide +kernel
theorem dX6_workOf_41 : decode cX6_workOf 41 = .ok (.iconst 3, 1) := by decide +kernel
theorem dX6_workOf_42 : decode cX6_workOf 42 = .ok (.iload 4, 2) := by decide +kernel
theorem dX6_workOf_44 : decode cX6_workOf 44 = .ok (.imul, 1) := by decide +kernel
theorem dX6_workOf_45 : decode cX6_workOf 45 = .ok (.ireturn, 1) := by decide +kernel
theorem dX6_workOf_46 : decode cX6_workOf 46 = .ok (.iconst 0, 1) := by decide +kernel
theorem dX6_workOf_47 : decode cX6_workOf 47 = .ok (.istore 5, 2) := by decide +kernel
theorem dX6_workOf_49 : decode cX6_workOf 49 = .ok (.iload 4, 2) := by decide +kernel
theorem dX6_workOf_51 : decode cX6_workOf 51 = .ok (.iload_n 3, 1) := by decide +kernel
theorem dX6_workOf_52 : decode cX6_workOf 52 = .ok (.invokestatic 47, 3) := by decide +kernel
theorem dX6_workOf_55 : decode cX6_workOf 55 = .ok (.istore 6, 2) := by decide +kernel
theorem dX6_workOf_57 : decode cX6_workOf 57 = .ok (.iload 6, 2) := by decide +kernel
theorem dX6_workOf_59 : decode cX6_workOf 59 = .ok (.iconst 1, 1) := by decide +kernel
theorem dX6_workOf_60 : decode cX6_workOf 60 = .ok (.if_icmp .le 19, 3) := by decide +kernel
theorem dX6_workOf_63 : decode cX6_workOf 63 = .ok (.iinc 5 1, 3) := by decide +kernel
theorem dX6_workOf_66 : decode cX6_workOf 66 = .ok (.iload 6, 2) := by decide +kernel
theorem dX6_workOf_68 : decode cX6_workOf 68 = .ok (.iload_n 3, 1) := by decide +kernel
theorem dX6_workOf_69 : decode cX6_workOf 69 = .ok (.iconst 1, 1) := by decide +kernel
theorem dX6_workOf_70 : decode cX6_workOf 70 = .ok (.isub, 1) := by decide +kernel
theorem dX6_workOf_71 : decode cX6_workOf 71 = .ok (.invokestatic 47, 3) := by decide +kernel
theorem dX6_workOf_74 : decode cX6_workOf 74 = .ok (.istore 6, 2) := by decide +kernel
theorem dX6_workOf_76 : decode cX6_workOf 76 = .ok (.goto (-19), 3) := by decide +kernel
theorem dX6_workOf_79 : decode cX6_workOf 79 = .ok (.iload 4, 2) := by decide +kernel
theorem dX6_workOf_81 : decode cX6_workOf 81 = .ok (.iconst 2, 1) := by decide +kernel
theorem dX6_workOf_82 : decode cX6_workOf 82 = .ok (.iload 5, 2) := by decide +kernel
theorem dX6_workOf_84 : decode cX6_workOf 84 = .ok (.imul, 1) := by decide +kernel
theorem dX6_workOf_85 : decode cX6_workOf 85 = .ok (.iconst 1, 1) := by decide +kernel
theorem dX6_workOf_86 : decode cX6_workOf 86 = .ok (.iadd, 1) := by decide +kernel
theorem dX6_workOf_87 : decode cX6_workOf 87 = .ok (.imul, 1) := by decide +kernel
theorem dX6_workOf_88 : decode cX6_workOf 88 = .ok (.ireturn, 1) := by decide +kernel
theorem dX6_of_0 : decode cX6_of 0 = .ok (.aload_n 0, 1) := by decide +kernel
theorem dX6_of_1 : decode cX6_of 1 = .ok (.getfield 7, 3) := by decide +kernel
theorem dX6_of_4 : decode cX6_of 4 = .ok (.bipush 9, 2) := by decide +kernel
theorem dX6_of_6 : decode cX6_of 6 = .ok (.bipush 9, 2) := by decide +kernel
theorem dX6_of_8 : decode cX6_of 8 = .ok (.iload_n 1, 1) := by decide +kernel
theorem dX6_of_9 : decode cX6_of 9 = .ok (.imul, 1) := by decide +kernel
theorem dX6_of_10 : decode cX6_of 10 = .ok (.iadd, 1) := by decide +kernel
theorem dX6_of_11 : decode cX6_of 11 = .ok (.iload_n 2, 1) := by decide +kernel
theorem dX6_of_12 : decode cX6_of 12 = .ok (.iadd, 1) := by decide +kernel
theorem dX6_of_13 : decode cX6_of 13 = .ok (.iaload, 1) := by decide +kernel
theorem dX6_of_14 : decode cX6_of 14 = .ok (.ireturn, 1) := by decide +kernel
theorem dX6_sets_0 : decode cX6_sets 0 = .ok (.aload_n 0, 1) := by decide +kernel
theorem dX6_sets_1 : decode cX6_sets 1 = .ok (.getfield 7, 3) := by decide +kernel
theorem dX6_sets_4 : decode cX6_sets 4 = .ok (.bipush 9, 2) := by decide +kernel
theorem dX6_sets_6 : decode cX6_sets 6 = .ok (.bipush 9, 2) := by decide +kernel
theorem dX6_sets_8 : decode cX6_sets 8 = .ok (.iload_n 1, 1) := by decide +kernel
theorem dX6_sets_9 : decode cX6_sets 9 = .ok (.imul, 1) := by decide +kernel
theorem dX6_sets_10 : decode cX6_sets 10 = .ok (.iadd, 1) := by decide +kernel
theorem dX6_sets_11 : decode cX6_sets 11 = .ok (.iload_n 2, 1) := by decide +kernel
theorem dX6_sets_12 : decode cX6_sets 12 = .ok (.iadd, 1) := by decide +kernel
theorem dX6_sets_13 : decode cX6_sets 13 = .ok (.iload_n 3, 1) := by decide +kernel
theorem dX6_sets_14 : decode cX6_sets 14 = .ok (.iastore, 1) := by decide +kernel
theorem dX6_sets_15 : decode cX6_sets 15 = .ok (.return_, 1) := by decide +kernel
set_option maxRecDepth 20000 in
theorem ggX6_isJoin_X6_in : GoodIn wsX6_isJoin wsX6_in := goodIn_r _ [5] (by decide +kernel) (by decide +kernel)
set_option maxRecDepth 20000 in
theorem gX6_isJoin_X6_in : GoodIn wsX6_isJoin (va_wsS RX6 54 yX6_in wsX6_in) := goodIn_app (goodIn_of _ (by decide +kernel)) ggX6_isJoin_X6_in
theorem dX6_isJoin_0 : decode cX6_isJoin 0 = .ok (.iload_n 1, 1) := by decide +kernel
theorem dX6_isJoin_1 : decode cX6_isJoin 1 = .ok (.i2l, 1) := by decide +kernel
theorem dX6_isJoin_2 : decode cX6_isJoin 2 = .ok (.lconst 0, 1) := by decide +kernel
theorem dX6_isJoin_3 : decode cX6_isJoin 3 = .ok (.aload_n 0, 1) := by decide +kernel
theorem dX6_isJoin_4 : decode cX6_isJoin 4 = .ok (.getfield 7, 3) := by decide +kernel
theorem dX6_isJoin_7 : decode cX6_isJoin 7 = .ok (.iconst 4, 1) := by decide +kernel
theorem dX6_isJoin_8 : decode cX6_isJoin 8 = .ok (.iaload, 1) := by decide +kernel
theorem dX6_isJoin_9 : decode cX6_isJoin 9 = .ok (.i2l, 1) := by decide +kernel
theorem dX6_isJoin_10 : decode cX6_isJoin 10 = .ok (.lconst 1, 1) := by decide +kernel
theorem dX6_isJoin_11 : decode cX6_isJoin 11 = .ok (.lsub, 1) := by decide +kernel
theorem dX6_isJoin_12 : decode cX6_isJoin 12 = .ok (.invokestatic 54, 3) := by decide +kernel
theorem dX6_isJoin_15 : decode cX6_isJoin 15 = .ok (.ireturn, 1) := by decide +kernel
set_option maxRecDepth 20000 in
theorem ggX6_is_X6_of : GoodIn wsX6_is wsX6_of := goodIn_r _ [5, 6, 7, 8, 9, 10, 11, 12, 13, 14, 15, 16, 17, 18, 19] (by decide +kernel) (by decide +kernel)
set_option maxRecDepth 20000 in
theorem gX6_is_X6_of : GoodIn wsX6_is (wsV RX6 58 RX6 yX6_of wsX6_of) := goodIn_app (goodIn_of _ (by decide +kernel)) ggX6_is_X6_of
theorem dX6_is_0 : decode cX6_is 0 = .ok (.aload_n 0, 1) := by decide +kernel
theorem dX6_is_1 : decode cX6_is 1 = .ok (.iload_n 1, 1) := by decide +kernel
theorem dX6_is_2 : decode cX6_is 2 = .ok (.iconst 3, 1) := by decide +kernel
theorem dX6_is_3 : decode cX6_is 3 = .ok (.invokevirtual 58, 3) := by decide +kernel
theorem dX6_is_6 : decode cX6_is 6 = .ok (.iload_n 2, 1) := by decide +kernel
theorem dX6_is_7 : decode cX6_is 7 = .ok (.if_icmp .ne 7, 3) := by decide +kernel
theorem dX6_is_10 : decode cX6_is 10 = .ok (.iconst 1, 1) := by decide +kernel
theorem dX6_is_11 : decode cX6_is 11 = .ok (.goto 4, 3) := by decide +kernel
theorem dX6_is_14 : decode cX6_is 14 = .ok (.iconst 0, 1) := by decide +kernel
theorem dX6_is_15 : decode cX6_is 15 = .ok (.ireturn, 1) := by decide +kernel
set_option maxRecDepth 20000 in
theorem ggX6_needs_X6_of : GoodIn wsX6_needs wsX6_of := goodIn_r _ [5, 6, 13, 14, 15, 16, 17, 18, 19, 20, 21, 22, 23, 24, 25] (by decide +kernel) (by decide +kernel)
set_option maxRecDepth 20000 in
theorem gX6_needs_X6_of : GoodIn wsX6_needs (wsV RX6 58 RX6 yX6_of wsX6_of) := goodIn_app (goodIn_of _ (by decide +kernel)) ggX6_needs_X6_of
set_option maxRecDepth 20000 in
theorem ggX6_needs_X6_needsOf : GoodIn wsX6_needs wsX6_needsOf := goodIn_r _ [9, 10, 11, 4, 12] (by decide +kernel) (by decide +kernel)
set_option maxRecDepth 20000 in
theorem gX6_needs_X6_needsOf : GoodIn wsX6_needs (va_wsS RX6 43 yX6_needsOf wsX6_needsOf) := goodIn_app (goodIn_of _ (by decide +kernel)) ggX6_needs_X6_needsOf
theorem dX6_needs_0 : decode cX6_needs 0 = .ok (.aload_n 0, 1) := by decide +kernel
theorem dX6_needs_1 : decode cX6_needs 1 = .ok (.iload_n 1, 1) := by decide +kernel
theorem dX6_needs_2 : decode cX6_needs 2 = .ok (.iconst 0, 1) := by decide +kernel
theorem dX6_needs_3 : decode cX6_needs 3 = .ok (.invokevirtual 58, 3) := by decide +kernel
theorem dX6_needs_6 : decode cX6_needs 6 = .ok (.aload_n 0, 1) := by decide +kernel
theorem dX6_needs_7 : decode cX6_needs 7 = .ok (.iload_n 1, 1) := by decide +kernel
theorem dX6_needs_8 : decode cX6_needs 8 = .ok (.iconst 1, 1) := by decide +kernel
theorem dX6_needs_9 : decode cX6_needs 9 = .ok (.invokevirtual 58, 3) := by decide +kernel
theorem dX6_needs_12 : decode cX6_needs 12 = .ok (.aload_n 0, 1) := by decide +kernel
theorem dX6_needs_13 : decode cX6_needs 13 = .ok (.iload_n 1, 1) := by decide +kernel
theorem dX6_needs_14 : decode cX6_needs 14 = .ok (.iconst 2, 1) := by decide +kernel
theorem dX6_needs_15 : decode cX6_needs 15 = .ok (.invokevirtual 58, 3) := by decide +kernel
theorem dX6_needs_18 : decode cX6_needs 18 = .ok (.invokestatic 43, 3) := by decide +kernel
theorem dX6_needs_21 : decode cX6_needs 21 = .ok (.ireturn, 1) := by decide +kernel
set_option maxRecDepth 20000 in
theorem ggX6_wants_X6_of : GoodIn wsX6_wants wsX6_of := goodIn_r _ [5, 6, 16, 17, 18, 19, 20, 21, 22, 23, 24, 25, 26, 27, 28] (by decide +kernel) (by decide +kernel)
set_option maxRecDepth 20000 in
theorem gX6_wants_X6_of : GoodIn wsX6_wants (wsV RX6 58 RX6 yX6_of wsX6_of) := goodIn_app (goodIn_of _ (by decide +kernel)) ggX6_wants_X6_of
set_option maxRecDepth 20000 in
theorem ggX6_wants_X6_wantsOf : GoodIn wsX6_wants wsX6_wantsOf := goodIn_r _ [9, 10, 11, 4, 12, 13, 14, 15] (by decide +kernel) (by decide +kernel)
set_option maxRecDepth 20000 in
theorem gX6_wants_X6_wantsOf : GoodIn wsX6_wants (va_wsS RX6 51 yX6_wantsOf wsX6_wantsOf) := goodIn_app (goodIn_of _ (by decide +kernel)) ggX6_wants_X6_wantsOf
theorem dX6_wants_0 : decode cX6_wants 0 = .ok (.aload_n 0, 1) := by decide +kernel
theorem dX6_wants_1 : decode cX6_wants 1 = .ok (.iload_n 1, 1) := by decide +kernel
theorem dX6_wants_2 : decode cX6_wants 2 = .ok (.iconst 0, 1) := by decide +kernel
theorem dX6_wants_3 : decode cX6_wants 3 = .ok (.invokevirtual 58, 3) := by decide +kernel
theorem dX6_wants_6 : decode cX6_wants 6 = .ok (.aload_n 0, 1) := by decide +kernel
theorem dX6_wants_7 : decode cX6_wants 7 = .ok (.iload_n 1, 1) := by decide +kernel
theorem dX6_wants_8 : decode cX6_wants 8 = .ok (.iconst 1, 1) := by decide +kernel
theorem dX6_wants_9 : decode cX6_wants 9 = .ok (.invokevirtual 58, 3) := by decide +kernel
theorem dX6_wants_12 : decode cX6_wants 12 = .ok (.aload_n 0, 1) := by decide +kernel
theorem dX6_wants_13 : decode cX6_wants 13 = .ok (.iload_n 1, 1) := by decide +kernel
theorem dX6_wants_14 : decode cX6_wants 14 = .ok (.iconst 2, 1) := by decide +kernel
theorem dX6_wants_15 : decode cX6_wants 15 = .ok (.invokevirtual 58, 3) := by decide +kernel
theorem dX6_wants_18 : decode cX6_wants 18 = .ok (.invokestatic 51, 3) := by decide +kernel
theorem dX6_wants_21 : decode cX6_wants 21 = .ok (.ireturn, 1) := by decide +kernel
set_option maxRecDepth 20000 in
theorem ggX6_works_X6_of : GoodIn wsX6_works wsX6_of := goodIn_r _ [5, 6, 22, 23, 24, 25, 26, 27, 28, 29, 30, 31, 32, 33, 34] (by decide +kernel) (by decide +kernel)
set_option maxRecDepth 20000 in
theorem gX6_works_X6_of : GoodIn wsX6_works (wsV RX6 58 RX6 yX6_of wsX6_of) := goodIn_app (goodIn_of _ (by decide +kernel)) ggX6_works_X6_of
set_option maxRecDepth 20000 in
theorem ggX6_works_X6_workOf : GoodIn wsX6_works wsX6_workOf := goodIn_r _ [9, 10, 11, 4, 12, 13, 14, 15, 16, 17, 18, 19, 20, 21] (by decide +kernel) (by decide +kernel)
set_option maxRecDepth 20000 in
theorem gX6_works_X6_workOf : GoodIn wsX6_works (va_wsS RX6 61 yX6_workOf wsX6_workOf) := goodIn_app (goodIn_of _ (by decide +kernel)) ggX6_works_X6_workOf
theorem dX6_works_0 : decode cX6_works 0 = .ok (.aload_n 0, 1) := by decide +kernel
theorem dX6_works_1 : decode cX6_works 1 = .ok (.iload_n 1, 1) := by decide +kernel
theorem dX6_works_2 : decode cX6_works 2 = .ok (.iconst 0, 1) := by decide +kernel
theorem dX6_works_3 : decode cX6_works 3 = .ok (.invokevirtual 58, 3) := by decide +kernel
theorem dX6_works_6 : decode cX6_works 6 = .ok (.aload_n 0, 1) := by decide +kernel
theorem dX6_works_7 : decode cX6_works 7 = .ok (.iload_n 1, 1) := by decide +kernel
theorem dX6_works_8 : decode cX6_works 8 = .ok (.iconst 1, 1) := by decide +kernel
theorem dX6_works_9 : decode cX6_works 9 = .ok (.invokevirtual 58, 3) := by decide +kernel
theorem dX6_works_12 : decode cX6_works 12 = .ok (.aload_n 0, 1) := by decide +kernel
theorem dX6_works_13 : decode cX6_works 13 = .ok (.iload_n 1, 1) := by decide +kernel
theorem dX6_works_14 : decode cX6_works 14 = .ok (.iconst 2, 1) := by decide +kernel
theorem dX6_works_15 : decode cX6_works 15 = .ok (.invokevirtual 58, 3) := by decide +kernel
theorem dX6_works_18 : decode cX6_works 18 = .ok (.iload_n 2, 1) := by decide +kernel
theorem dX6_works_19 : decode cX6_works 19 = .ok (.invokestatic 61, 3) := by decide +kernel
theorem dX6_works_22 : decode cX6_works 22 = .ok (.ireturn, 1) := by decide +kernel
set_option maxRecDepth 20000 in
theorem ggX6_granted_X6_of : GoodIn wsX6_granted wsX6_of := goodIn_r _ [6, 1, 7, 8, 9, 10, 11, 12, 13, 14, 15, 16, 17, 18, 19] (by decide +kernel) (by decide +kernel)
set_option maxRecDepth 20000 in
theorem gX6_granted_X6_of : GoodIn wsX6_granted (wsV RX6 58 RX6 yX6_of wsX6_of) := goodIn_app (goodIn_of _ (by decide +kernel)) ggX6_granted_X6_of
theorem dX6_granted_0 : decode cX6_granted 0 = .ok (.iconst 0, 1) := by decide +kernel
theorem dX6_granted_1 : decode cX6_granted 1 = .ok (.istore_n 1, 1) := by decide +kernel
theorem dX6_granted_2 : decode cX6_granted 2 = .ok (.iconst 0, 1) := by decide +kernel
theorem dX6_granted_3 : decode cX6_granted 3 = .ok (.istore_n 2, 1) := by decide +kernel
theorem dX6_granted_4 : decode cX6_granted 4 = .ok (.iload_n 2, 1) := by decide +kernel
theorem dX6_granted_5 : decode cX6_granted 5 = .ok (.aload_n 0, 1) := by decide +kernel
theorem dX6_granted_6 : decode cX6_granted 6 = .ok (.getfield 7, 3) := by decide +kernel
theorem dX6_granted_9 : decode cX6_granted 9 = .ok (.iconst 4, 1) := by decide +kernel
theorem dX6_granted_10 : decode cX6_granted 10 = .ok (.iaload, 1) := by decide +kernel
theorem dX6_granted_11 : decode cX6_granted 11 = .ok (.if_icmp .ge 18, 3) := by decide +kernel
theorem dX6_granted_14 : decode cX6_granted 14 = .ok (.iload_n 1, 1) := by decide +kernel
theorem dX6_granted_15 : decode cX6_granted 15 = .ok (.aload_n 0, 1) := by decide +kernel
theorem dX6_granted_16 : decode cX6_granted 16 = .ok (.iload_n 2, 1) := by decide +kernel
theorem dX6_granted_17 : decode cX6_granted 17 = .ok (.iconst 4, 1) := by decide +kernel
theorem dX6_granted_18 : decode cX6_granted 18 = .ok (.invokevirtual 58, 3) := by decide +kernel
theorem dX6_granted_21 : decode cX6_granted 21 = .ok (.iadd, 1) := by decide +kernel
theorem dX6_granted_22 : decode cX6_granted 22 = .ok (.istore_n 1, 1) := by decide +kernel
theorem dX6_granted_23 : decode cX6_granted 23 = .ok (.iinc 2 1, 3) := by decide +kernel
theorem dX6_granted_26 : decode cX6_granted 26 = .ok (.goto (-22), 3) := by decide +kernel
theorem dX6_granted_29 : decode cX6_granted 29 = .ok (.iload_n 1, 1) := by decide +kernel
theorem dX6_granted_30 : decode cX6_granted 30 = .ok (.ireturn, 1) := by decide +kernel
set_option maxRecDepth 20000 in
theorem ggX6_free_X6_granted : GoodIn wsX6_free wsX6_granted := goodIn_r _ [6, 1, 7, 8, 9, 5, 10, 11, 12, 13, 14, 15, 16, 17, 18, 19, 20, 21, 22, 23] (by decide +kernel) (by decide +kernel)
set_option maxRecDepth 20000 in
theorem gX6_free_X6_granted : GoodIn wsX6_free (wsV RX6 65 RX6 yX6_granted wsX6_granted) := goodIn_app (goodIn_of _ (by decide +kernel)) ggX6_free_X6_granted
theorem dX6_free_0 : decode cX6_free 0 = .ok (.aload_n 0, 1) := by decide +kernel
theorem dX6_free_1 : decode cX6_free 1 = .ok (.getfield 7, 3) := by decide +kernel
theorem dX6_free_4 : decode cX6_free 4 = .ok (.iconst 0, 1) := by decide +kernel
theorem dX6_free_5 : decode cX6_free 5 = .ok (.iaload, 1) := by decide +kernel
theorem dX6_free_6 : decode cX6_free 6 = .ok (.aload_n 0, 1) := by decide +kernel
theorem dX6_free_7 : decode cX6_free 7 = .ok (.invokevirtual 65, 3) := by decide +kernel
theorem dX6_free_10 : decode cX6_free 10 = .ok (.isub, 1) := by decide +kernel
theorem dX6_free_11 : decode cX6_free 11 = .ok (.istore_n 1, 1) := by decide +kernel
theorem dX6_free_12 : decode cX6_free 12 = .ok (.iload_n 1, 1) := by decide +kernel
theorem dX6_free_13 : decode cX6_free 13 = .ok (.ifCond .ge 7, 3) := by decide +kernel
theorem dX6_free_16 : decode cX6_free 16 = .ok (.iconst 0, 1) := by decide +kernel
theorem dX6_free_17 : decode cX6_free 17 = .ok (.goto 4, 3) := by decide +kernel
theorem dX6_free_20 : decode cX6_free 20 = .ok (.iload_n 1, 1) := by decide +kernel
theorem dX6_free_21 : decode cX6_free 21 = .ok (.ireturn, 1) := by decide +kernel
set_option maxRecDepth 20000 in
theorem ggX6_extra_X6_is : GoodIn wsX6_extra wsX6_is := goodIn_r _ [5, 6, 7, 8, 4, 9, 10, 21, 22, 23, 24, 25, 26, 27, 28, 29, 30, 31, 32, 33] (by decide +kernel) (by decide +kernel)
set_option maxRecDepth 20000 in
theorem gX6_extra_X6_is : GoodIn wsX6_extra (wsV RX6 69 RX6 yX6_is wsX6_is) := goodIn_app (goodIn_of _ (by decide +kernel)) ggX6_extra_X6_is
set_option maxRecDepth 20000 in
theorem ggX6_extra_X6_of : GoodIn wsX6_extra wsX6_of := goodIn_r _ [9, 10, 21, 22, 23, 24, 25, 26, 27, 28, 29, 30, 31, 32, 33] (by decide +kernel) (by decide +kernel)
set_option maxRecDepth 20000 in
theorem gX6_extra_X6_of : GoodIn wsX6_extra (wsV RX6 58 RX6 yX6_of wsX6_of) := goodIn_app (goodIn_of _ (by decide +kernel)) ggX6_extra_X6_of
set_option maxRecDepth 20000 in
theorem ggX6_extra_X6_needs : GoodIn wsX6_extra wsX6_needs := goodIn_r _ [14, 6, 7, 8, 4, 9, 10, 15, 16, 17, 18, 19, 20, 21, 22, 23, 24, 25, 26, 27, 28, 29, 30, 31, 32, 33] (by decide +kernel) (by decide +kernel)
set_option maxRecDepth 20000 in
theorem gX6_extra_X6_needs : GoodIn wsX6_extra (wsV RX6 73 RX6 yX6_needs wsX6_needs) := goodIn_app (goodIn_of _ (by decide +kernel)) ggX6_extra_X6_needs
theorem dX6_extra_0 : decode cX6_extra 0 = .ok (.aload_n 0, 1) := by decide +kernel
theorem dX6_extra_1 : decode cX6_extra 1 = .ok (.iload_n 1, 1) := by decide +kernel
theorem dX6_extra_2 : decode cX6_extra 2 = .ok (.iconst 1, 1) := by decide +kernel
theorem dX6_extra_3 : decode cX6_extra 3 = .ok (.invokevirtual 69, 3) := by decide +kernel
theorem dX6_extra_6 : decode cX6_extra 6 = .ok (.ifCond .eq 18, 3) := by decide +kernel
theorem dX6_extra_9 : decode cX6_extra 9 = .ok (.aload_n 0, 1) := by decide +kernel
theorem dX6_extra_10 : decode cX6_extra 10 = .ok (.iload_n 1, 1) := by decide +kernel
theorem dX6_extra_11 : decode cX6_extra 11 = .ok (.iconst 4, 1) := by decide +kernel
theorem dX6_extra_12 : decode cX6_extra 12 = .ok (.invokevirtual 58, 3) := by decide +kernel
theorem dX6_extra_15 : decode cX6_extra 15 = .ok (.aload_n 0, 1) := by decide +kernel
theorem dX6_extra_16 : decode cX6_extra 16 = .ok (.iload_n 1, 1) := by decide +kernel
theorem dX6_extra_17 : decode cX6_extra 17 = .ok (.invokevirtual 73, 3) := by decide +kernel
theorem dX6_extra_20 : decode cX6_extra 20 = .ok (.isub, 1) := by decide +kernel
theorem dX6_extra_21 : decode cX6_extra 21 = .ok (.goto 4, 3) := by decide +kernel
theorem dX6_extra_24 : decode cX6_extra 24 = .ok (.iconst 0, 1) := by decide +kernel
theorem dX6_extra_25 : decode cX6_extra 25 = .ok (.ireturn, 1) := by decide +kernel
set_option maxRecDepth 20000 in
theorem ggX6_spares_X6_extra : GoodIn wsX6_spares wsX6_extra := goodIn_r _ [6, 7, 8, 9, 5, 10, 11, 12, 13, 14, 1, 15, 16, 17, 18, 19, 20, 21, 22, 23, 24, 25, 26, 27, 28, 29, 30, 31, 32, 33, 34, 35, 36, 37] (by decide +kernel) (by decide +kernel)
set_option maxRecDepth 20000 in
theorem gX6_spares_X6_extra : GoodIn wsX6_spares (wsV RX6 76 RX6 yX6_extra wsX6_extra) := goodIn_app (goodIn_of _ (by decide +kernel)) ggX6_spares_X6_extra
theorem dX6_spares_0 : decode cX6_spares 0 = .ok (.iconst 0, 1) := by decide +kernel
theorem dX6_spares_1 : decode cX6_spares 1 = .ok (.istore_n 1, 1) := by decide +kernel
theorem dX6_spares_2 : decode cX6_spares 2 = .ok (.iconst 0, 1) := by decide +kernel
theorem dX6_spares_3 : decode cX6_spares 3 = .ok (.istore_n 2, 1) := by decide +kernel
theorem dX6_spares_4 : decode cX6_spares 4 = .ok (.iload_n 2, 1) := by decide +kernel
theorem dX6_spares_5 : decode cX6_spares 5 = .ok (.aload_n 0, 1) := by decide +kernel
theorem dX6_spares_6 : decode cX6_spares 6 = .ok (.getfield 7, 3) := by decide +kernel
theorem dX6_spares_9 : decode cX6_spares 9 = .ok (.iconst 4, 1) := by decide +kernel
theorem dX6_spares_10 : decode cX6_spares 10 = .ok (.iaload, 1) := by decide +kernel
theorem dX6_spares_11 : decode cX6_spares 11 = .ok (.if_icmp .ge 17, 3) := by decide +kernel
theorem dX6_spares_14 : decode cX6_spares 14 = .ok (.iload_n 1, 1) := by decide +kernel
theorem dX6_spares_15 : decode cX6_spares 15 = .ok (.aload_n 0, 1) := by decide +kernel
theorem dX6_spares_16 : decode cX6_spares 16 = .ok (.iload_n 2, 1) := by decide +kernel
theorem dX6_spares_17 : decode cX6_spares 17 = .ok (.invokevirtual 76, 3) := by decide +kernel
theorem dX6_spares_20 : decode cX6_spares 20 = .ok (.iadd, 1) := by decide +kernel
theorem dX6_spares_21 : decode cX6_spares 21 = .ok (.istore_n 1, 1) := by decide +kernel
theorem dX6_spares_22 : decode cX6_spares 22 = .ok (.iinc 2 1, 3) := by decide +kernel
theorem dX6_spares_25 : decode cX6_spares 25 = .ok (.goto (-21), 3) := by decide +kernel
theorem dX6_spares_28 : decode cX6_spares 28 = .ok (.iload_n 1, 1) := by decide +kernel
theorem dX6_spares_29 : decode cX6_spares 29 = .ok (.ireturn, 1) := by decide +kernel
set_option maxRecDepth 20000 in
theorem ggX6_isAhead_X6_needs : GoodIn wsX6_isAhead wsX6_needs := goodIn_r _ [6, 7, 8, 9, 5, 10, 1, 11, 12, 13, 14, 15, 16, 17, 18, 19, 20, 21, 22, 23, 24, 25, 26, 27, 28, 29] (by decide +kernel) (by decide +kernel)
set_option maxRecDepth 20000 in
theorem gX6_isAhead_X6_needs : GoodIn wsX6_isAhead (wsV RX6 73 RX6 yX6_needs wsX6_needs) := goodIn_app (goodIn_of _ (by decide +kernel)) ggX6_isAhead_X6_needs
theorem dX6_isAhead_0 : decode cX6_isAhead 0 = .ok (.aload_n 0, 1) := by decide +kernel
theorem dX6_isAhead_1 : decode cX6_isAhead 1 = .ok (.getfield 7, 3) := by decide +kernel
theorem dX6_isAhead_4 : decode cX6_isAhead 4 = .ok (.iconst 1, 1) := by decide +kernel
theorem dX6_isAhead_5 : decode cX6_isAhead 5 = .ok (.iaload, 1) := by decide +kernel
theorem dX6_isAhead_6 : decode cX6_isAhead 6 = .ok (.iconst 1, 1) := by decide +kernel
theorem dX6_isAhead_7 : decode cX6_isAhead 7 = .ok (.if_icmp .ne 17, 3) := by decide +kernel
theorem dX6_isAhead_10 : decode cX6_isAhead 10 = .ok (.aload_n 0, 1) := by decide +kernel
theorem dX6_isAhead_11 : decode cX6_isAhead 11 = .ok (.iload_n 1, 1) := by decide +kernel
theorem dX6_isAhead_12 : decode cX6_isAhead 12 = .ok (.invokevirtual 73, 3) := by decide +kernel
theorem dX6_isAhead_15 : decode cX6_isAhead 15 = .ok (.aload_n 0, 1) := by decide +kernel
theorem dX6_isAhead_16 : decode cX6_isAhead 16 = .ok (.iload_n 2, 1) := by decide +kernel
theorem dX6_isAhead_17 : decode cX6_isAhead 17 = .ok (.invokevirtual 73, 3) := by decide +kernel
theorem dX6_isAhead_20 : decode cX6_isAhead 20 = .ok (.isub, 1) := by decide +kernel
theorem dX6_isAhead_21 : decode cX6_isAhead 21 = .ok (.goto 4, 3) := by decide +kernel
theorem dX6_isAhead_24 : decode cX6_isAhead 24 = .ok (.iconst 0, 1) := by decide +kernel
theorem dX6_isAhead_25 : decode cX6_isAhead 25 = .ok (.istore_n 3, 1) := by decide +kernel
theorem dX6_isAhead_26 : decode cX6_isAhead 26 = .ok (.iload_n 3, 1) := by decide +kernel
theorem dX6_isAhead_27 : decode cX6_isAhead 27 = .ok (.ifCond .lt 12, 3) := by decide +kernel
theorem dX6_isAhead_30 : decode cX6_isAhead 30 = .ok (.iload_n 3, 1) := by decide +kernel
theorem dX6_isAhead_31 : decode cX6_isAhead 31 = .ok (.ifCond .ne 12, 3) := by decide +kernel
theorem dX6_isAhead_34 : decode cX6_isAhead 34 = .ok (.iload_n 1, 1) := by decide +kernel
theorem dX6_isAhead_35 : decode cX6_isAhead 35 = .ok (.iload_n 2, 1) := by decide +kernel
theorem dX6_isAhead_36 : decode cX6_isAhead 36 = .ok (.if_icmp .ge 7, 3) := by decide +kernel
theorem dX6_isAhead_39 : decode cX6_isAhead 39 = .ok (.iconst 1, 1) := by decide +kernel
theorem dX6_isAhead_40 : decode cX6_isAhead 40 = .ok (.goto 4, 3) := by decide +kernel
theorem dX6_isAhead_43 : decode cX6_isAhead 43 = .ok (.iconst 0, 1) := by decide +kernel
theorem dX6_isAhead_44 : decode cX6_isAhead 44 = .ok (.ireturn, 1) := by decide +kernel
set_option maxRecDepth 20000 in
theorem ggX6_rankOf_X6_is : GoodIn wsX6_rankOf wsX6_is := goodIn_r _ [6, 7, 8, 9, 5, 10, 1, 25, 26, 27, 28, 29, 30, 31, 32, 33, 34, 35, 36, 37] (by decide +kernel) (by decide +kernel)
set_option maxRecDepth 20000 in
theorem gX6_rankOf_X6_is : GoodIn wsX6_rankOf (wsV RX6 69 RX6 yX6_is wsX6_is) := goodIn_app (goodIn_of _ (by decide +kernel)) ggX6_rankOf_X6_is
set_option maxRecDepth 20000 in
theorem ggX6_rankOf_X6_isAhead : GoodIn wsX6_rankOf wsX6_isAhead := goodIn_r _ [14, 1, 15, 16, 17, 5, 18, 7, 8, 9, 10, 19, 20, 21, 22, 23, 24, 25, 26, 27, 28, 29, 30, 31, 32, 33, 34, 35, 36, 37] (by decide +kernel) (by decide +kernel)
set_option maxRecDepth 20000 in
theorem gX6_rankOf_X6_isAhead : GoodIn wsX6_rankOf (wsV RX6 79 RX6 yX6_isAhead wsX6_isAhead) := goodIn_app (goodIn_of _ (by decide +kernel)) ggX6_rankOf_X6_isAhead
theorem dX6_rankOf_0 : decode cX6_rankOf 0 = .ok (.iconst 0, 1) := by decide +kernel
theorem dX6_rankOf_1 : decode cX6_rankOf 1 = .ok (.istore_n 2, 1) := by decide +kernel
theorem dX6_rankOf_2 : decode cX6_rankOf 2 = .ok (.iconst 0, 1) := by decide +kernel
theorem dX6_rankOf_3 : decode cX6_rankOf 3 = .ok (.istore_n 3, 1) := by decide +kernel
theorem dX6_rankOf_4 : decode cX6_rankOf 4 = .ok (.iload_n 3, 1) := by decide +kernel
theorem dX6_rankOf_5 : decode cX6_rankOf 5 = .ok (.aload_n 0, 1) := by decide +kernel
theorem dX6_rankOf_6 : decode cX6_rankOf 6 = .ok (.getfield 7, 3) := by decide +kernel
theorem dX6_rankOf_9 : decode cX6_rankOf 9 = .ok (.iconst 4, 1) := by decide +kernel
theorem dX6_rankOf_10 : decode cX6_rankOf 10 = .ok (.iaload, 1) := by decide +kernel
theorem dX6_rankOf_11 : decode cX6_rankOf 11 = .ok (.if_icmp .ge 35, 3) := by decide +kernel
theorem dX6_rankOf_14 : decode cX6_rankOf 14 = .ok (.iload_n 2, 1) := by decide +kernel
theorem dX6_rankOf_15 : decode cX6_rankOf 15 = .ok (.aload_n 0, 1) := by decide +kernel
theorem dX6_rankOf_16 : decode cX6_rankOf 16 = .ok (.iload_n 3, 1) := by decide +kernel
theorem dX6_rankOf_17 : decode cX6_rankOf 17 = .ok (.iconst 0, 1) := by decide +kernel
theorem dX6_rankOf_18 : decode cX6_rankOf 18 = .ok (.invokevirtual 69, 3) := by decide +kernel
theorem dX6_rankOf_21 : decode cX6_rankOf 21 = .ok (.ifCond .eq 16, 3) := by decide +kernel
theorem dX6_rankOf_24 : decode cX6_rankOf 24 = .ok (.aload_n 0, 1) := by decide +kernel
theorem dX6_rankOf_25 : decode cX6_rankOf 25 = .ok (.iload_n 3, 1) := by decide +kernel
theorem dX6_rankOf_26 : decode cX6_rankOf 26 = .ok (.iload_n 1, 1) := by decide +kernel
theorem dX6_rankOf_27 : decode cX6_rankOf 27 = .ok (.invokevirtual 79, 3) := by decide +kernel
theorem dX6_rankOf_30 : decode cX6_rankOf 30 = .ok (.ifCond .eq 7, 3) := by decide +kernel
theorem dX6_rankOf_33 : decode cX6_rankOf 33 = .ok (.iconst 1, 1) := by decide +kernel
theorem dX6_rankOf_34 : decode cX6_rankOf 34 = .ok (.goto 4, 3) := by decide +kernel
theorem dX6_rankOf_37 : decode cX6_rankOf 37 = .ok (.iconst 0, 1) := by decide +kernel
theorem dX6_rankOf_38 : decode cX6_rankOf 38 = .ok (.iadd, 1) := by decide +kernel
theorem dX6_rankOf_39 : decode cX6_rankOf 39 = .ok (.istore_n 2, 1) := by decide +kernel
theorem dX6_rankOf_40 : decode cX6_rankOf 40 = .ok (.iinc 3 1, 3) := by decide +kernel
theorem dX6_rankOf_43 : decode cX6_rankOf 43 = .ok (.goto (-39), 3) := by decide +kernel
theorem dX6_rankOf_46 : decode cX6_rankOf 46 = .ok (.iload_n 2, 1) := by decide +kernel
theorem dX6_rankOf_47 : decode cX6_rankOf 47 = .ok (.ireturn, 1) := by decide +kernel
set_option maxRecDepth 20000 in
theorem ggX6_ranked_X6_is : GoodIn wsX6_ranked wsX6_is := goodIn_r _ [6, 7, 8, 9, 5, 10, 1, 29, 30, 31, 32, 33, 34, 35, 36, 37, 38, 39, 40, 41] (by decide +kernel) (by decide +kernel)
set_option maxRecDepth 20000 in
theorem gX6_ranked_X6_is : GoodIn wsX6_ranked (wsV RX6 69 RX6 yX6_is wsX6_is) := goodIn_app (goodIn_of _ (by decide +kernel)) ggX6_ranked_X6_is
set_option maxRecDepth 20000 in
theorem ggX6_ranked_X6_rankOf : GoodIn wsX6_ranked wsX6_rankOf := goodIn_r _ [14, 1, 2, 3, 4, 5, 6, 7, 8, 9, 10, 15, 16, 17, 18, 19, 20, 21, 22, 23, 24, 25, 26, 27, 28, 29, 30, 31, 32, 33, 34, 35, 36, 37, 38, 39, 40, 41] (by decide +kernel) (by decide +kernel)
set_option maxRecDepth 20000 in
theorem gX6_ranked_X6_rankOf : GoodIn wsX6_ranked (wsV RX6 82 RX6 yX6_rankOf wsX6_rankOf) := goodIn_app (goodIn_of _ (by decide +kernel)) ggX6_ranked_X6_rankOf
theorem dX6_ranked_0 : decode cX6_ranked 0 = .ok (.iconst 0, 1) := by decide +kernel
theorem dX6_ranked_1 : decode cX6_ranked 1 = .ok (.istore_n 2, 1) := by decide +kernel
theorem dX6_ranked_2 : decode cX6_ranked 2 = .ok (.iload_n 2, 1) := by decide +kernel
theorem dX6_ranked_3 : decode cX6_ranked 3 = .ok (.aload_n 0, 1) := by decide +kernel
theorem dX6_ranked_4 : decode cX6_ranked 4 = .ok (.getfield 7, 3) := by decide +kernel
theorem dX6_ranked_7 : decode cX6_ranked 7 = .ok (.iconst 4, 1) := by decide +kernel
theorem dX6_ranked_8 : decode cX6_ranked 8 = .ok (.iaload, 1) := by decide +kernel
theorem dX6_ranked_9 : decode cX6_ranked 9 = .ok (.if_icmp .ge 29, 3) := by decide +kernel
theorem dX6_ranked_12 : decode cX6_ranked 12 = .ok (.aload_n 0, 1) := by decide +kernel
theorem dX6_ranked_13 : decode cX6_ranked 13 = .ok (.iload_n 2, 1) := by decide +kernel
theorem dX6_ranked_14 : decode cX6_ranked 14 = .ok (.iconst 0, 1) := by decide +kernel
theorem dX6_ranked_15 : decode cX6_ranked 15 = .ok (.invokevirtual 69, 3) := by decide +kernel
theorem dX6_ranked_18 : decode cX6_ranked 18 = .ok (.ifCond .eq 14, 3) := by decide +kernel
theorem dX6_ranked_21 : decode cX6_ranked 21 = .ok (.aload_n 0, 1) := by decide +kernel
theorem dX6_ranked_22 : decode cX6_ranked 22 = .ok (.iload_n 2, 1) := by decide +kernel
theorem dX6_ranked_23 : decode cX6_ranked 23 = .ok (.invokevirtual 82, 3) := by decide +kernel
theorem dX6_ranked_26 : decode cX6_ranked 26 = .ok (.iload_n 1, 1) := by decide +kernel
theorem dX6_ranked_27 : decode cX6_ranked 27 = .ok (.if_icmp .ne 5, 3) := by decide +kernel
theorem dX6_ranked_30 : decode cX6_ranked 30 = .ok (.iload_n 2, 1) := by decide +kernel
theorem dX6_ranked_31 : decode cX6_ranked 31 = .ok (.ireturn, 1) := by decide +kernel
theorem dX6_ranked_32 : decode cX6_ranked 32 = .ok (.iinc 2 1, 3) := by decide +kernel
theorem dX6_ranked_35 : decode cX6_ranked 35 = .ok (.goto (-33), 3) := by decide +kernel
theorem dX6_ranked_38 : decode cX6_ranked 38 = .ok (.bipush (-5), 2) := by decide +kernel
theorem dX6_ranked_40 : decode cX6_ranked 40 = .ok (.ireturn, 1) := by decide +kernel
set_option maxRecDepth 20000 in
theorem ggX6_givesBack_X6_of : GoodIn wsX6_givesBack wsX6_of := goodIn_r _ [6, 1, 30, 31, 32, 33, 34, 35, 36, 37, 38, 39, 40, 41, 42] (by decide +kernel) (by decide +kernel)
set_option maxRecDepth 20000 in
theorem gX6_givesBack_X6_of : GoodIn wsX6_givesBack (wsV RX6 58 RX6 yX6_of wsX6_of) := goodIn_app (goodIn_of _ (by decide +kernel)) ggX6_givesBack_X6_of
set_option maxRecDepth 20000 in
theorem ggX6_givesBack_X6_works : GoodIn wsX6_givesBack wsX6_works := goodIn_r _ [10, 2, 3, 4, 5, 6, 1, 11, 12, 13, 14, 15, 16, 17, 18, 19, 20, 21, 22, 23, 24, 25, 30, 31, 32, 33, 34, 35, 36, 37, 38, 39, 40, 41, 42] (by decide +kernel) (by decide +kernel)
set_option maxRecDepth 20000 in
theorem gX6_givesBack_X6_works : GoodIn wsX6_givesBack (wsV RX6 85 RX6 yX6_works wsX6_works) := goodIn_app (goodIn_of _ (by decide +kernel)) ggX6_givesBack_X6_works
set_option maxRecDepth 20000 in
theorem ggX6_givesBack_X6_sets : GoodIn wsX6_givesBack wsX6_sets := goodIn_r _ [29, 1, 30, 31, 32, 33, 34, 35, 36, 37, 38, 39, 40, 41, 42] (by decide +kernel) (by decide +kernel)
set_option maxRecDepth 20000 in
theorem gX6_givesBack_X6_sets : GoodIn wsX6_givesBack (wsV RX6 88 RX6 yX6_sets wsX6_sets) := goodIn_app (goodIn_of _ (by decide +kernel)) ggX6_givesBack_X6_sets
theorem dX6_givesBack_0 : decode cX6_givesBack 0 = .ok (.aload_n 0, 1) := by decide +kernel
theorem dX6_givesBack_1 : decode cX6_givesBack 1 = .ok (.iload_n 1, 1) := by decide +kernel
theorem dX6_givesBack_2 : decode cX6_givesBack 2 = .ok (.iconst 4, 1) := by decide +kernel
theorem dX6_givesBack_3 : decode cX6_givesBack 3 = .ok (.invokevirtual 58, 3) := by decide +kernel
theorem dX6_givesBack_6 : decode cX6_givesBack 6 = .ok (.istore_n 3, 1) := by decide +kernel
theorem dX6_givesBack_7 : decode cX6_givesBack 7 = .ok (.aload_n 0, 1) := by decide +kernel
theorem dX6_givesBack_8 : decode cX6_givesBack 8 = .ok (.iload_n 1, 1) := by decide +kernel
theorem dX6_givesBack_9 : decode cX6_givesBack 9 = .ok (.iconst 5, 1) := by decide +kernel
theorem dX6_givesBack_10 : decode cX6_givesBack 10 = .ok (.invokevirtual 58, 3) := by decide +kernel
theorem dX6_givesBack_13 : decode cX6_givesBack 13 = .ok (.i2l, 1) := by decide +kernel
theorem dX6_givesBack_14 : decode cX6_givesBack 14 = .ok (.aload_n 0, 1) := by decide +kernel
theorem dX6_givesBack_15 : decode cX6_givesBack 15 = .ok (.iload_n 1, 1) := by decide +kernel
theorem dX6_givesBack_16 : decode cX6_givesBack 16 = .ok (.iload_n 3, 1) := by decide +kernel
theorem dX6_givesBack_17 : decode cX6_givesBack 17 = .ok (.iload_n 2, 1) := by decide +kernel
theorem dX6_givesBack_18 : decode cX6_givesBack 18 = .ok (.isub, 1) := by decide +kernel
theorem dX6_givesBack_19 : decode cX6_givesBack 19 = .ok (.invokevirtual 85, 3) := by decide +kernel
theorem dX6_givesBack_22 : decode cX6_givesBack 22 = .ok (.i2l, 1) := by decide +kernel
theorem dX6_givesBack_23 : decode cX6_givesBack 23 = .ok (.lmul, 1) := by decide +kernel
theorem dX6_givesBack_24 : decode cX6_givesBack 24 = .ok (.lstore 4, 2) := by decide +kernel
theorem dX6_givesBack_26 : decode cX6_givesBack 26 = .ok (.aload_n 0, 1) := by decide +kernel
theorem dX6_givesBack_27 : decode cX6_givesBack 27 = .ok (.iload_n 1, 1) := by decide +kernel
theorem dX6_givesBack_28 : decode cX6_givesBack 28 = .ok (.iload_n 3, 1) := by decide +kernel
theorem dX6_givesBack_29 : decode cX6_givesBack 29 = .ok (.invokevirtual 85, 3) := by decide +kernel
theorem dX6_givesBack_32 : decode cX6_givesBack 32 = .ok (.istore 6, 2) := by decide +kernel
theorem dX6_givesBack_34 : decode cX6_givesBack 34 = .ok (.aload_n 0, 1) := by decide +kernel
theorem dX6_givesBack_35 : decode cX6_givesBack 35 = .ok (.iload_n 1, 1) := by decide +kernel
theorem dX6_givesBack_36 : decode cX6_givesBack 36 = .ok (.iconst 4, 1) := by decide +kernel
theorem dX6_givesBack_37 : decode cX6_givesBack 37 = .ok (.iload_n 3, 1) := by decide +kernel
theorem dX6_givesBack_38 : decode cX6_givesBack 38 = .ok (.iload_n 2, 1) := by decide +kernel
theorem dX6_givesBack_39 : decode cX6_givesBack 39 = .ok (.isub, 1) := by decide +kernel
theorem dX6_givesBack_40 : decode cX6_givesBack 40 = .ok (.invokevirtual 88, 3) := by decide +kernel
theorem dX6_givesBack_43 : decode cX6_givesBack 43 = .ok (.aload_n 0, 1) := by decide +kernel
theorem dX6_givesBack_44 : decode cX6_givesBack 44 = .ok (.iload_n 1, 1) := by decide +kernel
theorem dX6_givesBack_45 : decode cX6_givesBack 45 = .ok (.iconst 5, 1) := by decide +kernel
theorem dX6_givesBack_46 : decode cX6_givesBack 46 = .ok (.lload 4, 2) := by decide +kernel
theorem dX6_givesBack_48 : decode cX6_givesBack 48 = .ok (.iload 6, 2) := by decide +kernel
theorem dX6_givesBack_50 : decode cX6_givesBack 50 = .ok (.i2l, 1) := by decide +kernel
theorem dX6_givesBack_51 : decode cX6_givesBack 51 = .ok (.ladd, 1) := by decide +kernel
theorem dX6_givesBack_52 : decode cX6_givesBack 52 = .ok (.lconst 1, 1) := by decide +kernel
theorem dX6_givesBack_53 : decode cX6_givesBack 53 = .ok (.lsub, 1) := by decide +kernel
theorem dX6_givesBack_54 : decode cX6_givesBack 54 = .ok (.iload 6, 2) := by decide +kernel
theorem dX6_givesBack_56 : decode cX6_givesBack 56 = .ok (.i2l, 1) := by decide +kernel
theorem dX6_givesBack_57 : decode cX6_givesBack 57 = .ok (.ldiv, 1) := by decide +kernel
theorem dX6_givesBack_58 : decode cX6_givesBack 58 = .ok (.l2i, 1) := by decide +kernel
theorem dX6_givesBack_59 : decode cX6_givesBack 59 = .ok (.iload_n 2, 1) := by decide +kernel
theorem dX6_givesBack_60 : decode cX6_givesBack 60 = .ok (.iadd, 1) := by decide +kernel
theorem dX6_givesBack_61 : decode cX6_givesBack 61 = .ok (.invokevirtual 88, 3) := by decide +kernel
theorem dX6_givesBack_64 : decode cX6_givesBack 64 = .ok (.aload_n 0, 1) := by decide +kernel
theorem dX6_givesBack_65 : decode cX6_givesBack 65 = .ok (.iload_n 1, 1) := by decide +kernel
theorem dX6_givesBack_66 : decode cX6_givesBack 66 = .ok (.bipush 8, 2) := by decide +kernel
theorem dX6_givesBack_68 : decode cX6_givesBack 68 = .ok (.aload_n 0, 1) := by decide +kernel
theorem dX6_givesBack_69 : decode cX6_givesBack 69 = .ok (.iload_n 1, 1) := by decide +kernel
theorem dX6_givesBack_70 : decode cX6_givesBack 70 = .ok (.bipush 8, 2) := by decide +kernel
theorem dX6_givesBack_72 : decode cX6_givesBack 72 = .ok (.invokevirtual 58, 3) := by decide +kernel
theorem dX6_givesBack_75 : decode cX6_givesBack 75 = .ok (.iload_n 2, 1) := by decide +kernel
theorem dX6_givesBack_76 : decode cX6_givesBack 76 = .ok (.iadd, 1) := by decide +kernel
theorem dX6_givesBack_77 : decode cX6_givesBack 77 = .ok (.invokevirtual 88, 3) := by decide +kernel
theorem dX6_givesBack_80 : decode cX6_givesBack 80 = .ok (.aload_n 0, 1) := by decide +kernel
theorem dX6_givesBack_81 : decode cX6_givesBack 81 = .ok (.getfield 7, 3) := by decide +kernel
theorem dX6_givesBack_84 : decode cX6_givesBack 84 = .ok (.bipush 8, 2) := by decide +kernel
theorem dX6_givesBack_86 : decode cX6_givesBack 86 = .ok (.dup2, 1) := by decide +kernel
theorem dX6_givesBack_87 : decode cX6_givesBack 87 = .ok (.iaload, 1) := by decide +kernel
theorem dX6_givesBack_88 : decode cX6_givesBack 88 = .ok (.iload_n 2, 1) := by decide +kernel
theorem dX6_givesBack_89 : decode cX6_givesBack 89 = .ok (.iadd, 1) := by decide +kernel
theorem dX6_givesBack_90 : decode cX6_givesBack 90 = .ok (.iastore, 1) := by decide +kernel
theorem dX6_givesBack_91 : decode cX6_givesBack 91 = .ok (.return_, 1) := by decide +kernel
set_option maxRecDepth 20000 in
theorem ggX6_asksBack_X6_extra : GoodIn wsX6_asksBack wsX6_extra := goodIn_r _ [6, 7, 8, 9, 5, 10, 11, 12, 13, 14, 1, 15, 16, 17, 18, 19, 20, 21, 22, 23, 24, 46, 47, 48, 49, 50, 51, 52, 53, 54, 55, 56, 57, 58] (by decide +kernel) (by decide +kernel)
set_option maxRecDepth 20000 in
theorem gX6_asksBack_X6_extra : GoodIn wsX6_asksBack (wsV RX6 76 RX6 yX6_extra wsX6_extra) := goodIn_app (goodIn_of _ (by decide +kernel)) ggX6_asksBack_X6_extra
set_option maxRecDepth 20000 in
theorem ggX6_asksBack_X6_givesBack : GoodIn wsX6_asksBack wsX6_givesBack := goodIn_r _ [28, 1, 11, 12, 13, 5, 14, 29, 30, 31, 32, 33, 34, 35, 36, 37, 38, 39, 40, 41, 19, 20, 21, 22, 23, 24, 42, 43, 44, 45, 46, 47, 48, 49, 50, 51, 52, 53, 54, 55, 56, 57, 58] (by decide +kernel) (by decide +kernel)
set_option maxRecDepth 20000 in
theorem gX6_asksBack_X6_givesBack : GoodIn wsX6_asksBack (wsV RX6 92 RX6 yX6_givesBack wsX6_givesBack) := goodIn_app (goodIn_of _ (by decide +kernel)) ggX6_asksBack_X6_givesBack
theorem dX6_asksBack_0 : decode cX6_asksBack 0 = .ok (.iload_n 1, 1) := by decide +kernel
theorem dX6_asksBack_1 : decode cX6_asksBack 1 = .ok (.istore_n 2, 1) := by decide +kernel
theorem dX6_asksBack_2 : decode cX6_asksBack 2 = .ok (.iload_n 2, 1) := by decide +kernel
theorem dX6_asksBack_3 : decode cX6_asksBack 3 = .ok (.ifCond .le 81, 3) := by decide +kernel
theorem dX6_asksBack_6 : decode cX6_asksBack 6 = .ok (.iconst 0, 1) := by decide +kernel
theorem dX6_asksBack_7 : decode cX6_asksBack 7 = .ok (.istore_n 3, 1) := by decide +kernel
theorem dX6_asksBack_8 : decode cX6_asksBack 8 = .ok (.iconst 1, 1) := by decide +kernel
theorem dX6_asksBack_9 : decode cX6_asksBack 9 = .ok (.istore 4, 2) := by decide +kernel
theorem dX6_asksBack_11 : decode cX6_asksBack 11 = .ok (.iload 4, 2) := by decide +kernel
theorem dX6_asksBack_13 : decode cX6_asksBack 13 = .ok (.aload_n 0, 1) := by decide +kernel
theorem dX6_asksBack_14 : decode cX6_asksBack 14 = .ok (.getfield 7, 3) := by decide +kernel
theorem dX6_asksBack_17 : decode cX6_asksBack 17 = .ok (.iconst 4, 1) := by decide +kernel
theorem dX6_asksBack_18 : decode cX6_asksBack 18 = .ok (.iaload, 1) := by decide +kernel
theorem dX6_asksBack_19 : decode cX6_asksBack 19 = .ok (.if_icmp .ge 30, 3) := by decide +kernel
theorem dX6_asksBack_22 : decode cX6_asksBack 22 = .ok (.aload_n 0, 1) := by decide +kernel
theorem dX6_asksBack_23 : decode cX6_asksBack 23 = .ok (.iload 4, 2) := by decide +kernel
theorem dX6_asksBack_25 : decode cX6_asksBack 25 = .ok (.invokevirtual 76, 3) := by decide +kernel
theorem dX6_asksBack_28 : decode cX6_asksBack 28 = .ok (.aload_n 0, 1) := by decide +kernel
theorem dX6_asksBack_29 : decode cX6_asksBack 29 = .ok (.iload_n 3, 1) := by decide +kernel
theorem dX6_asksBack_30 : decode cX6_asksBack 30 = .ok (.invokevirtual 76, 3) := by decide +kernel
theorem dX6_asksBack_33 : decode cX6_asksBack 33 = .ok (.if_icmp .le 8, 3) := by decide +kernel
theorem dX6_asksBack_36 : decode cX6_asksBack 36 = .ok (.iload 4, 2) := by decide +kernel
theorem dX6_asksBack_38 : decode cX6_asksBack 38 = .ok (.goto 4, 3) := by decide +kernel
theorem dX6_asksBack_41 : decode cX6_asksBack 41 = .ok (.iload_n 3, 1) := by decide +kernel
theorem dX6_asksBack_42 : decode cX6_asksBack 42 = .ok (.istore_n 3, 1) := by decide +kernel
theorem dX6_asksBack_43 : decode cX6_asksBack 43 = .ok (.iinc 4 1, 3) := by decide +kernel
theorem dX6_asksBack_46 : decode cX6_asksBack 46 = .ok (.goto (-35), 3) := by decide +kernel
theorem dX6_asksBack_49 : decode cX6_asksBack 49 = .ok (.aload_n 0, 1) := by decide +kernel
theorem dX6_asksBack_50 : decode cX6_asksBack 50 = .ok (.iload_n 3, 1) := by decide +kernel
theorem dX6_asksBack_51 : decode cX6_asksBack 51 = .ok (.invokevirtual 76, 3) := by decide +kernel
theorem dX6_asksBack_54 : decode cX6_asksBack 54 = .ok (.iload_n 2, 1) := by decide +kernel
theorem dX6_asksBack_55 : decode cX6_asksBack 55 = .ok (.if_icmp .ge 11, 3) := by decide +kernel
theorem dX6_asksBack_58 : decode cX6_asksBack 58 = .ok (.aload_n 0, 1) := by decide +kernel
theorem dX6_asksBack_59 : decode cX6_asksBack 59 = .ok (.iload_n 3, 1) := by decide +kernel
theorem dX6_asksBack_60 : decode cX6_asksBack 60 = .ok (.invokevirtual 76, 3) := by decide +kernel
theorem dX6_asksBack_63 : decode cX6_asksBack 63 = .ok (.goto 4, 3) := by decide +kernel
theorem dX6_asksBack_66 : decode cX6_asksBack 66 = .ok (.iload_n 2, 1) := by decide +kernel
theorem dX6_asksBack_67 : decode cX6_asksBack 67 = .ok (.istore 4, 2) := by decide +kernel
theorem dX6_asksBack_69 : decode cX6_asksBack 69 = .ok (.aload_n 0, 1) := by decide +kernel
theorem dX6_asksBack_70 : decode cX6_asksBack 70 = .ok (.iload_n 3, 1) := by decide +kernel
theorem dX6_asksBack_71 : decode cX6_asksBack 71 = .ok (.iload 4, 2) := by decide +kernel
theorem dX6_asksBack_73 : decode cX6_asksBack 73 = .ok (.invokevirtual 92, 3) := by decide +kernel
theorem dX6_asksBack_76 : decode cX6_asksBack 76 = .ok (.iload_n 2, 1) := by decide +kernel
theorem dX6_asksBack_77 : decode cX6_asksBack 77 = .ok (.iload 4, 2) := by decide +kernel
theorem dX6_asksBack_79 : decode cX6_asksBack 79 = .ok (.isub, 1) := by decide +kernel
theorem dX6_asksBack_80 : decode cX6_asksBack 80 = .ok (.istore_n 2, 1) := by decide +kernel
theorem dX6_asksBack_81 : decode cX6_asksBack 81 = .ok (.goto (-79), 3) := by decide +kernel
theorem dX6_asksBack_84 : decode cX6_asksBack 84 = .ok (.return_, 1) := by decide +kernel
set_option maxRecDepth 20000 in
theorem ggX6_starts_X6_free : GoodIn wsX6_starts wsX6_free := goodIn_r _ [6, 1, 7, 8, 9, 5, 10, 11, 12, 13, 14, 66, 67, 68, 69, 70, 71, 72, 73, 74, 75, 76, 77, 78] (by decide +kernel) (by decide +kernel)
set_option maxRecDepth 20000 in
theorem gX6_starts_X6_free : GoodIn wsX6_starts (wsV RX6 96 RX6 yX6_free wsX6_free) := goodIn_app (goodIn_of _ (by decide +kernel)) ggX6_starts_X6_free
set_option maxRecDepth 20000 in
theorem ggX6_starts_X6_needs : GoodIn wsX6_starts wsX6_needs := goodIn_r _ [18, 11, 12, 13, 5, 14, 1, 19, 20, 21, 22, 23, 24, 66, 67, 68, 69, 70, 71, 72, 73, 74, 75, 76, 77, 78] (by decide +kernel) (by decide +kernel)
set_option maxRecDepth 20000 in
theorem gX6_starts_X6_needs : GoodIn wsX6_starts (wsV RX6 73 RX6 yX6_needs wsX6_needs) := goodIn_app (goodIn_of _ (by decide +kernel)) ggX6_starts_X6_needs
set_option maxRecDepth 20000 in
theorem ggX6_starts_X6_wants : GoodIn wsX6_starts wsX6_wants := goodIn_r _ [28, 11, 12, 13, 5, 14, 1, 29, 30, 31, 19, 20, 21, 22, 23, 24, 66, 67, 68, 69, 70, 71, 72, 73, 74, 75, 76, 77, 78] (by decide +kernel) (by decide +kernel)
set_option maxRecDepth 20000 in
theorem gX6_starts_X6_wants : GoodIn wsX6_starts (wsV RX6 99 RX6 yX6_wants wsX6_wants) := goodIn_app (goodIn_of _ (by decide +kernel)) ggX6_starts_X6_wants
set_option maxRecDepth 20000 in
theorem ggX6_starts_X6_granted : GoodIn wsX6_starts wsX6_granted := goodIn_r _ [10, 1, 11, 12, 13, 5, 14, 66, 67, 68, 69, 70, 71, 72, 73, 74, 75, 76, 77, 78] (by decide +kernel) (by decide +kernel)
set_option maxRecDepth 20000 in
theorem gX6_starts_X6_granted : GoodIn wsX6_starts (wsV RX6 65 RX6 yX6_granted wsX6_granted) := goodIn_app (goodIn_of _ (by decide +kernel)) ggX6_starts_X6_granted
set_option maxRecDepth 20000 in
theorem ggX6_starts_X6_spares : GoodIn wsX6_starts wsX6_spares := goodIn_r _ [35, 1, 36, 37, 38, 5, 39, 40, 41, 42, 43, 11, 12, 13, 14, 15, 16, 17, 18, 19, 20, 21, 22, 23, 24, 66, 67, 68, 69, 70, 71, 72, 73, 74, 75, 76, 77, 78] (by decide +kernel) (by decide +kernel)
set_option maxRecDepth 20000 in
theorem gX6_starts_X6_spares : GoodIn wsX6_starts (wsV RX6 102 RX6 yX6_spares wsX6_spares) := goodIn_app (goodIn_of _ (by decide +kernel)) ggX6_starts_X6_spares
set_option maxRecDepth 20000 in
theorem ggX6_starts_X6_asksBack : GoodIn wsX6_starts wsX6_asksBack := goodIn_r _ [47, 1, 36, 37, 38, 5, 39, 40, 41, 42, 43, 11, 12, 13, 14, 15, 16, 17, 18, 19, 20, 21, 22, 23, 24, 48, 49, 50, 51, 52, 53, 54, 55, 56, 57, 58, 59, 60, 61, 29, 30, 31, 62, 63, 64, 65, 66, 67, 68, 69, 70, 71, 72, 73, 74, 75, 76, 77, 78] (by decide +kernel) (by decide +kernel)
set_option maxRecDepth 20000 in
theorem gX6_starts_X6_asksBack : GoodIn wsX6_starts (wsV RX6 105 RX6 yX6_asksBack wsX6_asksBack) := goodIn_app (goodIn_of _ (by decide +kernel)) ggX6_starts_X6_asksBack
set_option maxRecDepth 20000 in
theorem ggX6_starts_X6_sets : GoodIn wsX6_starts wsX6_sets := goodIn_r _ [65, 1, 66, 67, 68, 69, 70, 71, 72, 73, 74, 75, 76, 77, 78] (by decide +kernel) (by decide +kernel)
set_option maxRecDepth 20000 in
theorem gX6_starts_X6_sets : GoodIn wsX6_starts (wsV RX6 88 RX6 yX6_sets wsX6_sets) := goodIn_app (goodIn_of _ (by decide +kernel)) ggX6_starts_X6_sets
set_option maxRecDepth 20000 in
theorem ggX6_starts_X6_works : GoodIn wsX6_starts wsX6_works := goodIn_r _ [55, 11, 12, 13, 5, 14, 1, 56, 57, 58, 59, 60, 61, 29, 30, 31, 19, 20, 21, 22, 23, 24, 66, 67, 68, 69, 70, 71, 72, 73, 74, 75, 76, 77, 78] (by decide +kernel) (by decide +kernel)
set_option maxRecDepth 20000 in
theorem gX6_starts_X6_works : GoodIn wsX6_starts (wsV RX6 85 RX6 yX6_works wsX6_works) := goodIn_app (goodIn_of _ (by decide +kernel)) ggX6_starts_X6_works
theorem dX6_starts_0 : decode cX6_starts 0 = .ok (.aload_n 0, 1) := by decide +kernel
theorem dX6_starts_1 : decode cX6_starts 1 = .ok (.invokevirtual 96, 3) := by decide +kernel
theorem dX6_starts_4 : decode cX6_starts 4 = .ok (.istore_n 2, 1) := by decide +kernel
theorem dX6_starts_5 : decode cX6_starts 5 = .ok (.aload_n 0, 1) := by decide +kernel
theorem dX6_starts_6 : decode cX6_starts 6 = .ok (.iload_n 1, 1) := by decide +kernel
theorem dX6_starts_7 : decode cX6_starts 7 = .ok (.invokevirtual 73, 3) := by decide +kernel
theorem dX6_starts_10 : decode cX6_starts 10 = .ok (.istore_n 3, 1) := by decide +kernel
theorem dX6_starts_11 : decode cX6_starts 11 = .ok (.iload_n 3, 1) := by decide +kernel
theorem dX6_starts_12 : decode cX6_starts 12 = .ok (.istore 4, 2) := by decide +kernel
theorem dX6_starts_14 : decode cX6_starts 14 = .ok (.iload_n 2, 1) := by decide +kernel
theorem dX6_starts_15 : decode cX6_starts 15 = .ok (.iload_n 3, 1) := by decide +kernel
theorem dX6_starts_16 : decode cX6_starts 16 = .ok (.if_icmp .lt 26, 3) := by decide +kernel
theorem dX6_starts_19 : decode cX6_starts 19 = .ok (.iload_n 2, 1) := by decide +kernel
theorem dX6_starts_20 : decode cX6_starts 20 = .ok (.aload_n 0, 1) := by decide +kernel
theorem dX6_starts_21 : decode cX6_starts 21 = .ok (.iload_n 1, 1) := by decide +kernel
theorem dX6_starts_22 : decode cX6_starts 22 = .ok (.invokevirtual 99, 3) := by decide +kernel
theorem dX6_starts_25 : decode cX6_starts 25 = .ok (.if_icmp .ge 7, 3) := by decide +kernel
theorem dX6_starts_28 : decode cX6_starts 28 = .ok (.iload_n 2, 1) := by decide +kernel
theorem dX6_starts_29 : decode cX6_starts 29 = .ok (.goto 8, 3) := by decide +kernel
theorem dX6_starts_32 : decode cX6_starts 32 = .ok (.aload_n 0, 1) := by decide +kernel
theorem dX6_starts_33 : decode cX6_starts 33 = .ok (.iload_n 1, 1) := by decide +kernel
theorem dX6_starts_34 : decode cX6_starts 34 = .ok (.invokevirtual 99, 3) := by decide +kernel
theorem dX6_starts_37 : decode cX6_starts 37 = .ok (.istore 4, 2) := by decide +kernel
theorem dX6_starts_39 : decode cX6_starts 39 = .ok (.goto 48, 3) := by decide +kernel
theorem dX6_starts_42 : decode cX6_starts 42 = .ok (.aload_n 0, 1) := by decide +kernel
theorem dX6_starts_43 : decode cX6_starts 43 = .ok (.getfield 7, 3) := by decide +kernel
theorem dX6_starts_46 : decode cX6_starts 46 = .ok (.iconst 2, 1) := by decide +kernel
theorem dX6_starts_47 : decode cX6_starts 47 = .ok (.iaload, 1) := by decide +kernel
theorem dX6_starts_48 : decode cX6_starts 48 = .ok (.iconst 1, 1) := by decide +kernel
theorem dX6_starts_49 : decode cX6_starts 49 = .ok (.if_icmp .ne 36, 3) := by decide +kernel
theorem dX6_starts_52 : decode cX6_starts 52 = .ok (.aload_n 0, 1) := by decide +kernel
theorem dX6_starts_53 : decode cX6_starts 53 = .ok (.invokevirtual 65, 3) := by decide +kernel
theorem dX6_starts_56 : decode cX6_starts 56 = .ok (.aload_n 0, 1) := by decide +kernel
theorem dX6_starts_57 : decode cX6_starts 57 = .ok (.getfield 7, 3) := by decide +kernel
theorem dX6_starts_60 : decode cX6_starts 60 = .ok (.iconst 0, 1) := by decide +kernel
theorem dX6_starts_61 : decode cX6_starts 61 = .ok (.iaload, 1) := by decide +kernel
theorem dX6_starts_62 : decode cX6_starts 62 = .ok (.if_icmp .gt 23, 3) := by decide +kernel
theorem dX6_starts_65 : decode cX6_starts 65 = .ok (.iload_n 2, 1) := by decide +kernel
theorem dX6_starts_66 : decode cX6_starts 66 = .ok (.aload_n 0, 1) := by decide +kernel
theorem dX6_starts_67 : decode cX6_starts 67 = .ok (.invokevirtual 102, 3) := by decide +kernel
theorem dX6_starts_70 : decode cX6_starts 70 = .ok (.iadd, 1) := by decide +kernel
theorem dX6_starts_71 : decode cX6_starts 71 = .ok (.iload_n 3, 1) := by decide +kernel
theorem dX6_starts_72 : decode cX6_starts 72 = .ok (.if_icmp .lt 13, 3) := by decide +kernel
theorem dX6_starts_75 : decode cX6_starts 75 = .ok (.aload_n 0, 1) := by decide +kernel
theorem dX6_starts_76 : decode cX6_starts 76 = .ok (.iload_n 3, 1) := by decide +kernel
theorem dX6_starts_77 : decode cX6_starts 77 = .ok (.iload_n 2, 1) := by decide +kernel
theorem dX6_starts_78 : decode cX6_starts 78 = .ok (.isub, 1) := by decide +kernel
theorem dX6_starts_79 : decode cX6_starts 79 = .ok (.invokevirtual 105, 3) := by decide +kernel
theorem dX6_starts_82 : decode cX6_starts 82 = .ok (.goto 5, 3) := by decide +kernel
theorem dX6_starts_85 : decode cX6_starts 85 = .ok (.iconst 0, 1) := by decide +kernel
theorem dX6_starts_86 : decode cX6_starts 86 = .ok (.ireturn, 1) := by decide +kernel
theorem dX6_starts_87 : decode cX6_starts 87 = .ok (.aload_n 0, 1) := by decide +kernel
theorem dX6_starts_88 : decode cX6_starts 88 = .ok (.iload_n 1, 1) := by decide +kernel
theorem dX6_starts_89 : decode cX6_starts 89 = .ok (.iconst 3, 1) := by decide +kernel
theorem dX6_starts_90 : decode cX6_starts 90 = .ok (.iconst 1, 1) := by decide +kernel
theorem dX6_starts_91 : decode cX6_starts 91 = .ok (.invokevirtual 88, 3) := by decide +kernel
theorem dX6_starts_94 : decode cX6_starts 94 = .ok (.aload_n 0, 1) := by decide +kernel
theorem dX6_starts_95 : decode cX6_starts 95 = .ok (.iload_n 1, 1) := by decide +kernel
theorem dX6_starts_96 : decode cX6_starts 96 = .ok (.iconst 4, 1) := by decide +kernel
theorem dX6_starts_97 : decode cX6_starts 97 = .ok (.iload 4, 2) := by decide +kernel
theorem dX6_starts_99 : decode cX6_starts 99 = .ok (.invokevirtual 88, 3) := by decide +kernel
theorem dX6_starts_102 : decode cX6_starts 102 = .ok (.aload_n 0, 1) := by decide +kernel
theorem dX6_starts_103 : decode cX6_starts 103 = .ok (.iload_n 1, 1) := by decide +kernel
theorem dX6_starts_104 : decode cX6_starts 104 = .ok (.iconst 5, 1) := by decide +kernel
theorem dX6_starts_105 : decode cX6_starts 105 = .ok (.aload_n 0, 1) := by decide +kernel
theorem dX6_starts_106 : decode cX6_starts 106 = .ok (.iload_n 1, 1) := by decide +kernel
theorem dX6_starts_107 : decode cX6_starts 107 = .ok (.iload 4, 2) := by decide +kernel
theorem dX6_starts_109 : decode cX6_starts 109 = .ok (.invokevirtual 85, 3) := by decide +kernel
theorem dX6_starts_112 : decode cX6_starts 112 = .ok (.invokevirtual 88, 3) := by decide +kernel
theorem dX6_starts_115 : decode cX6_starts 115 = .ok (.aload_n 0, 1) := by decide +kernel
theorem dX6_starts_116 : decode cX6_starts 116 = .ok (.invokevirtual 65, 3) := by decide +kernel
theorem dX6_starts_119 : decode cX6_starts 119 = .ok (.istore 5, 2) := by decide +kernel
theorem dX6_starts_121 : decode cX6_starts 121 = .ok (.aload_n 0, 1) := by decide +kernel
theorem dX6_starts_122 : decode cX6_starts 122 = .ok (.getfield 7, 3) := by decide +kernel
theorem dX6_starts_125 : decode cX6_starts 125 = .ok (.iconst 5, 1) := by decide +kernel
theorem dX6_starts_126 : decode cX6_starts 126 = .ok (.iload 5, 2) := by decide +kernel
theorem dX6_starts_128 : decode cX6_starts 128 = .ok (.aload_n 0, 1) := by decide +kernel
theorem dX6_starts_129 : decode cX6_starts 129 = .ok (.getfield 7, 3) := by decide +kernel
theorem dX6_starts_132 : decode cX6_starts 132 = .ok (.iconst 5, 1) := by decide +kernel
theorem dX6_starts_133 : decode cX6_starts 133 = .ok (.iaload, 1) := by decide +kernel
theorem dX6_starts_134 : decode cX6_starts 134 = .ok (.if_icmp .le 8, 3) := by decide +kernel
theorem dX6_starts_137 : decode cX6_starts 137 = .ok (.iload 5, 2) := by decide +kernel
theorem dX6_starts_139 : decode cX6_starts 139 = .ok (.goto 9, 3) := by decide +kernel
theorem dX6_starts_142 : decode cX6_starts 142 = .ok (.aload_n 0, 1) := by decide +kernel
theorem dX6_starts_143 : decode cX6_starts 143 = .ok (.getfield 7, 3) := by decide +kernel
theorem dX6_starts_146 : decode cX6_starts 146 = .ok (.iconst 5, 1) := by decide +kernel
theorem dX6_starts_147 : decode cX6_starts 147 = .ok (.iaload, 1) := by decide +kernel
theorem dX6_starts_148 : decode cX6_starts 148 = .ok (.iastore, 1) := by decide +kernel
theorem dX6_starts_149 : decode cX6_starts 149 = .ok (.iconst 1, 1) := by decide +kernel
theorem dX6_starts_150 : decode cX6_starts 150 = .ok (.ireturn, 1) := by decide +kernel
set_option maxRecDepth 20000 in
theorem ggX6_goesThrough_X6_ranked : GoodIn wsX6_goesThrough wsX6_ranked := goodIn_r _ [5, 6, 7, 8, 9, 4, 10, 11, 12, 13, 14, 15, 16, 17, 18, 19, 20, 21, 22, 23, 24, 25, 26, 27, 28, 29, 30, 31, 32, 82, 83, 84, 85, 86, 87, 88, 89, 90, 91, 92, 93, 94] (by decide +kernel) (by decide +kernel)
set_option maxRecDepth 20000 in
theorem gX6_goesThrough_X6_ranked : GoodIn wsX6_goesThrough (wsV RX6 109 RX6 yX6_ranked wsX6_ranked) := goodIn_app (goodIn_of _ (by decide +kernel)) ggX6_goesThrough_X6_ranked
set_option maxRecDepth 20000 in
theorem ggX6_goesThrough_X6_starts : GoodIn wsX6_goesThrough wsX6_starts := goodIn_r _ [36, 6, 37, 38, 39, 4, 40, 41, 42, 43, 44, 11, 12, 13, 14, 23, 24, 25, 26, 27, 28, 29, 30, 31, 32, 45, 46, 47, 48, 49, 50, 51, 52, 53, 54, 55, 56, 57, 58, 59, 7, 8, 9, 10, 60, 61, 62, 63, 64, 65, 66, 67, 68, 69, 70, 71, 72, 73, 74, 75, 76, 77, 78, 79, 80, 81, 82, 83, 84, 85, 86, 87, 88, 89, 90, 91, 92, 93, 94] (by decide +kernel) (by decide +kernel)
set_option maxRecDepth 20000 in
theorem gX6_goesThrough_X6_starts : GoodIn wsX6_goesThrough (wsV RX6 112 RX6 yX6_starts wsX6_starts) := goodIn_app (goodIn_of _ (by decide +kernel)) ggX6_goesThrough_X6_starts
theorem dX6_goesThrough_0 : decode cX6_goesThrough 0 = .ok (.aload_n 0, 1) := by decide +kernel
theorem dX6_goesThrough_1 : decode cX6_goesThrough 1 = .ok (.iconst 0, 1) := by decide +kernel
theorem dX6_goesThrough_2 : decode cX6_goesThrough 2 = .ok (.invokevirtual 109, 3) := by decide +kernel
theorem dX6_goesThrough_5 : decode cX6_goesThrough 5 = .ok (.istore_n 1, 1) := by decide +kernel
theorem dX6_goesThrough_6 : decode cX6_goesThrough 6 = .ok (.iload_n 1, 1) := by decide +kernel
theorem dX6_goesThrough_7 : decode cX6_goesThrough 7 = .ok (.bipush (-5), 2) := by decide +kernel
theorem dX6_goesThrough_9 : decode cX6_goesThrough 9 = .ok (.if_icmp .eq 20, 3) := by decide +kernel
theorem dX6_goesThrough_12 : decode cX6_goesThrough 12 = .ok (.aload_n 0, 1) := by decide +kernel
theorem dX6_goesThrough_13 : decode cX6_goesThrough 13 = .ok (.iload_n 1, 1) := by decide +kernel
theorem dX6_goesThrough_14 : decode cX6_goesThrough 14 = .ok (.invokevirtual 112, 3) := by decide +kernel
theorem dX6_goesThrough_17 : decode cX6_goesThrough 17 = .ok (.ifCond .eq 12, 3) := by decide +kernel
theorem dX6_goesThrough_20 : decode cX6_goesThrough 20 = .ok (.aload_n 0, 1) := by decide +kernel
theorem dX6_goesThrough_21 : decode cX6_goesThrough 21 = .ok (.iconst 0, 1) := by decide +kernel
theorem dX6_goesThrough_22 : decode cX6_goesThrough 22 = .ok (.invokevirtual 109, 3) := by decide +kernel
theorem dX6_goesThrough_25 : decode cX6_goesThrough 25 = .ok (.istore_n 1, 1) := by decide +kernel
theorem dX6_goesThrough_26 : decode cX6_goesThrough 26 = .ok (.goto (-20), 3) := by decide +kernel
theorem dX6_goesThrough_29 : decode cX6_goesThrough 29 = .ok (.return_, 1) := by decide +kernel
set_option maxRecDepth 20000 in
theorem ggX6_ends_X6_sets : GoodIn wsX6_ends wsX6_sets := goodIn_r _ [5, 6, 7, 8, 9, 10, 11, 12, 13, 14, 15, 16, 17, 18, 19] (by decide +kernel) (by decide +kernel)
set_option maxRecDepth 20000 in
theorem gX6_ends_X6_sets : GoodIn wsX6_ends (wsV RX6 88 RX6 yX6_sets wsX6_sets) := goodIn_app (goodIn_of _ (by decide +kernel)) ggX6_ends_X6_sets
theorem dX6_ends_0 : decode cX6_ends 0 = .ok (.aload_n 0, 1) := by decide +kernel
theorem dX6_ends_1 : decode cX6_ends 1 = .ok (.iload_n 1, 1) := by decide +kernel
theorem dX6_ends_2 : decode cX6_ends 2 = .ok (.iconst 3, 1) := by decide +kernel
theorem dX6_ends_3 : decode cX6_ends 3 = .ok (.iload_n 2, 1) := by decide +kernel
theorem dX6_ends_4 : decode cX6_ends 4 = .ok (.invokevirtual 88, 3) := by decide +kernel
theorem dX6_ends_7 : decode cX6_ends 7 = .ok (.aload_n 0, 1) := by decide +kernel
theorem dX6_ends_8 : decode cX6_ends 8 = .ok (.iload_n 1, 1) := by decide +kernel
theorem dX6_ends_9 : decode cX6_ends 9 = .ok (.iconst 4, 1) := by decide +kernel
theorem dX6_ends_10 : decode cX6_ends 10 = .ok (.iconst 0, 1) := by decide +kernel
theorem dX6_ends_11 : decode cX6_ends 11 = .ok (.invokevirtual 88, 3) := by decide +kernel
theorem dX6_ends_14 : decode cX6_ends 14 = .ok (.aload_n 0, 1) := by decide +kernel
theorem dX6_ends_15 : decode cX6_ends 15 = .ok (.iload_n 1, 1) := by decide +kernel
theorem dX6_ends_16 : decode cX6_ends 16 = .ok (.iconst 5, 1) := by decide +kernel
theorem dX6_ends_17 : decode cX6_ends 17 = .ok (.iconst 0, 1) := by decide +kernel
theorem dX6_ends_18 : decode cX6_ends 18 = .ok (.invokevirtual 88, 3) := by decide +kernel
theorem dX6_ends_21 : decode cX6_ends 21 = .ok (.return_, 1) := by decide +kernel
set_option maxRecDepth 20000 in
theorem ggX6_steps_X6_is : GoodIn wsX6_steps wsX6_is := goodIn_r _ [6, 7, 8, 9, 5, 10, 1, 90, 91, 92, 93, 94, 95, 96, 97, 98, 99, 100, 101, 102] (by decide +kernel) (by decide +kernel)
set_option maxRecDepth 20000 in
theorem gX6_steps_X6_is : GoodIn wsX6_steps (wsV RX6 69 RX6 yX6_is wsX6_is) := goodIn_app (goodIn_of _ (by decide +kernel)) ggX6_steps_X6_is
set_option maxRecDepth 20000 in
theorem ggX6_steps_X6_of : GoodIn wsX6_steps wsX6_of := goodIn_r _ [10, 1, 90, 91, 92, 93, 94, 95, 96, 97, 98, 99, 100, 101, 102] (by decide +kernel) (by decide +kernel)
set_option maxRecDepth 20000 in
theorem gX6_steps_X6_of : GoodIn wsX6_steps (wsV RX6 58 RX6 yX6_of wsX6_of) := goodIn_app (goodIn_of _ (by decide +kernel)) ggX6_steps_X6_of
set_option maxRecDepth 20000 in
theorem ggX6_steps_X6_sets : GoodIn wsX6_steps wsX6_sets := goodIn_r _ [14, 1, 90, 91, 92, 93, 94, 95, 96, 97, 98, 99, 100, 101, 102] (by decide +kernel) (by decide +kernel)
set_option maxRecDepth 20000 in
theorem gX6_steps_X6_sets : GoodIn wsX6_steps (wsV RX6 88 RX6 yX6_sets wsX6_sets) := goodIn_app (goodIn_of _ (by decide +kernel)) ggX6_steps_X6_sets
set_option maxRecDepth 20000 in
theorem ggX6_steps_X6_ends : GoodIn wsX6_steps wsX6_ends := goodIn_r _ [18, 11, 12, 13, 5, 14, 1, 90, 91, 92, 93, 94, 95, 96, 97, 98, 99, 100, 101, 102] (by decide +kernel) (by decide +kernel)
set_option maxRecDepth 20000 in
theorem gX6_steps_X6_ends : GoodIn wsX6_steps (wsV RX6 116 RX6 yX6_ends wsX6_ends) := goodIn_app (goodIn_of _ (by decide +kernel)) ggX6_steps_X6_ends
set_option maxRecDepth 20000 in
theorem ggX6_steps_X6_goesThrough : GoodIn wsX6_steps wsX6_goesThrough := goodIn_r _ [22, 23, 24, 25, 5, 26, 1, 2, 3, 4, 6, 7, 8, 9, 10, 27, 28, 29, 30, 31, 32, 33, 34, 35, 36, 37, 38, 39, 40, 41, 42, 43, 44, 45, 46, 47, 48, 49, 50, 51, 52, 53, 54, 55, 56, 57, 58, 59, 60, 61, 62, 63, 64, 65, 66, 67, 68, 69, 70, 71, 72, 73, 74, 75, 76, 77, 78, 79, 80, 81, 82, 83, 84, 85, 86, 87, 88, 89, 11, 12, 13, 14, 90, 91, 92, 93, 94, 95, 96, 97, 98, 99, 100, 101, 102] (by decide +kernel) (by decide +kernel)
set_option maxRecDepth 20000 in
theorem gX6_steps_X6_goesThrough : GoodIn wsX6_steps (wsV RX6 119 RX6 yX6_goesThrough wsX6_goesThrough) := goodIn_app (goodIn_of _ (by decide +kernel)) ggX6_steps_X6_goesThrough
theorem dX6_steps_0 : decode cX6_steps 0 = .ok (.iconst 0, 1) := by decide +kernel
theorem dX6_steps_1 : decode cX6_steps 1 = .ok (.istore_n 1, 1) := by decide +kernel
theorem dX6_steps_2 : decode cX6_steps 2 = .ok (.iconst 0, 1) := by decide +kernel
theorem dX6_steps_3 : decode cX6_steps 3 = .ok (.istore_n 2, 1) := by decide +kernel
theorem dX6_steps_4 : decode cX6_steps 4 = .ok (.iload_n 2, 1) := by decide +kernel
theorem dX6_steps_5 : decode cX6_steps 5 = .ok (.aload_n 0, 1) := by decide +kernel
theorem dX6_steps_6 : decode cX6_steps 6 = .ok (.getfield 7, 3) := by decide +kernel
theorem dX6_steps_9 : decode cX6_steps 9 = .ok (.iconst 4, 1) := by decide +kernel
theorem dX6_steps_10 : decode cX6_steps 10 = .ok (.iaload, 1) := by decide +kernel
theorem dX6_steps_11 : decode cX6_steps 11 = .ok (.if_icmp .ge 136, 3) := by decide +kernel
theorem dX6_steps_14 : decode cX6_steps 14 = .ok (.aload_n 0, 1) := by decide +kernel
theorem dX6_steps_15 : decode cX6_steps 15 = .ok (.iload_n 2, 1) := by decide +kernel
theorem dX6_steps_16 : decode cX6_steps 16 = .ok (.iconst 1, 1) := by decide +kernel
theorem dX6_steps_17 : decode cX6_steps 17 = .ok (.invokevirtual 69, 3) := by decide +kernel
theorem dX6_steps_20 : decode cX6_steps 20 = .ok (.ifCond .ne 7, 3) := by decide +kernel
theorem dX6_steps_23 : decode cX6_steps 23 = .ok (.iconst 0, 1) := by decide +kernel
theorem dX6_steps_24 : decode cX6_steps 24 = .ok (.goto 33, 3) := by decide +kernel
theorem dX6_steps_27 : decode cX6_steps 27 = .ok (.aload_n 0, 1) := by decide +kernel
theorem dX6_steps_28 : decode cX6_steps 28 = .ok (.iload_n 2, 1) := by decide +kernel
theorem dX6_steps_29 : decode cX6_steps 29 = .ok (.iconst 5, 1) := by decide +kernel
theorem dX6_steps_30 : decode cX6_steps 30 = .ok (.invokevirtual 58, 3) := by decide +kernel
theorem dX6_steps_33 : decode cX6_steps 33 = .ok (.aload_n 0, 1) := by decide +kernel
theorem dX6_steps_34 : decode cX6_steps 34 = .ok (.getfield 7, 3) := by decide +kernel
theorem dX6_steps_37 : decode cX6_steps 37 = .ok (.iconst 3, 1) := by decide +kernel
theorem dX6_steps_38 : decode cX6_steps 38 = .ok (.iaload, 1) := by decide +kernel
theorem dX6_steps_39 : decode cX6_steps 39 = .ok (.if_icmp .ge 12, 3) := by decide +kernel
theorem dX6_steps_42 : decode cX6_steps 42 = .ok (.aload_n 0, 1) := by decide +kernel
theorem dX6_steps_43 : decode cX6_steps 43 = .ok (.iload_n 2, 1) := by decide +kernel
theorem dX6_steps_44 : decode cX6_steps 44 = .ok (.iconst 5, 1) := by decide +kernel
theorem dX6_steps_45 : decode cX6_steps 45 = .ok (.invokevirtual 58, 3) := by decide +kernel
theorem dX6_steps_48 : decode cX6_steps 48 = .ok (.goto 9, 3) := by decide +kernel
theorem dX6_steps_51 : decode cX6_steps 51 = .ok (.aload_n 0, 1) := by decide +kernel
theorem dX6_steps_52 : decode cX6_steps 52 = .ok (.getfield 7, 3) := by decide +kernel
theorem dX6_steps_55 : decode cX6_steps 55 = .ok (.iconst 3, 1) := by decide +kernel
theorem dX6_steps_56 : decode cX6_steps 56 = .ok (.iaload, 1) := by decide +kernel
theorem dX6_steps_57 : decode cX6_steps 57 = .ok (.istore_n 3, 1) := by decide +kernel
theorem dX6_steps_58 : decode cX6_steps 58 = .ok (.aload_n 0, 1) := by decide +kernel
theorem dX6_steps_59 : decode cX6_steps 59 = .ok (.iload_n 2, 1) := by decide +kernel
theorem dX6_steps_60 : decode cX6_steps 60 = .ok (.bipush 6, 2) := by decide +kernel
theorem dX6_steps_62 : decode cX6_steps 62 = .ok (.aload_n 0, 1) := by decide +kernel
theorem dX6_steps_63 : decode cX6_steps 63 = .ok (.iload_n 2, 1) := by decide +kernel
theorem dX6_steps_64 : decode cX6_steps 64 = .ok (.bipush 6, 2) := by decide +kernel
theorem dX6_steps_66 : decode cX6_steps 66 = .ok (.invokevirtual 58, 3) := by decide +kernel
theorem dX6_steps_69 : decode cX6_steps 69 = .ok (.aload_n 0, 1) := by decide +kernel
theorem dX6_steps_70 : decode cX6_steps 70 = .ok (.iload_n 2, 1) := by decide +kernel
theorem dX6_steps_71 : decode cX6_steps 71 = .ok (.iconst 0, 1) := by decide +kernel
theorem dX6_steps_72 : decode cX6_steps 72 = .ok (.invokevirtual 69, 3) := by decide +kernel
theorem dX6_steps_75 : decode cX6_steps 75 = .ok (.ifCond .eq 7, 3) := by decide +kernel
theorem dX6_steps_78 : decode cX6_steps 78 = .ok (.iconst 1, 1) := by decide +kernel
theorem dX6_steps_79 : decode cX6_steps 79 = .ok (.goto 4, 3) := by decide +kernel
theorem dX6_steps_82 : decode cX6_steps 82 = .ok (.iconst 0, 1) := by decide +kernel
theorem dX6_steps_83 : decode cX6_steps 83 = .ok (.iadd, 1) := by decide +kernel
theorem dX6_steps_84 : decode cX6_steps 84 = .ok (.invokevirtual 88, 3) := by decide +kernel
theorem dX6_steps_87 : decode cX6_steps 87 = .ok (.aload_n 0, 1) := by decide +kernel
theorem dX6_steps_88 : decode cX6_steps 88 = .ok (.iload_n 2, 1) := by decide +kernel
theorem dX6_steps_89 : decode cX6_steps 89 = .ok (.bipush 7, 2) := by decide +kernel
theorem dX6_steps_91 : decode cX6_steps 91 = .ok (.aload_n 0, 1) := by decide +kernel
theorem dX6_steps_92 : decode cX6_steps 92 = .ok (.iload_n 2, 1) := by decide +kernel
theorem dX6_steps_93 : decode cX6_steps 93 = .ok (.bipush 7, 2) := by decide +kernel
theorem dX6_steps_95 : decode cX6_steps 95 = .ok (.invokevirtual 58, 3) := by decide +kernel
theorem dX6_steps_98 : decode cX6_steps 98 = .ok (.aload_n 0, 1) := by decide +kernel
theorem dX6_steps_99 : decode cX6_steps 99 = .ok (.iload_n 2, 1) := by decide +kernel
theorem dX6_steps_100 : decode cX6_steps 100 = .ok (.iconst 1, 1) := by decide +kernel
theorem dX6_steps_101 : decode cX6_steps 101 = .ok (.invokevirtual 69, 3) := by decide +kernel
theorem dX6_steps_104 : decode cX6_steps 104 = .ok (.ifCond .eq 7, 3) := by decide +kernel
theorem dX6_steps_107 : decode cX6_steps 107 = .ok (.iconst 1, 1) := by decide +kernel
theorem dX6_steps_108 : decode cX6_steps 108 = .ok (.goto 4, 3) := by decide +kernel
theorem dX6_steps_111 : decode cX6_steps 111 = .ok (.iconst 0, 1) := by decide +kernel
theorem dX6_steps_112 : decode cX6_steps 112 = .ok (.iadd, 1) := by decide +kernel
theorem dX6_steps_113 : decode cX6_steps 113 = .ok (.invokevirtual 88, 3) := by decide +kernel
theorem dX6_steps_116 : decode cX6_steps 116 = .ok (.aload_n 0, 1) := by decide +kernel
theorem dX6_steps_117 : decode cX6_steps 117 = .ok (.iload_n 2, 1) := by decide +kernel
theorem dX6_steps_118 : decode cX6_steps 118 = .ok (.iconst 5, 1) := by decide +kernel
theorem dX6_steps_119 : decode cX6_steps 119 = .ok (.aload_n 0, 1) := by decide +kernel
theorem dX6_steps_120 : decode cX6_steps 120 = .ok (.iload_n 2, 1) := by decide +kernel
theorem dX6_steps_121 : decode cX6_steps 121 = .ok (.iconst 5, 1) := by decide +kernel
theorem dX6_steps_122 : decode cX6_steps 122 = .ok (.invokevirtual 58, 3) := by decide +kernel
theorem dX6_steps_125 : decode cX6_steps 125 = .ok (.iload_n 3, 1) := by decide +kernel
theorem dX6_steps_126 : decode cX6_steps 126 = .ok (.isub, 1) := by decide +kernel
theorem dX6_steps_127 : decode cX6_steps 127 = .ok (.invokevirtual 88, 3) := by decide +kernel
theorem dX6_steps_130 : decode cX6_steps 130 = .ok (.aload_n 0, 1) := by decide +kernel
theorem dX6_steps_131 : decode cX6_steps 131 = .ok (.getfield 7, 3) := by decide +kernel
theorem dX6_steps_134 : decode cX6_steps 134 = .ok (.bipush 7, 2) := by decide +kernel
theorem dX6_steps_136 : decode cX6_steps 136 = .ok (.dup2, 1) := by decide +kernel
theorem dX6_steps_137 : decode cX6_steps 137 = .ok (.iaload, 1) := by decide +kernel
theorem dX6_steps_138 : decode cX6_steps 138 = .ok (.iload_n 3, 1) := by decide +kernel
theorem dX6_steps_139 : decode cX6_steps 139 = .ok (.iadd, 1) := by decide +kernel
theorem dX6_steps_140 : decode cX6_steps 140 = .ok (.iastore, 1) := by decide +kernel
theorem dX6_steps_141 : decode cX6_steps 141 = .ok (.iinc 2 1, 3) := by decide +kernel
theorem dX6_steps_144 : decode cX6_steps 144 = .ok (.goto (-140), 3) := by decide +kernel
theorem dX6_steps_147 : decode cX6_steps 147 = .ok (.iconst 0, 1) := by decide +kernel
theorem dX6_steps_148 : decode cX6_steps 148 = .ok (.istore_n 2, 1) := by decide +kernel
theorem dX6_steps_149 : decode cX6_steps 149 = .ok (.iload_n 2, 1) := by decide +kernel
theorem dX6_steps_150 : decode cX6_steps 150 = .ok (.aload_n 0, 1) := by decide +kernel
theorem dX6_steps_151 : decode cX6_steps 151 = .ok (.getfield 7, 3) := by decide +kernel
theorem dX6_steps_154 : decode cX6_steps 154 = .ok (.iconst 4, 1) := by decide +kernel
theorem dX6_steps_155 : decode cX6_steps 155 = .ok (.iaload, 1) := by decide +kernel
theorem dX6_steps_156 : decode cX6_steps 156 = .ok (.if_icmp .ge 36, 3) := by decide +kernel
theorem dX6_steps_159 : decode cX6_steps 159 = .ok (.aload_n 0, 1) := by decide +kernel
theorem dX6_steps_160 : decode cX6_steps 160 = .ok (.iload_n 2, 1) := by decide +kernel
theorem dX6_steps_161 : decode cX6_steps 161 = .ok (.iconst 1, 1) := by decide +kernel
theorem dX6_steps_162 : decode cX6_steps 162 = .ok (.invokevirtual 69, 3) := by decide +kernel
theorem dX6_steps_165 : decode cX6_steps 165 = .ok (.ifCond .eq 21, 3) := by decide +kernel
theorem dX6_steps_168 : decode cX6_steps 168 = .ok (.aload_n 0, 1) := by decide +kernel
theorem dX6_steps_169 : decode cX6_steps 169 = .ok (.iload_n 2, 1) := by decide +kernel
theorem dX6_steps_170 : decode cX6_steps 170 = .ok (.iconst 5, 1) := by decide +kernel
theorem dX6_steps_171 : decode cX6_steps 171 = .ok (.invokevirtual 58, 3) := by decide +kernel
theorem dX6_steps_174 : decode cX6_steps 174 = .ok (.ifCond .ne 12, 3) := by decide +kernel
theorem dX6_steps_177 : decode cX6_steps 177 = .ok (.aload_n 0, 1) := by decide +kernel
theorem dX6_steps_178 : decode cX6_steps 178 = .ok (.iload_n 2, 1) := by decide +kernel
theorem dX6_steps_179 : decode cX6_steps 179 = .ok (.iconst 2, 1) := by decide +kernel
theorem dX6_steps_180 : decode cX6_steps 180 = .ok (.invokevirtual 116, 3) := by decide +kernel
theorem dX6_steps_183 : decode cX6_steps 183 = .ok (.iinc 1 1, 3) := by decide +kernel
theorem dX6_steps_186 : decode cX6_steps 186 = .ok (.iinc 2 1, 3) := by decide +kernel
theorem dX6_steps_189 : decode cX6_steps 189 = .ok (.goto (-40), 3) := by decide +kernel
theorem dX6_steps_192 : decode cX6_steps 192 = .ok (.aload_n 0, 1) := by decide +kernel
theorem dX6_steps_193 : decode cX6_steps 193 = .ok (.getfield 7, 3) := by decide +kernel
theorem dX6_steps_196 : decode cX6_steps 196 = .ok (.bipush 6, 2) := by decide +kernel
theorem dX6_steps_198 : decode cX6_steps 198 = .ok (.dup2, 1) := by decide +kernel
theorem dX6_steps_199 : decode cX6_steps 199 = .ok (.iaload, 1) := by decide +kernel
theorem dX6_steps_200 : decode cX6_steps 200 = .ok (.iconst 1, 1) := by decide +kernel
theorem dX6_steps_201 : decode cX6_steps 201 = .ok (.iadd, 1) := by decide +kernel
theorem dX6_steps_202 : decode cX6_steps 202 = .ok (.iastore, 1) := by decide +kernel
theorem dX6_steps_203 : decode cX6_steps 203 = .ok (.iload_n 1, 1) := by decide +kernel
theorem dX6_steps_204 : decode cX6_steps 204 = .ok (.ifCond .le 7, 3) := by decide +kernel
theorem dX6_steps_207 : decode cX6_steps 207 = .ok (.aload_n 0, 1) := by decide +kernel
theorem dX6_steps_208 : decode cX6_steps 208 = .ok (.invokevirtual 119, 3) := by decide +kernel
theorem dX6_steps_211 : decode cX6_steps 211 = .ok (.iload_n 1, 1) := by decide +kernel
theorem dX6_steps_212 : decode cX6_steps 212 = .ok (.ireturn, 1) := by decide +kernel
set_option maxRecDepth 20000 in
theorem ggX6_isTable_X6_in : GoodIn wsX6_isTable wsX6_in := goodIn_r _ [5] (by decide +kernel) (by decide +kernel)
set_option maxRecDepth 20000 in
theorem gX6_isTable_X6_in : GoodIn wsX6_isTable (va_wsS RX6 54 yX6_in wsX6_in) := goodIn_app (goodIn_of _ (by decide +kernel)) ggX6_isTable_X6_in
theorem dX6_isTable_0 : decode cX6_isTable 0 = .ok (.iload_n 0, 1) := by decide +kernel
theorem dX6_isTable_1 : decode cX6_isTable 1 = .ok (.i2l, 1) := by decide +kernel
theorem dX6_isTable_2 : decode cX6_isTable 2 = .ok (.lconst 1, 1) := by decide +kernel
theorem dX6_isTable_3 : decode cX6_isTable 3 = .ok (.ldc2_w 122, 3) := by decide +kernel
theorem dX6_isTable_6 : decode cX6_isTable 6 = .ok (.invokestatic 54, 3) := by decide +kernel
theorem dX6_isTable_9 : decode cX6_isTable 9 = .ok (.ireturn, 1) := by decide +kernel
set_option maxRecDepth 20000 in
theorem ggX6_comes_X6_sets : GoodIn wsX6_comes wsX6_sets := goodIn_r _ [6, 1, 86, 87, 88, 89, 90, 91, 92, 93, 94, 95, 96, 97, 98] (by decide +kernel) (by decide +kernel)
set_option maxRecDepth 20000 in
theorem gX6_comes_X6_sets : GoodIn wsX6_comes (wsV RX6 88 RX6 yX6_sets wsX6_sets) := goodIn_app (goodIn_of _ (by decide +kernel)) ggX6_comes_X6_sets
set_option maxRecDepth 20000 in
theorem ggX6_comes_X6_goesThrough : GoodIn wsX6_comes wsX6_goesThrough := goodIn_r _ [10, 11, 12, 13, 5, 14, 1, 15, 16, 17, 18, 19, 20, 21, 22, 23, 24, 25, 26, 27, 28, 29, 30, 31, 32, 33, 34, 35, 36, 37, 38, 39, 40, 41, 42, 43, 44, 45, 46, 47, 48, 49, 50, 51, 52, 53, 54, 55, 56, 57, 58, 59, 60, 61, 62, 63, 64, 65, 66, 67, 68, 69, 70, 71, 72, 73, 74, 75, 76, 77, 78, 79, 80, 81, 82, 83, 84, 85, 2, 3, 4, 6, 86, 87, 88, 89, 90, 91, 92, 93, 94, 95, 96, 97, 98] (by decide +kernel) (by decide +kernel)
set_option maxRecDepth 20000 in
theorem gX6_comes_X6_goesThrough : GoodIn wsX6_comes (wsV RX6 119 RX6 yX6_goesThrough wsX6_goesThrough) := goodIn_app (goodIn_of _ (by decide +kernel)) ggX6_comes_X6_goesThrough
theorem dX6_comes_0 : decode cX6_comes 0 = .ok (.aload_n 0, 1) := by decide +kernel
theorem dX6_comes_1 : decode cX6_comes 1 = .ok (.getfield 7, 3) := by decide +kernel
theorem dX6_comes_4 : decode cX6_comes 4 = .ok (.iconst 4, 1) := by decide +kernel
theorem dX6_comes_5 : decode cX6_comes 5 = .ok (.iaload, 1) := by decide +kernel
theorem dX6_comes_6 : decode cX6_comes 6 = .ok (.istore 4, 2) := by decide +kernel
theorem dX6_comes_8 : decode cX6_comes 8 = .ok (.aload_n 0, 1) := by decide +kernel
theorem dX6_comes_9 : decode cX6_comes 9 = .ok (.getfield 7, 3) := by decide +kernel
theorem dX6_comes_12 : decode cX6_comes 12 = .ok (.iconst 4, 1) := by decide +kernel
theorem dX6_comes_13 : decode cX6_comes 13 = .ok (.dup2, 1) := by decide +kernel
theorem dX6_comes_14 : decode cX6_comes 14 = .ok (.iaload, 1) := by decide +kernel
theorem dX6_comes_15 : decode cX6_comes 15 = .ok (.iconst 1, 1) := by decide +kernel
theorem dX6_comes_16 : decode cX6_comes 16 = .ok (.iadd, 1) := by decide +kernel
theorem dX6_comes_17 : decode cX6_comes 17 = .ok (.iastore, 1) := by decide +kernel
theorem dX6_comes_18 : decode cX6_comes 18 = .ok (.aload_n 0, 1) := by decide +kernel
theorem dX6_comes_19 : decode cX6_comes 19 = .ok (.iload 4, 2) := by decide +kernel
theorem dX6_comes_21 : decode cX6_comes 21 = .ok (.iconst 0, 1) := by decide +kernel
theorem dX6_comes_22 : decode cX6_comes 22 = .ok (.iload_n 1, 1) := by decide +kernel
theorem dX6_comes_23 : decode cX6_comes 23 = .ok (.invokevirtual 88, 3) := by decide +kernel
theorem dX6_comes_26 : decode cX6_comes 26 = .ok (.aload_n 0, 1) := by decide +kernel
theorem dX6_comes_27 : decode cX6_comes 27 = .ok (.iload 4, 2) := by decide +kernel
theorem dX6_comes_29 : decode cX6_comes 29 = .ok (.iconst 1, 1) := by decide +kernel
theorem dX6_comes_30 : decode cX6_comes 30 = .ok (.iload_n 2, 1) := by decide +kernel
theorem dX6_comes_31 : decode cX6_comes 31 = .ok (.invokevirtual 88, 3) := by decide +kernel
theorem dX6_comes_34 : decode cX6_comes 34 = .ok (.aload_n 0, 1) := by decide +kernel
theorem dX6_comes_35 : decode cX6_comes 35 = .ok (.iload 4, 2) := by decide +kernel
theorem dX6_comes_37 : decode cX6_comes 37 = .ok (.iconst 2, 1) := by decide +kernel
theorem dX6_comes_38 : decode cX6_comes 38 = .ok (.iload_n 3, 1) := by decide +kernel
theorem dX6_comes_39 : decode cX6_comes 39 = .ok (.invokevirtual 88, 3) := by decide +kernel
theorem dX6_comes_42 : decode cX6_comes 42 = .ok (.aload_n 0, 1) := by decide +kernel
theorem dX6_comes_43 : decode cX6_comes 43 = .ok (.invokevirtual 119, 3) := by decide +kernel
theorem dX6_comes_46 : decode cX6_comes 46 = .ok (.return_, 1) := by decide +kernel
set_option maxRecDepth 20000 in
theorem ggX6_ask_X6_in : GoodIn wsX6_ask wsX6_in := goodIn_r _ [6] (by decide +kernel) (by decide +kernel)
set_option maxRecDepth 20000 in
theorem gX6_ask_X6_in : GoodIn wsX6_ask (va_wsS RX6 54 yX6_in wsX6_in) := goodIn_app (goodIn_of _ (by decide +kernel)) ggX6_ask_X6_in
set_option maxRecDepth 20000 in
theorem ggX6_ask_X6_isTable : GoodIn wsX6_ask wsX6_isTable := goodIn_r _ [9, 10, 3, 4, 5, 6] (by decide +kernel) (by decide +kernel)
set_option maxRecDepth 20000 in
theorem gX6_ask_X6_isTable : GoodIn wsX6_ask (va_wsS RX6 126 yX6_isTable wsX6_isTable) := goodIn_app (goodIn_of _ (by decide +kernel)) ggX6_ask_X6_isTable
set_option maxRecDepth 20000 in
theorem ggX6_ask_X6_remember : GoodIn wsX6_ask wsX6_remember := goodIn_r _ [14, 2, 15, 16, 17, 5, 18, 112, 113, 114, 115, 116, 117, 118, 119, 120, 121, 122, 123, 124] (by decide +kernel) (by decide +kernel)
set_option maxRecDepth 20000 in
theorem gX6_ask_X6_remember : GoodIn wsX6_ask (wsV RX6 129 RX6 yX6_remember wsX6_remember) := goodIn_app (goodIn_of _ (by decide +kernel)) ggX6_ask_X6_remember
set_option maxRecDepth 20000 in
theorem ggX6_ask_X6_comes : GoodIn wsX6_ask wsX6_comes := goodIn_r _ [22, 2, 23, 24, 25, 5, 26, 27, 28, 29, 30, 31, 32, 33, 34, 35, 36, 37, 38, 39, 40, 41, 42, 43, 44, 45, 46, 47, 48, 49, 50, 51, 52, 53, 54, 55, 56, 57, 58, 59, 60, 61, 62, 63, 64, 65, 66, 67, 68, 69, 70, 71, 72, 73, 74, 75, 76, 77, 78, 79, 80, 81, 82, 83, 84, 85, 86, 87, 88, 89, 90, 91, 92, 93, 94, 95, 96, 97, 98, 99, 100, 101, 102, 103, 104, 105, 112, 113, 114, 115, 116, 117, 118, 119, 120, 121, 122, 123, 124] (by decide +kernel) (by decide +kernel)
set_option maxRecDepth 20000 in
theorem gX6_ask_X6_comes : GoodIn wsX6_ask (wsV RX6 132 RX6 yX6_comes wsX6_comes) := goodIn_app (goodIn_of _ (by decide +kernel)) ggX6_ask_X6_comes
set_option maxRecDepth 20000 in
theorem ggX6_ask_X6_acted : GoodIn wsX6_ask wsX6_acted := goodIn_r _ [109, 110, 111, 15, 112, 113, 114, 115, 116, 117, 118, 119, 120, 121, 122, 123, 124] (by decide +kernel) (by decide +kernel)
set_option maxRecDepth 20000 in
theorem gX6_ask_X6_acted : GoodIn wsX6_ask (wsV RX6 135 RX6 yX6_acted wsX6_acted) := goodIn_app (goodIn_of _ (by decide +kernel)) ggX6_ask_X6_acted
theorem dX6_ask_0 : decode cX6_ask 0 = .ok (.iload_n 1, 1) := by decide +kernel
theorem dX6_ask_1 : decode cX6_ask 1 = .ok (.i2l, 1) := by decide +kernel
theorem dX6_ask_2 : decode cX6_ask 2 = .ok (.lconst 0, 1) := by decide +kernel
theorem dX6_ask_3 : decode cX6_ask 3 = .ok (.ldc2_w 124, 3) := by decide +kernel
theorem dX6_ask_6 : decode cX6_ask 6 = .ok (.invokestatic 54, 3) := by decide +kernel
theorem dX6_ask_9 : decode cX6_ask 9 = .ok (.ifCond .eq 17, 3) := by decide +kernel
theorem dX6_ask_12 : decode cX6_ask 12 = .ok (.iload_n 2, 1) := by decide +kernel
theorem dX6_ask_13 : decode cX6_ask 13 = .ok (.invokestatic 126, 3) := by decide +kernel
theorem dX6_ask_16 : decode cX6_ask 16 = .ok (.ifCond .eq 10, 3) := by decide +kernel
theorem dX6_ask_19 : decode cX6_ask 19 = .ok (.iload_n 3, 1) := by decide +kernel
theorem dX6_ask_20 : decode cX6_ask 20 = .ok (.invokestatic 126, 3) := by decide +kernel
theorem dX6_ask_23 : decode cX6_ask 23 = .ok (.ifCond .ne 6, 3) := by decide +kernel
theorem dX6_ask_26 : decode cX6_ask 26 = .ok (.bipush (-2), 2) := by decide +kernel
theorem dX6_ask_28 : decode cX6_ask 28 = .ok (.ireturn, 1) := by decide +kernel
theorem dX6_ask_29 : decode cX6_ask 29 = .ok (.aload_n 0, 1) := by decide +kernel
theorem dX6_ask_30 : decode cX6_ask 30 = .ok (.getfield 7, 3) := by decide +kernel
theorem dX6_ask_33 : decode cX6_ask 33 = .ok (.iconst 4, 1) := by decide +kernel
theorem dX6_ask_34 : decode cX6_ask 34 = .ok (.iaload, 1) := by decide +kernel
theorem dX6_ask_35 : decode cX6_ask 35 = .ok (.bipush 16, 2) := by decide +kernel
theorem dX6_ask_37 : decode cX6_ask 37 = .ok (.if_icmp .ne 6, 3) := by decide +kernel
theorem dX6_ask_40 : decode cX6_ask 40 = .ok (.bipush (-3), 2) := by decide +kernel
theorem dX6_ask_42 : decode cX6_ask 42 = .ok (.ireturn, 1) := by decide +kernel
theorem dX6_ask_43 : decode cX6_ask 43 = .ok (.aload_n 0, 1) := by decide +kernel
theorem dX6_ask_44 : decode cX6_ask 44 = .ok (.invokevirtual 129, 3) := by decide +kernel
theorem dX6_ask_47 : decode cX6_ask 47 = .ok (.aload_n 0, 1) := by decide +kernel
theorem dX6_ask_48 : decode cX6_ask 48 = .ok (.iload_n 1, 1) := by decide +kernel
theorem dX6_ask_49 : decode cX6_ask 49 = .ok (.iload_n 2, 1) := by decide +kernel
theorem dX6_ask_50 : decode cX6_ask 50 = .ok (.iload_n 3, 1) := by decide +kernel
theorem dX6_ask_51 : decode cX6_ask 51 = .ok (.invokevirtual 132, 3) := by decide +kernel
theorem dX6_ask_54 : decode cX6_ask 54 = .ok (.aload_n 0, 1) := by decide +kernel
theorem dX6_ask_55 : decode cX6_ask 55 = .ok (.aload_n 0, 1) := by decide +kernel
theorem dX6_ask_56 : decode cX6_ask 56 = .ok (.getfield 7, 3) := by decide +kernel
theorem dX6_ask_59 : decode cX6_ask 59 = .ok (.iconst 4, 1) := by decide +kernel
theorem dX6_ask_60 : decode cX6_ask 60 = .ok (.iaload, 1) := by decide +kernel
theorem dX6_ask_61 : decode cX6_ask 61 = .ok (.iconst 1, 1) := by decide +kernel
theorem dX6_ask_62 : decode cX6_ask 62 = .ok (.isub, 1) := by decide +kernel
theorem dX6_ask_63 : decode cX6_ask 63 = .ok (.invokevirtual 135, 3) := by decide +kernel
theorem dX6_ask_66 : decode cX6_ask 66 = .ok (.ireturn, 1) := by decide +kernel
set_option maxRecDepth 20000 in
theorem ggX6_cancel_X6_isJoin : GoodIn wsX6_cancel wsX6_isJoin := goodIn_r _ [5, 6, 7, 8, 4, 9, 111, 112, 113, 114, 115, 116, 117, 118, 119, 120, 121, 122, 123] (by decide +kernel) (by decide +kernel)
set_option maxRecDepth 20000 in
theorem gX6_cancel_X6_isJoin : GoodIn wsX6_cancel (wsV RX6 138 RX6 yX6_isJoin wsX6_isJoin) := goodIn_app (goodIn_of _ (by decide +kernel)) ggX6_cancel_X6_isJoin
set_option maxRecDepth 20000 in
theorem ggX6_cancel_X6_of : GoodIn wsX6_cancel wsX6_of := goodIn_r _ [13, 6, 111, 112, 113, 114, 115, 116, 117, 118, 119, 120, 121, 122, 123] (by decide +kernel) (by decide +kernel)
set_option maxRecDepth 20000 in
theorem gX6_cancel_X6_of : GoodIn wsX6_cancel (wsV RX6 58 RX6 yX6_of wsX6_of) := goodIn_app (goodIn_of _ (by decide +kernel)) ggX6_cancel_X6_of
set_option maxRecDepth 20000 in
theorem ggX6_cancel_X6_remember : GoodIn wsX6_cancel wsX6_remember := goodIn_r _ [17, 6, 18, 19, 20, 4, 21, 111, 112, 113, 114, 115, 116, 117, 118, 119, 120, 121, 122, 123] (by decide +kernel) (by decide +kernel)
set_option maxRecDepth 20000 in
theorem gX6_cancel_X6_remember : GoodIn wsX6_cancel (wsV RX6 129 RX6 yX6_remember wsX6_remember) := goodIn_app (goodIn_of _ (by decide +kernel)) ggX6_cancel_X6_remember
set_option maxRecDepth 20000 in
theorem ggX6_cancel_X6_ends : GoodIn wsX6_cancel wsX6_ends := goodIn_r _ [25, 26, 27, 28, 4, 29, 6, 111, 112, 113, 114, 115, 116, 117, 118, 119, 120, 121, 122, 123] (by decide +kernel) (by decide +kernel)
set_option maxRecDepth 20000 in
theorem gX6_cancel_X6_ends : GoodIn wsX6_cancel (wsV RX6 116 RX6 yX6_ends wsX6_ends) := goodIn_app (goodIn_of _ (by decide +kernel)) ggX6_cancel_X6_ends
set_option maxRecDepth 20000 in
theorem ggX6_cancel_X6_goesThrough : GoodIn wsX6_cancel wsX6_goesThrough := goodIn_r _ [33, 34, 35, 36, 4, 37, 6, 38, 39, 40, 41, 10, 11, 12, 13, 42, 43, 44, 45, 46, 47, 48, 49, 50, 51, 52, 53, 54, 55, 56, 57, 58, 59, 60, 61, 62, 63, 64, 65, 66, 67, 68, 69, 70, 71, 72, 73, 74, 75, 76, 77, 78, 79, 80, 81, 82, 83, 84, 85, 86, 87, 88, 89, 90, 91, 92, 93, 94, 95, 96, 97, 98, 99, 100, 101, 102, 103, 104, 26, 27, 28, 29, 111, 112, 113, 114, 115, 116, 117, 118, 119, 120, 121, 122, 123] (by decide +kernel) (by decide +kernel)
set_option maxRecDepth 20000 in
theorem gX6_cancel_X6_goesThrough : GoodIn wsX6_cancel (wsV RX6 119 RX6 yX6_goesThrough wsX6_goesThrough) := goodIn_app (goodIn_of _ (by decide +kernel)) ggX6_cancel_X6_goesThrough
set_option maxRecDepth 20000 in
theorem ggX6_cancel_X6_acted : GoodIn wsX6_cancel wsX6_acted := goodIn_r _ [108, 109, 110, 18, 111, 112, 113, 114, 115, 116, 117, 118, 119, 120, 121, 122, 123] (by decide +kernel) (by decide +kernel)
set_option maxRecDepth 20000 in
theorem gX6_cancel_X6_acted : GoodIn wsX6_cancel (wsV RX6 135 RX6 yX6_acted wsX6_acted) := goodIn_app (goodIn_of _ (by decide +kernel)) ggX6_cancel_X6_acted
theorem dX6_cancel_0 : decode cX6_cancel 0 = .ok (.aload_n 0, 1) := by decide +kernel
theorem dX6_cancel_1 : decode cX6_cancel 1 = .ok (.iload_n 1, 1) := by decide +kernel
theorem dX6_cancel_2 : decode cX6_cancel 2 = .ok (.invokevirtual 138, 3) := by decide +kernel
theorem dX6_cancel_5 : decode cX6_cancel 5 = .ok (.ifCond .ne 5, 3) := by decide +kernel
theorem dX6_cancel_8 : decode cX6_cancel 8 = .ok (.iconst (-1), 1) := by decide +kernel
theorem dX6_cancel_9 : decode cX6_cancel 9 = .ok (.ireturn, 1) := by decide +kernel
theorem dX6_cancel_10 : decode cX6_cancel 10 = .ok (.aload_n 0, 1) := by decide +kernel
theorem dX6_cancel_11 : decode cX6_cancel 11 = .ok (.iload_n 1, 1) := by decide +kernel
theorem dX6_cancel_12 : decode cX6_cancel 12 = .ok (.iconst 3, 1) := by decide +kernel
theorem dX6_cancel_13 : decode cX6_cancel 13 = .ok (.invokevirtual 58, 3) := by decide +kernel
theorem dX6_cancel_16 : decode cX6_cancel 16 = .ok (.iconst 1, 1) := by decide +kernel
theorem dX6_cancel_17 : decode cX6_cancel 17 = .ok (.if_icmp .le 6, 3) := by decide +kernel
theorem dX6_cancel_20 : decode cX6_cancel 20 = .ok (.bipush (-4), 2) := by decide +kernel
theorem dX6_cancel_22 : decode cX6_cancel 22 = .ok (.ireturn, 1) := by decide +kernel
theorem dX6_cancel_23 : decode cX6_cancel 23 = .ok (.aload_n 0, 1) := by decide +kernel
theorem dX6_cancel_24 : decode cX6_cancel 24 = .ok (.invokevirtual 129, 3) := by decide +kernel
theorem dX6_cancel_27 : decode cX6_cancel 27 = .ok (.aload_n 0, 1) := by decide +kernel
theorem dX6_cancel_28 : decode cX6_cancel 28 = .ok (.iload_n 1, 1) := by decide +kernel
theorem dX6_cancel_29 : decode cX6_cancel 29 = .ok (.iconst 4, 1) := by decide +kernel
theorem dX6_cancel_30 : decode cX6_cancel 30 = .ok (.invokevirtual 58, 3) := by decide +kernel
theorem dX6_cancel_33 : decode cX6_cancel 33 = .ok (.istore_n 2, 1) := by decide +kernel
theorem dX6_cancel_34 : decode cX6_cancel 34 = .ok (.aload_n 0, 1) := by decide +kernel
theorem dX6_cancel_35 : decode cX6_cancel 35 = .ok (.iload_n 1, 1) := by decide +kernel
theorem dX6_cancel_36 : decode cX6_cancel 36 = .ok (.iconst 3, 1) := by decide +kernel
theorem dX6_cancel_37 : decode cX6_cancel 37 = .ok (.invokevirtual 116, 3) := by decide +kernel
theorem dX6_cancel_40 : decode cX6_cancel 40 = .ok (.aload_n 0, 1) := by decide +kernel
theorem dX6_cancel_41 : decode cX6_cancel 41 = .ok (.invokevirtual 119, 3) := by decide +kernel
theorem dX6_cancel_44 : decode cX6_cancel 44 = .ok (.aload_n 0, 1) := by decide +kernel
theorem dX6_cancel_45 : decode cX6_cancel 45 = .ok (.iload_n 2, 1) := by decide +kernel
theorem dX6_cancel_46 : decode cX6_cancel 46 = .ok (.invokevirtual 135, 3) := by decide +kernel
theorem dX6_cancel_49 : decode cX6_cancel 49 = .ok (.ireturn, 1) := by decide +kernel
set_option maxRecDepth 20000 in
theorem ggX6_change_X6_isJoin : GoodIn wsX6_change wsX6_isJoin := goodIn_r _ [6, 7, 8, 9, 5, 10, 108, 109, 110, 111, 112, 113, 114, 115, 116, 117, 118, 119, 120] (by decide +kernel) (by decide +kernel)
set_option maxRecDepth 20000 in
theorem gX6_change_X6_isJoin : GoodIn wsX6_change (wsV RX6 138 RX6 yX6_isJoin wsX6_isJoin) := goodIn_app (goodIn_of _ (by decide +kernel)) ggX6_change_X6_isJoin
set_option maxRecDepth 20000 in
theorem ggX6_change_X6_in : GoodIn wsX6_change wsX6_in := goodIn_r _ [10] (by decide +kernel) (by decide +kernel)
set_option maxRecDepth 20000 in
theorem gX6_change_X6_in : GoodIn wsX6_change (va_wsS RX6 54 yX6_in wsX6_in) := goodIn_app (goodIn_of _ (by decide +kernel)) ggX6_change_X6_in
set_option maxRecDepth 20000 in
theorem ggX6_change_X6_is : GoodIn wsX6_change wsX6_is := goodIn_r _ [14, 15, 16, 17, 5, 18, 7, 108, 109, 110, 111, 112, 113, 114, 115, 116, 117, 118, 119, 120] (by decide +kernel) (by decide +kernel)
set_option maxRecDepth 20000 in
theorem gX6_change_X6_is : GoodIn wsX6_change (wsV RX6 69 RX6 yX6_is wsX6_is) := goodIn_app (goodIn_of _ (by decide +kernel)) ggX6_change_X6_is
set_option maxRecDepth 20000 in
theorem ggX6_change_X6_of : GoodIn wsX6_change wsX6_of := goodIn_r _ [18, 7, 108, 109, 110, 111, 112, 113, 114, 115, 116, 117, 118, 119, 120] (by decide +kernel) (by decide +kernel)
set_option maxRecDepth 20000 in
theorem gX6_change_X6_of : GoodIn wsX6_change (wsV RX6 58 RX6 yX6_of wsX6_of) := goodIn_app (goodIn_of _ (by decide +kernel)) ggX6_change_X6_of
set_option maxRecDepth 20000 in
theorem ggX6_change_X6_remember : GoodIn wsX6_change wsX6_remember := goodIn_r _ [22, 7, 23, 24, 25, 5, 26, 108, 109, 110, 111, 112, 113, 114, 115, 116, 117, 118, 119, 120] (by decide +kernel) (by decide +kernel)
set_option maxRecDepth 20000 in
theorem gX6_change_X6_remember : GoodIn wsX6_change (wsV RX6 129 RX6 yX6_remember wsX6_remember) := goodIn_app (goodIn_of _ (by decide +kernel)) ggX6_change_X6_remember
set_option maxRecDepth 20000 in
theorem ggX6_change_X6_sets : GoodIn wsX6_change wsX6_sets := goodIn_r _ [30, 7, 108, 109, 110, 111, 112, 113, 114, 115, 116, 117, 118, 119, 120] (by decide +kernel) (by decide +kernel)
set_option maxRecDepth 20000 in
theorem gX6_change_X6_sets : GoodIn wsX6_change (wsV RX6 88 RX6 yX6_sets wsX6_sets) := goodIn_app (goodIn_of _ (by decide +kernel)) ggX6_change_X6_sets
set_option maxRecDepth 20000 in
theorem ggX6_change_X6_goesThrough : GoodIn wsX6_change wsX6_goesThrough := goodIn_r _ [34, 35, 36, 37, 5, 38, 7, 11, 12, 13, 14, 15, 16, 17, 18, 39, 40, 41, 42, 43, 44, 45, 46, 47, 48, 49, 50, 51, 52, 53, 54, 55, 56, 57, 58, 59, 60, 61, 62, 63, 64, 65, 66, 67, 68, 69, 70, 71, 72, 73, 74, 75, 76, 77, 78, 79, 80, 81, 82, 83, 84, 85, 86, 87, 88, 89, 90, 91, 92, 93, 94, 95, 96, 97, 98, 99, 100, 101, 27, 28, 29, 30, 108, 109, 110, 111, 112, 113, 114, 115, 116, 117, 118, 119, 120] (by decide +kernel) (by decide +kernel)
set_option maxRecDepth 20000 in
theorem gX6_change_X6_goesThrough : GoodIn wsX6_change (wsV RX6 119 RX6 yX6_goesThrough wsX6_goesThrough) := goodIn_app (goodIn_of _ (by decide +kernel)) ggX6_change_X6_goesThrough
set_option maxRecDepth 20000 in
theorem ggX6_change_X6_acted : GoodIn wsX6_change wsX6_acted := goodIn_r _ [105, 106, 107, 23, 108, 109, 110, 111, 112, 113, 114, 115, 116, 117, 118, 119, 120] (by decide +kernel) (by decide +kernel)
set_option maxRecDepth 20000 in
theorem gX6_change_X6_acted : GoodIn wsX6_change (wsV RX6 135 RX6 yX6_acted wsX6_acted) := goodIn_app (goodIn_of _ (by decide +kernel)) ggX6_change_X6_acted
theorem dX6_change_0 : decode cX6_change 0 = .ok (.aload_n 0, 1) := by decide +kernel
theorem dX6_change_1 : decode cX6_change 1 = .ok (.iload_n 1, 1) := by decide +kernel
theorem dX6_change_2 : decode cX6_change 2 = .ok (.invokevirtual 138, 3) := by decide +kernel
theorem dX6_change_5 : decode cX6_change 5 = .ok (.ifCond .ne 5, 3) := by decide +kernel
theorem dX6_change_8 : decode cX6_change 8 = .ok (.iconst (-1), 1) := by decide +kernel
theorem dX6_change_9 : decode cX6_change 9 = .ok (.ireturn, 1) := by decide +kernel
theorem dX6_change_10 : decode cX6_change 10 = .ok (.iload_n 2, 1) := by decide +kernel
theorem dX6_change_11 : decode cX6_change 11 = .ok (.i2l, 1) := by decide +kernel
theorem dX6_change_12 : decode cX6_change 12 = .ok (.lconst 0, 1) := by decide +kernel
theorem dX6_change_13 : decode cX6_change 13 = .ok (.ldc2_w 124, 3) := by decide +kernel
theorem dX6_change_16 : decode cX6_change 16 = .ok (.invokestatic 54, 3) := by decide +kernel
theorem dX6_change_19 : decode cX6_change 19 = .ok (.ifCond .ne 6, 3) := by decide +kernel
theorem dX6_change_22 : decode cX6_change 22 = .ok (.bipush (-2), 2) := by decide +kernel
theorem dX6_change_24 : decode cX6_change 24 = .ok (.ireturn, 1) := by decide +kernel
theorem dX6_change_25 : decode cX6_change 25 = .ok (.aload_n 0, 1) := by decide +kernel
theorem dX6_change_26 : decode cX6_change 26 = .ok (.iload_n 1, 1) := by decide +kernel
theorem dX6_change_27 : decode cX6_change 27 = .ok (.iconst 0, 1) := by decide +kernel
theorem dX6_change_28 : decode cX6_change 28 = .ok (.invokevirtual 69, 3) := by decide +kernel
theorem dX6_change_31 : decode cX6_change 31 = .ok (.ifCond .ne 6, 3) := by decide +kernel
theorem dX6_change_34 : decode cX6_change 34 = .ok (.bipush (-4), 2) := by decide +kernel
theorem dX6_change_36 : decode cX6_change 36 = .ok (.ireturn, 1) := by decide +kernel
theorem dX6_change_37 : decode cX6_change 37 = .ok (.aload_n 0, 1) := by decide +kernel
theorem dX6_change_38 : decode cX6_change 38 = .ok (.iload_n 1, 1) := by decide +kernel
theorem dX6_change_39 : decode cX6_change 39 = .ok (.iconst 0, 1) := by decide +kernel
theorem dX6_change_40 : decode cX6_change 40 = .ok (.invokevirtual 58, 3) := by decide +kernel
theorem dX6_change_43 : decode cX6_change 43 = .ok (.istore_n 3, 1) := by decide +kernel
theorem dX6_change_44 : decode cX6_change 44 = .ok (.iload_n 3, 1) := by decide +kernel
theorem dX6_change_45 : decode cX6_change 45 = .ok (.iload_n 2, 1) := by decide +kernel
theorem dX6_change_46 : decode cX6_change 46 = .ok (.if_icmp .ne 6, 3) := by decide +kernel
theorem dX6_change_49 : decode cX6_change 49 = .ok (.bipush (-5), 2) := by decide +kernel
theorem dX6_change_51 : decode cX6_change 51 = .ok (.ireturn, 1) := by decide +kernel
theorem dX6_change_52 : decode cX6_change 52 = .ok (.aload_n 0, 1) := by decide +kernel
theorem dX6_change_53 : decode cX6_change 53 = .ok (.invokevirtual 129, 3) := by decide +kernel
theorem dX6_change_56 : decode cX6_change 56 = .ok (.aload_n 0, 1) := by decide +kernel
theorem dX6_change_57 : decode cX6_change 57 = .ok (.iload_n 1, 1) := by decide +kernel
theorem dX6_change_58 : decode cX6_change 58 = .ok (.iconst 0, 1) := by decide +kernel
theorem dX6_change_59 : decode cX6_change 59 = .ok (.iload_n 2, 1) := by decide +kernel
theorem dX6_change_60 : decode cX6_change 60 = .ok (.invokevirtual 88, 3) := by decide +kernel
theorem dX6_change_63 : decode cX6_change 63 = .ok (.aload_n 0, 1) := by decide +kernel
theorem dX6_change_64 : decode cX6_change 64 = .ok (.invokevirtual 119, 3) := by decide +kernel
theorem dX6_change_67 : decode cX6_change 67 = .ok (.aload_n 0, 1) := by decide +kernel
theorem dX6_change_68 : decode cX6_change 68 = .ok (.iload_n 3, 1) := by decide +kernel
theorem dX6_change_69 : decode cX6_change 69 = .ok (.invokevirtual 135, 3) := by decide +kernel
theorem dX6_change_72 : decode cX6_change 72 = .ok (.ireturn, 1) := by decide +kernel
set_option maxRecDepth 20000 in
theorem ggX6_step_X6_in : GoodIn wsX6_step wsX6_in := goodIn_r _ [5] (by decide +kernel) (by decide +kernel)
set_option maxRecDepth 20000 in
theorem gX6_step_X6_in : GoodIn wsX6_step (va_wsS RX6 54 yX6_in wsX6_in) := goodIn_app (goodIn_of _ (by decide +kernel)) ggX6_step_X6_in
set_option maxRecDepth 20000 in
theorem ggX6_step_X6_remember : GoodIn wsX6_step wsX6_remember := goodIn_r _ [9, 10, 11, 12, 13, 4, 14, 112, 113, 114, 115, 116, 117, 118, 119, 120, 121, 122, 123, 124] (by decide +kernel) (by decide +kernel)
set_option maxRecDepth 20000 in
theorem gX6_step_X6_remember : GoodIn wsX6_step (wsV RX6 129 RX6 yX6_remember wsX6_remember) := goodIn_app (goodIn_of _ (by decide +kernel)) ggX6_step_X6_remember
set_option maxRecDepth 20000 in
theorem ggX6_step_X6_steps : GoodIn wsX6_step wsX6_steps := goodIn_r _ [18, 10, 19, 20, 21, 4, 22, 23, 24, 25, 26, 27, 28, 29, 30, 31, 32, 33, 34, 35, 36, 37, 38, 39, 40, 41, 42, 43, 44, 45, 46, 47, 48, 49, 50, 51, 52, 53, 54, 55, 56, 57, 58, 59, 60, 61, 62, 63, 64, 65, 66, 67, 68, 69, 70, 71, 72, 73, 74, 75, 76, 77, 78, 79, 80, 81, 82, 83, 84, 85, 86, 87, 88, 89, 90, 91, 92, 93, 94, 95, 96, 97, 98, 99, 100, 101, 102, 103, 104, 105, 112, 113, 114, 115, 116, 117, 118, 119, 120, 121, 122, 123, 124] (by decide +kernel) (by decide +kernel)
set_option maxRecDepth 20000 in
theorem gX6_step_X6_steps : GoodIn wsX6_step (wsV RX6 143 RX6 yX6_steps wsX6_steps) := goodIn_app (goodIn_of _ (by decide +kernel)) ggX6_step_X6_steps
set_option maxRecDepth 20000 in
theorem ggX6_step_X6_acted : GoodIn wsX6_step wsX6_acted := goodIn_r _ [109, 110, 111, 11, 112, 113, 114, 115, 116, 117, 118, 119, 120, 121, 122, 123, 124] (by decide +kernel) (by decide +kernel)
set_option maxRecDepth 20000 in
theorem gX6_step_X6_acted : GoodIn wsX6_step (wsV RX6 135 RX6 yX6_acted wsX6_acted) := goodIn_app (goodIn_of _ (by decide +kernel)) ggX6_step_X6_acted
theorem dX6_step_0 : decode cX6_step 0 = .ok (.iload_n 1, 1) := by decide +kernel
theorem dX6_step_1 : decode cX6_step 1 = .ok (.i2l, 1) := by decide +kernel
theorem dX6_step_2 : decode cX6_step 2 = .ok (.lconst 1, 1) := by decide +kernel
theorem dX6_step_3 : decode cX6_step 3 = .ok (.ldc2_w 141, 3) := by decide +kernel
theorem dX6_step_6 : decode cX6_step 6 = .ok (.invokestatic 54, 3) := by decide +kernel
theorem dX6_step_9 : decode cX6_step 9 = .ok (.ifCond .ne 6, 3) := by decide +kernel
theorem dX6_step_12 : decode cX6_step 12 = .ok (.bipush (-2), 2) := by decide +kernel
theorem dX6_step_14 : decode cX6_step 14 = .ok (.ireturn, 1) := by decide +kernel
theorem dX6_step_15 : decode cX6_step 15 = .ok (.aload_n 0, 1) := by decide +kernel
theorem dX6_step_16 : decode cX6_step 16 = .ok (.invokevirtual 129, 3) := by decide +kernel
theorem dX6_step_19 : decode cX6_step 19 = .ok (.iconst 0, 1) := by decide +kernel
theorem dX6_step_20 : decode cX6_step 20 = .ok (.istore_n 2, 1) := by decide +kernel
theorem dX6_step_21 : decode cX6_step 21 = .ok (.iconst 0, 1) := by decide +kernel
theorem dX6_step_22 : decode cX6_step 22 = .ok (.istore_n 3, 1) := by decide +kernel
theorem dX6_step_23 : decode cX6_step 23 = .ok (.iload_n 3, 1) := by decide +kernel
theorem dX6_step_24 : decode cX6_step 24 = .ok (.iload_n 1, 1) := by decide +kernel
theorem dX6_step_25 : decode cX6_step 25 = .ok (.if_icmp .ge 16, 3) := by decide +kernel
theorem dX6_step_28 : decode cX6_step 28 = .ok (.iload_n 2, 1) := by decide +kernel
theorem dX6_step_29 : decode cX6_step 29 = .ok (.aload_n 0, 1) := by decide +kernel
theorem dX6_step_30 : decode cX6_step 30 = .ok (.invokevirtual 143, 3) := by decide +kernel
theorem dX6_step_33 : decode cX6_step 33 = .ok (.iadd, 1) := by decide +kernel
theorem dX6_step_34 : decode cX6_step 34 = .ok (.istore_n 2, 1) := by decide +kernel
theorem dX6_step_35 : decode cX6_step 35 = .ok (.iinc 3 1, 3) := by decide +kernel
theorem dX6_step_38 : decode cX6_step 38 = .ok (.goto (-15), 3) := by decide +kernel
theorem dX6_step_41 : decode cX6_step 41 = .ok (.aload_n 0, 1) := by decide +kernel
theorem dX6_step_42 : decode cX6_step 42 = .ok (.iload_n 2, 1) := by decide +kernel
theorem dX6_step_43 : decode cX6_step 43 = .ok (.invokevirtual 135, 3) := by decide +kernel
theorem dX6_step_46 : decode cX6_step 46 = .ok (.ireturn, 1) := by decide +kernel
set_option maxRecDepth 20000 in
theorem ggX6_isSetting_X6_in : GoodIn wsX6_isSetting wsX6_in := goodIn_r _ [7] (by decide +kernel) (by decide +kernel)
set_option maxRecDepth 20000 in
theorem gX6_isSetting_X6_in : GoodIn wsX6_isSetting (va_wsS RX6 54 yX6_in wsX6_in) := goodIn_app (goodIn_of _ (by decide +kernel)) ggX6_isSetting_X6_in
theorem dX6_isSetting_0 : decode cX6_isSetting 0 = .ok (.iload_n 0, 1) := by decide +kernel
theorem dX6_isSetting_1 : decode cX6_isSetting 1 = .ok (.tableswitch 47 0 2 #[27, 39, 39], 27) := by decide +kernel
theorem dX6_isSetting_28 : decode cX6_isSetting 28 = .ok (.iload_n 1, 1) := by decide +kernel
theorem dX6_isSetting_29 : decode cX6_isSetting 29 = .ok (.i2l, 1) := by decide +kernel
theorem dX6_isSetting_30 : decode cX6_isSetting 30 = .ok (.ldc2_w 146, 3) := by decide +kernel
theorem dX6_isSetting_33 : decode cX6_isSetting 33 = .ok (.ldc2_w 148, 3) := by decide +kernel
theorem dX6_isSetting_36 : decode cX6_isSetting 36 = .ok (.invokestatic 54, 3) := by decide +kernel
theorem dX6_isSetting_39 : decode cX6_isSetting 39 = .ok (.ireturn, 1) := by decide +kernel
theorem dX6_isSetting_40 : decode cX6_isSetting 40 = .ok (.iload_n 1, 1) := by decide +kernel
theorem dX6_isSetting_41 : decode cX6_isSetting 41 = .ok (.i2l, 1) := by decide +kernel
theorem dX6_isSetting_42 : decode cX6_isSetting 42 = .ok (.lconst 0, 1) := by decide +kernel
theorem dX6_isSetting_43 : decode cX6_isSetting 43 = .ok (.lconst 1, 1) := by decide +kernel
theorem dX6_isSetting_44 : decode cX6_isSetting 44 = .ok (.invokestatic 54, 3) := by decide +kernel
theorem dX6_isSetting_47 : decode cX6_isSetting 47 = .ok (.ireturn, 1) := by decide +kernel
theorem dX6_isSetting_48 : decode cX6_isSetting 48 = .ok (.iload_n 0, 1) := by decide +kernel
theorem dX6_isSetting_49 : decode cX6_isSetting 49 = .ok (.iconst 3, 1) := by decide +kernel
theorem dX6_isSetting_50 : decode cX6_isSetting 50 = .ok (.if_icmp .ne 19, 3) := by decide +kernel
theorem dX6_isSetting_53 : decode cX6_isSetting 53 = .ok (.iload_n 1, 1) := by decide +kernel
theorem dX6_isSetting_54 : decode cX6_isSetting 54 = .ok (.i2l, 1) := by decide +kernel
theorem dX6_isSetting_55 : decode cX6_isSetting 55 = .ok (.lconst 1, 1) := by decide +kernel
theorem dX6_isSetting_56 : decode cX6_isSetting 56 = .ok (.ldc2_w 150, 3) := by decide +kernel
theorem dX6_isSetting_59 : decode cX6_isSetting 59 = .ok (.invokestatic 54, 3) := by decide +kernel
theorem dX6_isSetting_62 : decode cX6_isSetting 62 = .ok (.ifCond .eq 7, 3) := by decide +kernel
theorem dX6_isSetting_65 : decode cX6_isSetting 65 = .ok (.iconst 1, 1) := by decide +kernel
theorem dX6_isSetting_66 : decode cX6_isSetting 66 = .ok (.goto 4, 3) := by decide +kernel
theorem dX6_isSetting_69 : decode cX6_isSetting 69 = .ok (.iconst 0, 1) := by decide +kernel
theorem dX6_isSetting_70 : decode cX6_isSetting 70 = .ok (.ireturn, 1) := by decide +kernel
set_option maxRecDepth 20000 in
theorem ggX6_set_X6_isSetting : GoodIn wsX6_set wsX6_isSetting := goodIn_r _ [5, 6, 7, 8, 9, 10, 4, 11] (by decide +kernel) (by decide +kernel)
set_option maxRecDepth 20000 in
theorem gX6_set_X6_isSetting : GoodIn wsX6_set (va_wsS RX6 152 yX6_isSetting wsX6_isSetting) := goodIn_app (goodIn_of _ (by decide +kernel)) ggX6_set_X6_isSetting
set_option maxRecDepth 20000 in
theorem ggX6_set_X6_remember : GoodIn wsX6_set wsX6_remember := goodIn_r _ [15, 1, 16, 17, 18, 4, 19, 109, 110, 111, 112, 113, 114, 115, 116, 117, 118, 119, 120, 121] (by decide +kernel) (by decide +kernel)
set_option maxRecDepth 20000 in
theorem gX6_set_X6_remember : GoodIn wsX6_set (wsV RX6 129 RX6 yX6_remember wsX6_remember) := goodIn_app (goodIn_of _ (by decide +kernel)) ggX6_set_X6_remember
set_option maxRecDepth 20000 in
theorem ggX6_set_X6_goesThrough : GoodIn wsX6_set wsX6_goesThrough := goodIn_r _ [23, 24, 25, 26, 4, 27, 1, 28, 29, 30, 31, 32, 33, 34, 35, 36, 37, 38, 39, 40, 41, 42, 43, 44, 45, 46, 47, 48, 49, 50, 51, 52, 53, 54, 55, 56, 57, 58, 59, 60, 61, 62, 63, 64, 65, 66, 67, 68, 69, 70, 71, 72, 73, 74, 75, 76, 77, 78, 79, 80, 81, 82, 83, 84, 85, 86, 87, 88, 89, 90, 91, 92, 93, 94, 95, 96, 97, 98, 99, 100, 101, 102, 109, 110, 111, 112, 113, 114, 115, 116, 117, 118, 119, 120, 121] (by decide +kernel) (by decide +kernel)
set_option maxRecDepth 20000 in
theorem gX6_set_X6_goesThrough : GoodIn wsX6_set (wsV RX6 119 RX6 yX6_goesThrough wsX6_goesThrough) := goodIn_app (goodIn_of _ (by decide +kernel)) ggX6_set_X6_goesThrough
set_option maxRecDepth 20000 in
theorem ggX6_set_X6_acted : GoodIn wsX6_set wsX6_acted := goodIn_r _ [106, 107, 108, 16, 109, 110, 111, 112, 113, 114, 115, 116, 117, 118, 119, 120, 121] (by decide +kernel) (by decide +kernel)
set_option maxRecDepth 20000 in
theorem gX6_set_X6_acted : GoodIn wsX6_set (wsV RX6 135 RX6 yX6_acted wsX6_acted) := goodIn_app (goodIn_of _ (by decide +kernel)) ggX6_set_X6_acted
theorem dX6_set_0 : decode cX6_set 0 = .ok (.iload_n 1, 1) := by decide +kernel
theorem dX6_set_1 : decode cX6_set 1 = .ok (.iload_n 2, 1) := by decide +kernel
theorem dX6_set_2 : decode cX6_set 2 = .ok (.invokestatic 152, 3) := by decide +kernel
theorem dX6_set_5 : decode cX6_set 5 = .ok (.ifCond .ne 6, 3) := by decide +kernel
theorem dX6_set_8 : decode cX6_set 8 = .ok (.bipush (-2), 2) := by decide +kernel
theorem dX6_set_10 : decode cX6_set 10 = .ok (.ireturn, 1) := by decide +kernel
theorem dX6_set_11 : decode cX6_set 11 = .ok (.aload_n 0, 1) := by decide +kernel
theorem dX6_set_12 : decode cX6_set 12 = .ok (.getfield 7, 3) := by decide +kernel
theorem dX6_set_15 : decode cX6_set 15 = .ok (.iconst 0, 1) := by decide +kernel
theorem dX6_set_16 : decode cX6_set 16 = .ok (.iload_n 1, 1) := by decide +kernel
theorem dX6_set_17 : decode cX6_set 17 = .ok (.iadd, 1) := by decide +kernel
theorem dX6_set_18 : decode cX6_set 18 = .ok (.iaload, 1) := by decide +kernel
theorem dX6_set_19 : decode cX6_set 19 = .ok (.istore_n 3, 1) := by decide +kernel
theorem dX6_set_20 : decode cX6_set 20 = .ok (.iload_n 3, 1) := by decide +kernel
theorem dX6_set_21 : decode cX6_set 21 = .ok (.iload_n 2, 1) := by decide +kernel
theorem dX6_set_22 : decode cX6_set 22 = .ok (.if_icmp .ne 6, 3) := by decide +kernel
theorem dX6_set_25 : decode cX6_set 25 = .ok (.bipush (-5), 2) := by decide +kernel
theorem dX6_set_27 : decode cX6_set 27 = .ok (.ireturn, 1) := by decide +kernel
theorem dX6_set_28 : decode cX6_set 28 = .ok (.aload_n 0, 1) := by decide +kernel
theorem dX6_set_29 : decode cX6_set 29 = .ok (.invokevirtual 129, 3) := by decide +kernel
theorem dX6_set_32 : decode cX6_set 32 = .ok (.aload_n 0, 1) := by decide +kernel
theorem dX6_set_33 : decode cX6_set 33 = .ok (.getfield 7, 3) := by decide +kernel
theorem dX6_set_36 : decode cX6_set 36 = .ok (.iconst 0, 1) := by decide +kernel
theorem dX6_set_37 : decode cX6_set 37 = .ok (.iload_n 1, 1) := by decide +kernel
theorem dX6_set_38 : decode cX6_set 38 = .ok (.iadd, 1) := by decide +kernel
theorem dX6_set_39 : decode cX6_set 39 = .ok (.iload_n 2, 1) := by decide +kernel
theorem dX6_set_40 : decode cX6_set 40 = .ok (.iastore, 1) := by decide +kernel
theorem dX6_set_41 : decode cX6_set 41 = .ok (.aload_n 0, 1) := by decide +kernel
theorem dX6_set_42 : decode cX6_set 42 = .ok (.invokevirtual 119, 3) := by decide +kernel
theorem dX6_set_45 : decode cX6_set 45 = .ok (.aload_n 0, 1) := by decide +kernel
theorem dX6_set_46 : decode cX6_set 46 = .ok (.iload_n 3, 1) := by decide +kernel
theorem dX6_set_47 : decode cX6_set 47 = .ok (.invokevirtual 135, 3) := by decide +kernel
theorem dX6_set_50 : decode cX6_set 50 = .ok (.ireturn, 1) := by decide +kernel
theorem dX6_type_0 : decode cX6_type 0 = .ok (.aload_n 0, 1) := by decide +kernel
theorem dX6_type_1 : decode cX6_type 1 = .ok (.getfield 155, 3) := by decide +kernel
theorem dX6_type_4 : decode cX6_type 4 = .ok (.bipush 60, 2) := by decide +kernel
theorem dX6_type_6 : decode cX6_type 6 = .ok (.if_icmp .ne 6, 3) := by decide +kernel
theorem dX6_type_9 : decode cX6_type 9 = .ok (.bipush (-3), 2) := by decide +kernel
theorem dX6_type_11 : decode cX6_type 11 = .ok (.ireturn, 1) := by decide +kernel
theorem dX6_type_12 : decode cX6_type 12 = .ok (.aload_n 0, 1) := by decide +kernel
theorem dX6_type_13 : decode cX6_type 13 = .ok (.getfield 25, 3) := by decide +kernel
theorem dX6_type_16 : decode cX6_type 16 = .ok (.aload_n 0, 1) := by decide +kernel
theorem dX6_type_17 : decode cX6_type 17 = .ok (.getfield 155, 3) := by decide +kernel
theorem dX6_type_20 : decode cX6_type 20 = .ok (.iload_n 1, 1) := by decide +kernel
theorem dX6_type_21 : decode cX6_type 21 = .ok (.iastore, 1) := by decide +kernel
theorem dX6_type_22 : decode cX6_type 22 = .ok (.aload_n 0, 1) := by decide +kernel
theorem dX6_type_23 : decode cX6_type 23 = .ok (.dup, 1) := by decide +kernel
theorem dX6_type_24 : decode cX6_type 24 = .ok (.getfield 155, 3) := by decide +kernel
theorem dX6_type_27 : decode cX6_type 27 = .ok (.iconst 1, 1) := by decide +kernel
theorem dX6_type_28 : decode cX6_type 28 = .ok (.iadd, 1) := by decide +kernel
theorem dX6_type_29 : decode cX6_type 29 = .ok (.putfield 155, 3) := by decide +kernel
theorem dX6_type_32 : decode cX6_type 32 = .ok (.aload_n 0, 1) := by decide +kernel
theorem dX6_type_33 : decode cX6_type 33 = .ok (.getfield 155, 3) := by decide +kernel
theorem dX6_type_36 : decode cX6_type 36 = .ok (.ireturn, 1) := by decide +kernel
theorem dX6_clearText_0 : decode cX6_clearText 0 = .ok (.aload_n 0, 1) := by decide +kernel
theorem dX6_clearText_1 : decode cX6_clearText 1 = .ok (.getfield 155, 3) := by decide +kernel
theorem dX6_clearText_4 : decode cX6_clearText 4 = .ok (.istore_n 1, 1) := by decide +kernel
theorem dX6_clearText_5 : decode cX6_clearText 5 = .ok (.aload_n 0, 1) := by decide +kernel
theorem dX6_clearText_6 : decode cX6_clearText 6 = .ok (.iconst 0, 1) := by decide +kernel
theorem dX6_clearText_7 : decode cX6_clearText 7 = .ok (.putfield 155, 3) := by decide +kernel
theorem dX6_clearText_10 : decode cX6_clearText 10 = .ok (.iload_n 1, 1) := by decide +kernel
theorem dX6_clearText_11 : decode cX6_clearText 11 = .ok (.ireturn, 1) := by decide +kernel
set_option maxRecDepth 20000 in
theorem ggX6_isHere_X6_in : GoodIn wsX6_isHere wsX6_in := goodIn_r _ [7] (by decide +kernel) (by decide +kernel)
set_option maxRecDepth 20000 in
theorem gX6_isHere_X6_in : GoodIn wsX6_isHere (va_wsS RX6 54 yX6_in wsX6_in) := goodIn_app (goodIn_of _ (by decide +kernel)) ggX6_isHere_X6_in
theorem dX6_isHere_0 : decode cX6_isHere 0 = .ok (.aload_n 0, 1) := by decide +kernel
theorem dX6_isHere_1 : decode cX6_isHere 1 = .ok (.getfield 158, 3) := by decide +kernel
theorem dX6_isHere_4 : decode cX6_isHere 4 = .ok (.aload_n 0, 1) := by decide +kernel
theorem dX6_isHere_5 : decode cX6_isHere 5 = .ok (.getfield 155, 3) := by decide +kernel
theorem dX6_isHere_8 : decode cX6_isHere 8 = .ok (.if_icmp .ge 27, 3) := by decide +kernel
theorem dX6_isHere_11 : decode cX6_isHere 11 = .ok (.aload_n 0, 1) := by decide +kernel
theorem dX6_isHere_12 : decode cX6_isHere 12 = .ok (.getfield 25, 3) := by decide +kernel
theorem dX6_isHere_15 : decode cX6_isHere 15 = .ok (.aload_n 0, 1) := by decide +kernel
theorem dX6_isHere_16 : decode cX6_isHere 16 = .ok (.getfield 158, 3) := by decide +kernel
theorem dX6_isHere_19 : decode cX6_isHere 19 = .ok (.iaload, 1) := by decide +kernel
theorem dX6_isHere_20 : decode cX6_isHere 20 = .ok (.i2l, 1) := by decide +kernel
theorem dX6_isHere_21 : decode cX6_isHere 21 = .ok (.iload_n 1, 1) := by decide +kernel
theorem dX6_isHere_22 : decode cX6_isHere 22 = .ok (.i2l, 1) := by decide +kernel
theorem dX6_isHere_23 : decode cX6_isHere 23 = .ok (.iload_n 2, 1) := by decide +kernel
theorem dX6_isHere_24 : decode cX6_isHere 24 = .ok (.i2l, 1) := by decide +kernel
theorem dX6_isHere_25 : decode cX6_isHere 25 = .ok (.invokestatic 54, 3) := by decide +kernel
theorem dX6_isHere_28 : decode cX6_isHere 28 = .ok (.ifCond .eq 7, 3) := by decide +kernel
theorem dX6_isHere_31 : decode cX6_isHere 31 = .ok (.iconst 1, 1) := by decide +kernel
theorem dX6_isHere_32 : decode cX6_isHere 32 = .ok (.goto 4, 3) := by decide +kernel
theorem dX6_isHere_35 : decode cX6_isHere 35 = .ok (.iconst 0, 1) := by decide +kernel
theorem dX6_isHere_36 : decode cX6_isHere 36 = .ok (.ireturn, 1) := by decide +kernel
set_option maxRecDepth 20000 in
theorem ggX6_takes_X6_isHere : GoodIn wsX6_takes wsX6_isHere := goodIn_r _ [6, 1, 7, 8, 9, 10, 5, 11, 12, 13, 14, 15, 16, 17, 18, 19, 20, 21, 22, 23, 24] (by decide +kernel) (by decide +kernel)
set_option maxRecDepth 20000 in
theorem gX6_takes_X6_isHere : GoodIn wsX6_takes (wsV RX6 161 RX6 yX6_isHere wsX6_isHere) := goodIn_app (goodIn_of _ (by decide +kernel)) ggX6_takes_X6_isHere
theorem dX6_takes_0 : decode cX6_takes 0 = .ok (.aload_n 0, 1) := by decide +kernel
theorem dX6_takes_1 : decode cX6_takes 1 = .ok (.iload_n 1, 1) := by decide +kernel
theorem dX6_takes_2 : decode cX6_takes 2 = .ok (.iload_n 1, 1) := by decide +kernel
theorem dX6_takes_3 : decode cX6_takes 3 = .ok (.invokevirtual 161, 3) := by decide +kernel
theorem dX6_takes_6 : decode cX6_takes 6 = .ok (.istore_n 2, 1) := by decide +kernel
theorem dX6_takes_7 : decode cX6_takes 7 = .ok (.aload_n 0, 1) := by decide +kernel
theorem dX6_takes_8 : decode cX6_takes 8 = .ok (.dup, 1) := by decide +kernel
theorem dX6_takes_9 : decode cX6_takes 9 = .ok (.getfield 158, 3) := by decide +kernel
theorem dX6_takes_12 : decode cX6_takes 12 = .ok (.iload_n 2, 1) := by decide +kernel
theorem dX6_takes_13 : decode cX6_takes 13 = .ok (.ifCond .eq 7, 3) := by decide +kernel
theorem dX6_takes_16 : decode cX6_takes 16 = .ok (.iconst 1, 1) := by decide +kernel
theorem dX6_takes_17 : decode cX6_takes 17 = .ok (.goto 4, 3) := by decide +kernel
theorem dX6_takes_20 : decode cX6_takes 20 = .ok (.iconst 0, 1) := by decide +kernel
theorem dX6_takes_21 : decode cX6_takes 21 = .ok (.iadd, 1) := by decide +kernel
theorem dX6_takes_22 : decode cX6_takes 22 = .ok (.putfield 158, 3) := by decide +kernel
theorem dX6_takes_25 : decode cX6_takes 25 = .ok (.iload_n 2, 1) := by decide +kernel
theorem dX6_takes_26 : decode cX6_takes 26 = .ok (.ireturn, 1) := by decide +kernel
set_option maxRecDepth 20000 in
theorem ggX6_readsNumber_X6_isHere : GoodIn wsX6_readsNumber wsX6_isHere := goodIn_r _ [8, 2, 9, 1, 10, 11, 7, 12, 13, 14, 15, 16, 17, 18, 19, 20, 21, 22, 23, 24, 25] (by decide +kernel) (by decide +kernel)
set_option maxRecDepth 20000 in
theorem gX6_readsNumber_X6_isHere : GoodIn wsX6_readsNumber (wsV RX6 161 RX6 yX6_isHere wsX6_isHere) := goodIn_app (goodIn_of _ (by decide +kernel)) ggX6_readsNumber_X6_isHere
theorem dX6_readsNumber_0 : decode cX6_readsNumber 0 = .ok (.aload_n 0, 1) := by decide +kernel
theorem dX6_readsNumber_1 : decode cX6_readsNumber 1 = .ok (.bipush 49, 2) := by decide +kernel
theorem dX6_readsNumber_3 : decode cX6_readsNumber 3 = .ok (.bipush 57, 2) := by decide +kernel
theorem dX6_readsNumber_5 : decode cX6_readsNumber 5 = .ok (.invokevirtual 161, 3) := by decide +kernel
theorem dX6_readsNumber_8 : decode cX6_readsNumber 8 = .ok (.ifCond .ne 5, 3) := by decide +kernel
theorem dX6_readsNumber_11 : decode cX6_readsNumber 11 = .ok (.iconst 0, 1) := by decide +kernel
theorem dX6_readsNumber_12 : decode cX6_readsNumber 12 = .ok (.ireturn, 1) := by decide +kernel
theorem dX6_readsNumber_13 : decode cX6_readsNumber 13 = .ok (.aload_n 0, 1) := by decide +kernel
theorem dX6_readsNumber_14 : decode cX6_readsNumber 14 = .ok (.aload_n 0, 1) := by decide +kernel
theorem dX6_readsNumber_15 : decode cX6_readsNumber 15 = .ok (.getfield 25, 3) := by decide +kernel
theorem dX6_readsNumber_18 : decode cX6_readsNumber 18 = .ok (.aload_n 0, 1) := by decide +kernel
theorem dX6_readsNumber_19 : decode cX6_readsNumber 19 = .ok (.getfield 158, 3) := by decide +kernel
theorem dX6_readsNumber_22 : decode cX6_readsNumber 22 = .ok (.iaload, 1) := by decide +kernel
theorem dX6_readsNumber_23 : decode cX6_readsNumber 23 = .ok (.bipush 48, 2) := by decide +kernel
theorem dX6_readsNumber_25 : decode cX6_readsNumber 25 = .ok (.isub, 1) := by decide +kernel
theorem dX6_readsNumber_26 : decode cX6_readsNumber 26 = .ok (.putfield 164, 3) := by decide +kernel
theorem dX6_readsNumber_29 : decode cX6_readsNumber 29 = .ok (.aload_n 0, 1) := by decide +kernel
theorem dX6_readsNumber_30 : decode cX6_readsNumber 30 = .ok (.dup, 1) := by decide +kernel
theorem dX6_readsNumber_31 : decode cX6_readsNumber 31 = .ok (.getfield 158, 3) := by decide +kernel
theorem dX6_readsNumber_34 : decode cX6_readsNumber 34 = .ok (.iconst 1, 1) := by decide +kernel
theorem dX6_readsNumber_35 : decode cX6_readsNumber 35 = .ok (.iadd, 1) := by decide +kernel
theorem dX6_readsNumber_36 : decode cX6_readsNumber 36 = .ok (.putfield 158, 3) := by decide +kernel
theorem dX6_readsNumber_39 : decode cX6_readsNumber 39 = .ok (.aload_n 0, 1) := by decide +kernel
theorem dX6_readsNumber_40 : decode cX6_readsNumber 40 = .ok (.bipush 48, 2) := by decide +kernel
theorem dX6_readsNumber_42 : decode cX6_readsNumber 42 = .ok (.bipush 57, 2) := by decide +kernel
theorem dX6_readsNumber_44 : decode cX6_readsNumber 44 = .ok (.invokevirtual 161, 3) := by decide +kernel
theorem dX6_readsNumber_47 : decode cX6_readsNumber 47 = .ok (.ifCond .eq 66, 3) := by decide +kernel
theorem dX6_readsNumber_50 : decode cX6_readsNumber 50 = .ok (.bipush 10, 2) := by decide +kernel
theorem dX6_readsNumber_52 : decode cX6_readsNumber 52 = .ok (.aload_n 0, 1) := by decide +kernel
theorem dX6_readsNumber_53 : decode cX6_readsNumber 53 = .ok (.getfield 164, 3) := by decide +kernel
theorem dX6_readsNumber_56 : decode cX6_readsNumber 56 = .ok (.imul, 1) := by decide +kernel
theorem dX6_readsNumber_57 : decode cX6_readsNumber 57 = .ok (.aload_n 0, 1) := by decide +kernel
theorem dX6_readsNumber_58 : decode cX6_readsNumber 58 = .ok (.getfield 25, 3) := by decide +kernel
theorem dX6_readsNumber_61 : decode cX6_readsNumber 61 = .ok (.aload_n 0, 1) := by decide +kernel
theorem dX6_readsNumber_62 : decode cX6_readsNumber 62 = .ok (.getfield 158, 3) := by decide +kernel
theorem dX6_readsNumber_65 : decode cX6_readsNumber 65 = .ok (.iaload, 1) := by decide +kernel
theorem dX6_readsNumber_66 : decode cX6_readsNumber 66 = .ok (.iadd, 1) := by decide +kernel
theorem dX6_readsNumber_67 : decode cX6_readsNumber 67 = .ok (.bipush 48, 2) := by decide +kernel
theorem dX6_readsNumber_69 : decode cX6_readsNumber 69 = .ok (.isub, 1) := by decide +kernel
theorem dX6_readsNumber_70 : decode cX6_readsNumber 70 = .ok (.sipush 200, 3) := by decide +kernel
theorem dX6_readsNumber_73 : decode cX6_readsNumber 73 = .ok (.if_icmp .gt 40, 3) := by decide +kernel
theorem dX6_readsNumber_76 : decode cX6_readsNumber 76 = .ok (.aload_n 0, 1) := by decide +kernel
theorem dX6_readsNumber_77 : decode cX6_readsNumber 77 = .ok (.bipush 10, 2) := by decide +kernel
theorem dX6_readsNumber_79 : decode cX6_readsNumber 79 = .ok (.aload_n 0, 1) := by decide +kernel
theorem dX6_readsNumber_80 : decode cX6_readsNumber 80 = .ok (.getfield 164, 3) := by decide +kernel
theorem dX6_readsNumber_83 : decode cX6_readsNumber 83 = .ok (.imul, 1) := by decide +kernel
theorem dX6_readsNumber_84 : decode cX6_readsNumber 84 = .ok (.aload_n 0, 1) := by decide +kernel
theorem dX6_readsNumber_85 : decode cX6_readsNumber 85 = .ok (.getfield 25, 3) := by decide +kernel
theorem dX6_readsNumber_88 : decode cX6_readsNumber 88 = .ok (.aload_n 0, 1) := by decide +kernel
theorem dX6_readsNumber_89 : decode cX6_readsNumber 89 = .ok (.getfield 158, 3) := by decide +kernel
theorem dX6_readsNumber_92 : decode cX6_readsNumber 92 = .ok (.iaload, 1) := by decide +kernel
theorem dX6_readsNumber_93 : decode cX6_readsNumber 93 = .ok (.iadd, 1) := by decide +kernel
theorem dX6_readsNumber_94 : decode cX6_readsNumber 94 = .ok (.bipush 48, 2) := by decide +kernel
theorem dX6_readsNumber_96 : decode cX6_readsNumber 96 = .ok (.isub, 1) := by decide +kernel
theorem dX6_readsNumber_97 : decode cX6_readsNumber 97 = .ok (.putfield 164, 3) := by decide +kernel
theorem dX6_readsNumber_100 : decode cX6_readsNumber 100 = .ok (.aload_n 0, 1) := by decide +kernel
theorem dX6_readsNumber_101 : decode cX6_readsNumber 101 = .ok (.dup, 1) := by decide +kernel
theorem dX6_readsNumber_102 : decode cX6_readsNumber 102 = .ok (.getfield 158, 3) := by decide +kernel
theorem dX6_readsNumber_105 : decode cX6_readsNumber 105 = .ok (.iconst 1, 1) := by decide +kernel
theorem dX6_readsNumber_106 : decode cX6_readsNumber 106 = .ok (.iadd, 1) := by decide +kernel
theorem dX6_readsNumber_107 : decode cX6_readsNumber 107 = .ok (.putfield 158, 3) := by decide +kernel
theorem dX6_readsNumber_110 : decode cX6_readsNumber 110 = .ok (.goto (-71), 3) := by decide +kernel
theorem dX6_readsNumber_113 : decode cX6_readsNumber 113 = .ok (.iconst 1, 1) := by decide +kernel
theorem dX6_readsNumber_114 : decode cX6_readsNumber 114 = .ok (.ireturn, 1) := by decide +kernel
set_option maxRecDepth 20000 in
theorem ggX6_readsJoin_X6_takes : GoodIn wsX6_readsJoin wsX6_takes := goodIn_r _ [8, 9, 10, 11, 12, 7, 13, 14, 15, 16, 17, 18, 23, 24, 25, 26, 27, 28, 29, 30, 31, 32, 33, 34, 35] (by decide +kernel) (by decide +kernel)
set_option maxRecDepth 20000 in
theorem gX6_readsJoin_X6_takes : GoodIn wsX6_readsJoin (wsV RX6 167 RX6 yX6_takes wsX6_takes) := goodIn_app (goodIn_of _ (by decide +kernel)) ggX6_readsJoin_X6_takes
set_option maxRecDepth 20000 in
theorem ggX6_readsJoin_X6_readsNumber : GoodIn wsX6_readsJoin wsX6_readsNumber := goodIn_r _ [22, 15, 9, 1, 10, 11, 12, 7, 13, 14, 16, 17, 18, 23, 24, 25, 26, 27, 28, 29, 30, 31, 32, 33, 34, 35] (by decide +kernel) (by decide +kernel)
set_option maxRecDepth 20000 in
theorem gX6_readsJoin_X6_readsNumber : GoodIn wsX6_readsJoin (wsV RX6 170 RX6 yX6_readsNumber wsX6_readsNumber) := goodIn_app (goodIn_of _ (by decide +kernel)) ggX6_readsJoin_X6_readsNumber
theorem dX6_readsJoin_0 : decode cX6_readsJoin 0 = .ok (.aload_n 0, 1) := by decide +kernel
theorem dX6_readsJoin_1 : decode cX6_readsJoin 1 = .ok (.bipush 108, 2) := by decide +kernel
theorem dX6_readsJoin_3 : decode cX6_readsJoin 3 = .ok (.invokevirtual 167, 3) := by decide +kernel
theorem dX6_readsJoin_6 : decode cX6_readsJoin 6 = .ok (.ifCond .eq 7, 3) := by decide +kernel
theorem dX6_readsJoin_9 : decode cX6_readsJoin 9 = .ok (.iconst 0, 1) := by decide +kernel
theorem dX6_readsJoin_10 : decode cX6_readsJoin 10 = .ok (.goto 31, 3) := by decide +kernel
theorem dX6_readsJoin_13 : decode cX6_readsJoin 13 = .ok (.aload_n 0, 1) := by decide +kernel
theorem dX6_readsJoin_14 : decode cX6_readsJoin 14 = .ok (.bipush 98, 2) := by decide +kernel
theorem dX6_readsJoin_16 : decode cX6_readsJoin 16 = .ok (.invokevirtual 167, 3) := by decide +kernel
theorem dX6_readsJoin_19 : decode cX6_readsJoin 19 = .ok (.ifCond .eq 7, 3) := by decide +kernel
theorem dX6_readsJoin_22 : decode cX6_readsJoin 22 = .ok (.iconst 1, 1) := by decide +kernel
theorem dX6_readsJoin_23 : decode cX6_readsJoin 23 = .ok (.goto 18, 3) := by decide +kernel
theorem dX6_readsJoin_26 : decode cX6_readsJoin 26 = .ok (.aload_n 0, 1) := by decide +kernel
theorem dX6_readsJoin_27 : decode cX6_readsJoin 27 = .ok (.bipush 109, 2) := by decide +kernel
theorem dX6_readsJoin_29 : decode cX6_readsJoin 29 = .ok (.invokevirtual 167, 3) := by decide +kernel
theorem dX6_readsJoin_32 : decode cX6_readsJoin 32 = .ok (.ifCond .eq 7, 3) := by decide +kernel
theorem dX6_readsJoin_35 : decode cX6_readsJoin 35 = .ok (.iconst 2, 1) := by decide +kernel
theorem dX6_readsJoin_36 : decode cX6_readsJoin 36 = .ok (.goto 5, 3) := by decide +kernel
theorem dX6_readsJoin_39 : decode cX6_readsJoin 39 = .ok (.bipush (-5), 2) := by decide +kernel
theorem dX6_readsJoin_41 : decode cX6_readsJoin 41 = .ok (.istore_n 1, 1) := by decide +kernel
theorem dX6_readsJoin_42 : decode cX6_readsJoin 42 = .ok (.iload_n 1, 1) := by decide +kernel
theorem dX6_readsJoin_43 : decode cX6_readsJoin 43 = .ok (.bipush (-5), 2) := by decide +kernel
theorem dX6_readsJoin_45 : decode cX6_readsJoin 45 = .ok (.if_icmp .eq 10, 3) := by decide +kernel
theorem dX6_readsJoin_48 : decode cX6_readsJoin 48 = .ok (.aload_n 0, 1) := by decide +kernel
theorem dX6_readsJoin_49 : decode cX6_readsJoin 49 = .ok (.invokevirtual 170, 3) := by decide +kernel
theorem dX6_readsJoin_52 : decode cX6_readsJoin 52 = .ok (.ifCond .ne 5, 3) := by decide +kernel
theorem dX6_readsJoin_55 : decode cX6_readsJoin 55 = .ok (.iconst 0, 1) := by decide +kernel
theorem dX6_readsJoin_56 : decode cX6_readsJoin 56 = .ok (.ireturn, 1) := by decide +kernel
theorem dX6_readsJoin_57 : decode cX6_readsJoin 57 = .ok (.aload_n 0, 1) := by decide +kernel
theorem dX6_readsJoin_58 : decode cX6_readsJoin 58 = .ok (.getfield 164, 3) := by decide +kernel
theorem dX6_readsJoin_61 : decode cX6_readsJoin 61 = .ok (.istore_n 2, 1) := by decide +kernel
theorem dX6_readsJoin_62 : decode cX6_readsJoin 62 = .ok (.aload_n 0, 1) := by decide +kernel
theorem dX6_readsJoin_63 : decode cX6_readsJoin 63 = .ok (.bipush 120, 2) := by decide +kernel
theorem dX6_readsJoin_65 : decode cX6_readsJoin 65 = .ok (.invokevirtual 167, 3) := by decide +kernel
theorem dX6_readsJoin_68 : decode cX6_readsJoin 68 = .ok (.ifCond .eq 10, 3) := by decide +kernel
theorem dX6_readsJoin_71 : decode cX6_readsJoin 71 = .ok (.aload_n 0, 1) := by decide +kernel
theorem dX6_readsJoin_72 : decode cX6_readsJoin 72 = .ok (.invokevirtual 170, 3) := by decide +kernel
theorem dX6_readsJoin_75 : decode cX6_readsJoin 75 = .ok (.ifCond .ne 5, 3) := by decide +kernel
theorem dX6_readsJoin_78 : decode cX6_readsJoin 78 = .ok (.iconst 0, 1) := by decide +kernel
theorem dX6_readsJoin_79 : decode cX6_readsJoin 79 = .ok (.ireturn, 1) := by decide +kernel
theorem dX6_readsJoin_80 : decode cX6_readsJoin 80 = .ok (.aload_n 0, 1) := by decide +kernel
theorem dX6_readsJoin_81 : decode cX6_readsJoin 81 = .ok (.getfield 28, 3) := by decide +kernel
theorem dX6_readsJoin_84 : decode cX6_readsJoin 84 = .ok (.iconst 3, 1) := by decide +kernel
theorem dX6_readsJoin_85 : decode cX6_readsJoin 85 = .ok (.aload_n 0, 1) := by decide +kernel
theorem dX6_readsJoin_86 : decode cX6_readsJoin 86 = .ok (.getfield 174, 3) := by decide +kernel
theorem dX6_readsJoin_89 : decode cX6_readsJoin 89 = .ok (.imul, 1) := by decide +kernel
theorem dX6_readsJoin_90 : decode cX6_readsJoin 90 = .ok (.iload_n 1, 1) := by decide +kernel
theorem dX6_readsJoin_91 : decode cX6_readsJoin 91 = .ok (.iastore, 1) := by decide +kernel
theorem dX6_readsJoin_92 : decode cX6_readsJoin 92 = .ok (.aload_n 0, 1) := by decide +kernel
theorem dX6_readsJoin_93 : decode cX6_readsJoin 93 = .ok (.getfield 28, 3) := by decide +kernel
theorem dX6_readsJoin_96 : decode cX6_readsJoin 96 = .ok (.iconst 3, 1) := by decide +kernel
theorem dX6_readsJoin_97 : decode cX6_readsJoin 97 = .ok (.aload_n 0, 1) := by decide +kernel
theorem dX6_readsJoin_98 : decode cX6_readsJoin 98 = .ok (.getfield 174, 3) := by decide +kernel
theorem dX6_readsJoin_101 : decode cX6_readsJoin 101 = .ok (.imul, 1) := by decide +kernel
theorem dX6_readsJoin_102 : decode cX6_readsJoin 102 = .ok (.iconst 1, 1) := by decide +kernel
theorem dX6_readsJoin_103 : decode cX6_readsJoin 103 = .ok (.iadd, 1) := by decide +kernel
theorem dX6_readsJoin_104 : decode cX6_readsJoin 104 = .ok (.iload_n 2, 1) := by decide +kernel
theorem dX6_readsJoin_105 : decode cX6_readsJoin 105 = .ok (.iastore, 1) := by decide +kernel
theorem dX6_readsJoin_106 : decode cX6_readsJoin 106 = .ok (.aload_n 0, 1) := by decide +kernel
theorem dX6_readsJoin_107 : decode cX6_readsJoin 107 = .ok (.getfield 28, 3) := by decide +kernel
theorem dX6_readsJoin_110 : decode cX6_readsJoin 110 = .ok (.iconst 3, 1) := by decide +kernel
theorem dX6_readsJoin_111 : decode cX6_readsJoin 111 = .ok (.aload_n 0, 1) := by decide +kernel
theorem dX6_readsJoin_112 : decode cX6_readsJoin 112 = .ok (.getfield 174, 3) := by decide +kernel
theorem dX6_readsJoin_115 : decode cX6_readsJoin 115 = .ok (.imul, 1) := by decide +kernel
theorem dX6_readsJoin_116 : decode cX6_readsJoin 116 = .ok (.iconst 2, 1) := by decide +kernel
theorem dX6_readsJoin_117 : decode cX6_readsJoin 117 = .ok (.iadd, 1) := by decide +kernel
theorem dX6_readsJoin_118 : decode cX6_readsJoin 118 = .ok (.aload_n 0, 1) := by decide +kernel
theorem dX6_readsJoin_119 : decode cX6_readsJoin 119 = .ok (.getfield 164, 3) := by decide +kernel
theorem dX6_readsJoin_122 : decode cX6_readsJoin 122 = .ok (.iastore, 1) := by decide +kernel
theorem dX6_readsJoin_123 : decode cX6_readsJoin 123 = .ok (.aload_n 0, 1) := by decide +kernel
theorem dX6_readsJoin_124 : decode cX6_readsJoin 124 = .ok (.dup, 1) := by decide +kernel
theorem dX6_readsJoin_125 : decode cX6_readsJoin 125 = .ok (.getfield 174, 3) := by decide +kernel
theorem dX6_readsJoin_128 : decode cX6_readsJoin 128 = .ok (.iconst 1, 1) := by decide +kernel
theorem dX6_readsJoin_129 : decode cX6_readsJoin 129 = .ok (.iadd, 1) := by decide +kernel
theorem dX6_readsJoin_130 : decode cX6_readsJoin 130 = .ok (.putfield 174, 3) := by decide +kernel
theorem dX6_readsJoin_133 : decode cX6_readsJoin 133 = .ok (.iconst 1, 1) := by decide +kernel
theorem dX6_readsJoin_134 : decode cX6_readsJoin 134 = .ok (.ireturn, 1) := by decide +kernel
set_option maxRecDepth 20000 in
theorem ggX6_fault_X6_readsJoin : GoodIn wsX6_fault wsX6_readsJoin := goodIn_r _ [8, 9, 10, 2, 11, 12, 13, 7, 14, 1, 15, 16, 17, 18, 3, 19, 20, 21, 22, 23, 24, 25, 26, 27, 28, 29, 30, 31, 32, 33, 34, 35, 36, 37, 38, 39] (by decide +kernel) (by decide +kernel)
set_option maxRecDepth 20000 in
theorem gX6_fault_X6_readsJoin : GoodIn wsX6_fault (wsV RX6 177 RX6 yX6_readsJoin wsX6_readsJoin) := goodIn_app (goodIn_of _ (by decide +kernel)) ggX6_fault_X6_readsJoin
set_option maxRecDepth 20000 in
theorem ggX6_fault_X6_takes : GoodIn wsX6_fault wsX6_takes := goodIn_r _ [14, 1, 15, 16, 17, 7, 18, 3, 19, 20, 21, 22, 27, 28, 29, 30, 31, 32, 33, 34, 35, 36, 37, 38, 39] (by decide +kernel) (by decide +kernel)
set_option maxRecDepth 20000 in
theorem gX6_fault_X6_takes : GoodIn wsX6_fault (wsV RX6 167 RX6 yX6_takes wsX6_takes) := goodIn_app (goodIn_of _ (by decide +kernel)) ggX6_fault_X6_takes
theorem dX6_fault_0 : decode cX6_fault 0 = .ok (.aload_n 0, 1) := by decide +kernel
theorem dX6_fault_1 : decode cX6_fault 1 = .ok (.iconst 0, 1) := by decide +kernel
theorem dX6_fault_2 : decode cX6_fault 2 = .ok (.putfield 158, 3) := by decide +kernel
theorem dX6_fault_5 : decode cX6_fault 5 = .ok (.aload_n 0, 1) := by decide +kernel
theorem dX6_fault_6 : decode cX6_fault 6 = .ok (.iconst 0, 1) := by decide +kernel
theorem dX6_fault_7 : decode cX6_fault 7 = .ok (.putfield 174, 3) := by decide +kernel
theorem dX6_fault_10 : decode cX6_fault 10 = .ok (.iconst 1, 1) := by decide +kernel
theorem dX6_fault_11 : decode cX6_fault 11 = .ok (.istore_n 1, 1) := by decide +kernel
theorem dX6_fault_12 : decode cX6_fault 12 = .ok (.iload_n 1, 1) := by decide +kernel
theorem dX6_fault_13 : decode cX6_fault 13 = .ok (.ifCond .eq 25, 3) := by decide +kernel
theorem dX6_fault_16 : decode cX6_fault 16 = .ok (.aload_n 0, 1) := by decide +kernel
theorem dX6_fault_17 : decode cX6_fault 17 = .ok (.invokevirtual 177, 3) := by decide +kernel
theorem dX6_fault_20 : decode cX6_fault 20 = .ok (.ifCond .ne 8, 3) := by decide +kernel
theorem dX6_fault_23 : decode cX6_fault 23 = .ok (.aload_n 0, 1) := by decide +kernel
theorem dX6_fault_24 : decode cX6_fault 24 = .ok (.getfield 158, 3) := by decide +kernel
theorem dX6_fault_27 : decode cX6_fault 27 = .ok (.ireturn, 1) := by decide +kernel
theorem dX6_fault_28 : decode cX6_fault 28 = .ok (.aload_n 0, 1) := by decide +kernel
theorem dX6_fault_29 : decode cX6_fault 29 = .ok (.bipush 44, 2) := by decide +kernel
theorem dX6_fault_31 : decode cX6_fault 31 = .ok (.invokevirtual 167, 3) := by decide +kernel
theorem dX6_fault_34 : decode cX6_fault 34 = .ok (.istore_n 1, 1) := by decide +kernel
theorem dX6_fault_35 : decode cX6_fault 35 = .ok (.goto (-23), 3) := by decide +kernel
theorem dX6_fault_38 : decode cX6_fault 38 = .ok (.aload_n 0, 1) := by decide +kernel
theorem dX6_fault_39 : decode cX6_fault 39 = .ok (.getfield 158, 3) := by decide +kernel
theorem dX6_fault_42 : decode cX6_fault 42 = .ok (.aload_n 0, 1) := by decide +kernel
theorem dX6_fault_43 : decode cX6_fault 43 = .ok (.getfield 155, 3) := by decide +kernel
theorem dX6_fault_46 : decode cX6_fault 46 = .ok (.if_icmp .ne 8, 3) := by decide +kernel
theorem dX6_fault_49 : decode cX6_fault 49 = .ok (.bipush (-5), 2) := by decide +kernel
theorem dX6_fault_51 : decode cX6_fault 51 = .ok (.goto 7, 3) := by decide +kernel
theorem dX6_fault_54 : decode cX6_fault 54 = .ok (.aload_n 0, 1) := by decide +kernel
theorem dX6_fault_55 : decode cX6_fault 55 = .ok (.getfield 158, 3) := by decide +kernel
theorem dX6_fault_58 : decode cX6_fault 58 = .ok (.ireturn, 1) := by decide +kernel
set_option maxRecDepth 20000 in
theorem ggX6_askAll_X6_fault : GoodIn wsX6_askAll wsX6_fault := goodIn_r _ [8, 9, 2, 10, 11, 12, 13, 7, 14, 15, 3, 16, 17, 18, 19, 20, 21, 22, 23, 24, 25, 26, 27, 28, 29, 30, 31, 133, 134, 135, 136, 137, 138, 139, 140, 141, 142, 143, 144, 145] (by decide +kernel) (by decide +kernel)
set_option maxRecDepth 20000 in
theorem gX6_askAll_X6_fault : GoodIn wsX6_askAll (wsV RX6 180 RX6 yX6_fault wsX6_fault) := goodIn_app (goodIn_of _ (by decide +kernel)) ggX6_askAll_X6_fault
set_option maxRecDepth 20000 in
theorem ggX6_askAll_X6_remember : GoodIn wsX6_askAll wsX6_remember := goodIn_r _ [35, 1, 36, 37, 38, 7, 39, 133, 134, 135, 136, 137, 138, 139, 140, 141, 142, 143, 144, 145] (by decide +kernel) (by decide +kernel)
set_option maxRecDepth 20000 in
theorem gX6_askAll_X6_remember : GoodIn wsX6_askAll (wsV RX6 129 RX6 yX6_remember wsX6_remember) := goodIn_app (goodIn_of _ (by decide +kernel)) ggX6_askAll_X6_remember
set_option maxRecDepth 20000 in
theorem ggX6_askAll_X6_comes : GoodIn wsX6_askAll wsX6_comes := goodIn_r _ [43, 1, 44, 45, 46, 7, 47, 48, 49, 50, 51, 52, 53, 54, 55, 56, 57, 58, 59, 60, 61, 62, 63, 64, 65, 66, 67, 68, 69, 70, 71, 72, 73, 74, 75, 76, 77, 78, 79, 80, 81, 82, 83, 84, 85, 86, 87, 88, 89, 90, 91, 92, 93, 94, 95, 96, 97, 98, 99, 100, 101, 102, 103, 104, 105, 106, 107, 108, 109, 110, 111, 112, 113, 114, 115, 116, 117, 118, 119, 120, 121, 122, 123, 124, 125, 126, 133, 134, 135, 136, 137, 138, 139, 140, 141, 142, 143, 144, 145] (by decide +kernel) (by decide +kernel)
set_option maxRecDepth 20000 in
theorem gX6_askAll_X6_comes : GoodIn wsX6_askAll (wsV RX6 132 RX6 yX6_comes wsX6_comes) := goodIn_app (goodIn_of _ (by decide +kernel)) ggX6_askAll_X6_comes
set_option maxRecDepth 20000 in
theorem ggX6_askAll_X6_acted : GoodIn wsX6_askAll wsX6_acted := goodIn_r _ [130, 131, 132, 36, 133, 134, 135, 136, 137, 138, 139, 140, 141, 142, 143, 144, 145] (by decide +kernel) (by decide +kernel)
set_option maxRecDepth 20000 in
theorem gX6_askAll_X6_acted : GoodIn wsX6_askAll (wsV RX6 135 RX6 yX6_acted wsX6_acted) := goodIn_app (goodIn_of _ (by decide +kernel)) ggX6_askAll_X6_acted
theorem dX6_askAll_0 : decode cX6_askAll 0 = .ok (.aload_n 0, 1) := by decide +kernel
theorem dX6_askAll_1 : decode cX6_askAll 1 = .ok (.invokevirtual 180, 3) := by decide +kernel
theorem dX6_askAll_4 : decode cX6_askAll 4 = .ok (.istore_n 1, 1) := by decide +kernel
theorem dX6_askAll_5 : decode cX6_askAll 5 = .ok (.iload_n 1, 1) := by decide +kernel
theorem dX6_askAll_6 : decode cX6_askAll 6 = .ok (.bipush (-5), 2) := by decide +kernel
theorem dX6_askAll_8 : decode cX6_askAll 8 = .ok (.if_icmp .eq 8, 3) := by decide +kernel
theorem dX6_askAll_11 : decode cX6_askAll 11 = .ok (.bipush (-100), 2) := by decide +kernel
theorem dX6_askAll_13 : decode cX6_askAll 13 = .ok (.iload_n 1, 1) := by decide +kernel
theorem dX6_askAll_14 : decode cX6_askAll 14 = .ok (.isub, 1) := by decide +kernel
theorem dX6_askAll_15 : decode cX6_askAll 15 = .ok (.ireturn, 1) := by decide +kernel
theorem dX6_askAll_16 : decode cX6_askAll 16 = .ok (.aload_n 0, 1) := by decide +kernel
theorem dX6_askAll_17 : decode cX6_askAll 17 = .ok (.getfield 7, 3) := by decide +kernel
theorem dX6_askAll_20 : decode cX6_askAll 20 = .ok (.iconst 4, 1) := by decide +kernel
theorem dX6_askAll_21 : decode cX6_askAll 21 = .ok (.iaload, 1) := by decide +kernel
theorem dX6_askAll_22 : decode cX6_askAll 22 = .ok (.aload_n 0, 1) := by decide +kernel
theorem dX6_askAll_23 : decode cX6_askAll 23 = .ok (.getfield 174, 3) := by decide +kernel
theorem dX6_askAll_26 : decode cX6_askAll 26 = .ok (.iadd, 1) := by decide +kernel
theorem dX6_askAll_27 : decode cX6_askAll 27 = .ok (.bipush 16, 2) := by decide +kernel
theorem dX6_askAll_29 : decode cX6_askAll 29 = .ok (.if_icmp .le 6, 3) := by decide +kernel
theorem dX6_askAll_32 : decode cX6_askAll 32 = .ok (.bipush (-3), 2) := by decide +kernel
theorem dX6_askAll_34 : decode cX6_askAll 34 = .ok (.ireturn, 1) := by decide +kernel
theorem dX6_askAll_35 : decode cX6_askAll 35 = .ok (.aload_n 0, 1) := by decide +kernel
theorem dX6_askAll_36 : decode cX6_askAll 36 = .ok (.invokevirtual 129, 3) := by decide +kernel
theorem dX6_askAll_39 : decode cX6_askAll 39 = .ok (.iconst 0, 1) := by decide +kernel
theorem dX6_askAll_40 : decode cX6_askAll 40 = .ok (.istore_n 2, 1) := by decide +kernel
theorem dX6_askAll_41 : decode cX6_askAll 41 = .ok (.iload_n 2, 1) := by decide +kernel
theorem dX6_askAll_42 : decode cX6_askAll 42 = .ok (.iconst 3, 1) := by decide +kernel
theorem dX6_askAll_43 : decode cX6_askAll 43 = .ok (.aload_n 0, 1) := by decide +kernel
theorem dX6_askAll_44 : decode cX6_askAll 44 = .ok (.getfield 174, 3) := by decide +kernel
theorem dX6_askAll_47 : decode cX6_askAll 47 = .ok (.imul, 1) := by decide +kernel
theorem dX6_askAll_48 : decode cX6_askAll 48 = .ok (.if_icmp .ge 35, 3) := by decide +kernel
theorem dX6_askAll_51 : decode cX6_askAll 51 = .ok (.aload_n 0, 1) := by decide +kernel
theorem dX6_askAll_52 : decode cX6_askAll 52 = .ok (.aload_n 0, 1) := by decide +kernel
theorem dX6_askAll_53 : decode cX6_askAll 53 = .ok (.getfield 28, 3) := by decide +kernel
theorem dX6_askAll_56 : decode cX6_askAll 56 = .ok (.iload_n 2, 1) := by decide +kernel
theorem dX6_askAll_57 : decode cX6_askAll 57 = .ok (.iaload, 1) := by decide +kernel
theorem dX6_askAll_58 : decode cX6_askAll 58 = .ok (.aload_n 0, 1) := by decide +kernel
theorem dX6_askAll_59 : decode cX6_askAll 59 = .ok (.getfield 28, 3) := by decide +kernel
theorem dX6_askAll_62 : decode cX6_askAll 62 = .ok (.iload_n 2, 1) := by decide +kernel
theorem dX6_askAll_63 : decode cX6_askAll 63 = .ok (.iconst 1, 1) := by decide +kernel
theorem dX6_askAll_64 : decode cX6_askAll 64 = .ok (.iadd, 1) := by decide +kernel
theorem dX6_askAll_65 : decode cX6_askAll 65 = .ok (.iaload, 1) := by decide +kernel
theorem dX6_askAll_66 : decode cX6_askAll 66 = .ok (.aload_n 0, 1) := by decide +kernel
theorem dX6_askAll_67 : decode cX6_askAll 67 = .ok (.getfield 28, 3) := by decide +kernel
theorem dX6_askAll_70 : decode cX6_askAll 70 = .ok (.iload_n 2, 1) := by decide +kernel
theorem dX6_askAll_71 : decode cX6_askAll 71 = .ok (.iconst 2, 1) := by decide +kernel
theorem dX6_askAll_72 : decode cX6_askAll 72 = .ok (.iadd, 1) := by decide +kernel
theorem dX6_askAll_73 : decode cX6_askAll 73 = .ok (.iaload, 1) := by decide +kernel
theorem dX6_askAll_74 : decode cX6_askAll 74 = .ok (.invokevirtual 132, 3) := by decide +kernel
theorem dX6_askAll_77 : decode cX6_askAll 77 = .ok (.iinc 2 3, 3) := by decide +kernel
theorem dX6_askAll_80 : decode cX6_askAll 80 = .ok (.goto (-39), 3) := by decide +kernel
theorem dX6_askAll_83 : decode cX6_askAll 83 = .ok (.aload_n 0, 1) := by decide +kernel
theorem dX6_askAll_84 : decode cX6_askAll 84 = .ok (.aload_n 0, 1) := by decide +kernel
theorem dX6_askAll_85 : decode cX6_askAll 85 = .ok (.getfield 174, 3) := by decide +kernel
theorem dX6_askAll_88 : decode cX6_askAll 88 = .ok (.invokevirtual 135, 3) := by decide +kernel
theorem dX6_askAll_91 : decode cX6_askAll 91 = .ok (.ireturn, 1) := by decide +kernel
theorem dX6_undo_0 : decode cX6_undo 0 = .ok (.aload_n 0, 1) := by decide +kernel
theorem dX6_undo_1 : decode cX6_undo 1 = .ok (.getfield 35, 3) := by decide +kernel
theorem dX6_undo_4 : decode cX6_undo 4 = .ok (.ifCond .ne 6, 3) := by decide +kernel
theorem dX6_undo_7 : decode cX6_undo 7 = .ok (.bipush (-5), 2) := by decide +kernel
theorem dX6_undo_9 : decode cX6_undo 9 = .ok (.ireturn, 1) := by decide +kernel
theorem dX6_undo_10 : decode cX6_undo 10 = .ok (.aload_n 0, 1) := by decide +kernel
theorem dX6_undo_11 : decode cX6_undo 11 = .ok (.dup, 1) := by decide +kernel
theorem dX6_undo_12 : decode cX6_undo 12 = .ok (.getfield 35, 3) := by decide +kernel
theorem dX6_undo_15 : decode cX6_undo 15 = .ok (.iconst 1, 1) := by decide +kernel
theorem dX6_undo_16 : decode cX6_undo 16 = .ok (.isub, 1) := by decide +kernel
theorem dX6_undo_17 : decode cX6_undo 17 = .ok (.putfield 35, 3) := by decide +kernel
theorem dX6_undo_20 : decode cX6_undo 20 = .ok (.iconst 0, 1) := by decide +kernel
theorem dX6_undo_21 : decode cX6_undo 21 = .ok (.istore_n 1, 1) := by decide +kernel
theorem dX6_undo_22 : decode cX6_undo 22 = .ok (.iload_n 1, 1) := by decide +kernel
theorem dX6_undo_23 : decode cX6_undo 23 = .ok (.sipush 153, 3) := by decide +kernel
theorem dX6_undo_26 : decode cX6_undo 26 = .ok (.if_icmp .ge 30, 3) := by decide +kernel
theorem dX6_undo_29 : decode cX6_undo 29 = .ok (.aload_n 0, 1) := by decide +kernel
theorem dX6_undo_30 : decode cX6_undo 30 = .ok (.getfield 7, 3) := by decide +kernel
theorem dX6_undo_33 : decode cX6_undo 33 = .ok (.iload_n 1, 1) := by decide +kernel
theorem dX6_undo_34 : decode cX6_undo 34 = .ok (.aload_n 0, 1) := by decide +kernel
theorem dX6_undo_35 : decode cX6_undo 35 = .ok (.getfield 19, 3) := by decide +kernel
theorem dX6_undo_38 : decode cX6_undo 38 = .ok (.sipush 153, 3) := by decide +kernel
theorem dX6_undo_41 : decode cX6_undo 41 = .ok (.aload_n 0, 1) := by decide +kernel
theorem dX6_undo_42 : decode cX6_undo 42 = .ok (.getfield 35, 3) := by decide +kernel
theorem dX6_undo_45 : decode cX6_undo 45 = .ok (.imul, 1) := by decide +kernel
theorem dX6_undo_46 : decode cX6_undo 46 = .ok (.iload_n 1, 1) := by decide +kernel
theorem dX6_undo_47 : decode cX6_undo 47 = .ok (.iadd, 1) := by decide +kernel
theorem dX6_undo_48 : decode cX6_undo 48 = .ok (.iaload, 1) := by decide +kernel
theorem dX6_undo_49 : decode cX6_undo 49 = .ok (.iastore, 1) := by decide +kernel
theorem dX6_undo_50 : decode cX6_undo 50 = .ok (.iinc 1 1, 3) := by decide +kernel
theorem dX6_undo_53 : decode cX6_undo 53 = .ok (.goto (-31), 3) := by decide +kernel
theorem dX6_undo_56 : decode cX6_undo 56 = .ok (.aload_n 0, 1) := by decide +kernel
theorem dX6_undo_57 : decode cX6_undo 57 = .ok (.getfield 35, 3) := by decide +kernel
theorem dX6_undo_60 : decode cX6_undo 60 = .ok (.ireturn, 1) := by decide +kernel
set_option maxRecDepth 20000 in
theorem ggX6_keep_X6_copy : GoodIn wsX6_keep wsX6_copy := goodIn_r _ [7] (by decide +kernel) (by decide +kernel)
set_option maxRecDepth 20000 in
theorem gX6_keep_X6_copy : GoodIn wsX6_keep (va_wsS RX6 31 yX6_copy wsX6_copy) := goodIn_app (goodIn_of _ (by decide +kernel)) ggX6_keep_X6_copy
theorem dX6_keep_0 : decode cX6_keep 0 = .ok (.aload_n 0, 1) := by decide +kernel
theorem dX6_keep_1 : decode cX6_keep 1 = .ok (.getfield 7, 3) := by decide +kernel
theorem dX6_keep_4 : decode cX6_keep 4 = .ok (.aload_n 0, 1) := by decide +kernel
theorem dX6_keep_5 : decode cX6_keep 5 = .ok (.getfield 22, 3) := by decide +kernel
theorem dX6_keep_8 : decode cX6_keep 8 = .ok (.invokestatic 31, 3) := by decide +kernel
theorem dX6_keep_11 : decode cX6_keep 11 = .ok (.aload_n 0, 1) := by decide +kernel
theorem dX6_keep_12 : decode cX6_keep 12 = .ok (.iconst 1, 1) := by decide +kernel
theorem dX6_keep_13 : decode cX6_keep 13 = .ok (.putfield 183, 3) := by decide +kernel
theorem dX6_keep_16 : decode cX6_keep 16 = .ok (.aload_n 0, 1) := by decide +kernel
theorem dX6_keep_17 : decode cX6_keep 17 = .ok (.getfield 7, 3) := by decide +kernel
theorem dX6_keep_20 : decode cX6_keep 20 = .ok (.bipush 6, 2) := by decide +kernel
theorem dX6_keep_22 : decode cX6_keep 22 = .ok (.iaload, 1) := by decide +kernel
theorem dX6_keep_23 : decode cX6_keep 23 = .ok (.ireturn, 1) := by decide +kernel
set_option maxRecDepth 20000 in
theorem ggX6_restore_X6_remember : GoodIn wsX6_restore wsX6_remember := goodIn_r _ [8, 3, 9, 10, 11, 7, 12, 19, 20, 21, 22, 23, 24, 25, 26, 27, 28, 29, 30, 31] (by decide +kernel) (by decide +kernel)
set_option maxRecDepth 20000 in
theorem gX6_restore_X6_remember : GoodIn wsX6_restore (wsV RX6 129 RX6 yX6_remember wsX6_remember) := goodIn_app (goodIn_of _ (by decide +kernel)) ggX6_restore_X6_remember
set_option maxRecDepth 20000 in
theorem ggX6_restore_X6_copy : GoodIn wsX6_restore wsX6_copy := goodIn_r _ [12] (by decide +kernel) (by decide +kernel)
set_option maxRecDepth 20000 in
theorem gX6_restore_X6_copy : GoodIn wsX6_restore (va_wsS RX6 31 yX6_copy wsX6_copy) := goodIn_app (goodIn_of _ (by decide +kernel)) ggX6_restore_X6_copy
set_option maxRecDepth 20000 in
theorem ggX6_restore_X6_acted : GoodIn wsX6_restore wsX6_acted := goodIn_r _ [16, 17, 18, 9, 19, 20, 21, 22, 23, 24, 25, 26, 27, 28, 29, 30, 31] (by decide +kernel) (by decide +kernel)
set_option maxRecDepth 20000 in
theorem gX6_restore_X6_acted : GoodIn wsX6_restore (wsV RX6 135 RX6 yX6_acted wsX6_acted) := goodIn_app (goodIn_of _ (by decide +kernel)) ggX6_restore_X6_acted
theorem dX6_restore_0 : decode cX6_restore 0 = .ok (.aload_n 0, 1) := by decide +kernel
theorem dX6_restore_1 : decode cX6_restore 1 = .ok (.getfield 183, 3) := by decide +kernel
theorem dX6_restore_4 : decode cX6_restore 4 = .ok (.ifCond .ne 6, 3) := by decide +kernel
theorem dX6_restore_7 : decode cX6_restore 7 = .ok (.bipush (-5), 2) := by decide +kernel
theorem dX6_restore_9 : decode cX6_restore 9 = .ok (.ireturn, 1) := by decide +kernel
theorem dX6_restore_10 : decode cX6_restore 10 = .ok (.aload_n 0, 1) := by decide +kernel
theorem dX6_restore_11 : decode cX6_restore 11 = .ok (.invokevirtual 129, 3) := by decide +kernel
theorem dX6_restore_14 : decode cX6_restore 14 = .ok (.aload_n 0, 1) := by decide +kernel
theorem dX6_restore_15 : decode cX6_restore 15 = .ok (.getfield 22, 3) := by decide +kernel
theorem dX6_restore_18 : decode cX6_restore 18 = .ok (.aload_n 0, 1) := by decide +kernel
theorem dX6_restore_19 : decode cX6_restore 19 = .ok (.getfield 7, 3) := by decide +kernel
theorem dX6_restore_22 : decode cX6_restore 22 = .ok (.invokestatic 31, 3) := by decide +kernel
theorem dX6_restore_25 : decode cX6_restore 25 = .ok (.aload_n 0, 1) := by decide +kernel
theorem dX6_restore_26 : decode cX6_restore 26 = .ok (.aload_n 0, 1) := by decide +kernel
theorem dX6_restore_27 : decode cX6_restore 27 = .ok (.getfield 7, 3) := by decide +kernel
theorem dX6_restore_30 : decode cX6_restore 30 = .ok (.bipush 6, 2) := by decide +kernel
theorem dX6_restore_32 : decode cX6_restore 32 = .ok (.iaload, 1) := by decide +kernel
theorem dX6_restore_33 : decode cX6_restore 33 = .ok (.invokevirtual 135, 3) := by decide +kernel
theorem dX6_restore_36 : decode cX6_restore 36 = .ok (.ireturn, 1) := by decide +kernel
set_option maxRecDepth 20000 in
theorem ggX6_spills_X6_is : GoodIn wsX6_spills wsX6_is := goodIn_r _ [5, 6, 7, 8, 4, 9, 10, 24, 25, 26, 27, 28, 29, 30, 31, 32, 33, 34, 35, 36] (by decide +kernel) (by decide +kernel)
set_option maxRecDepth 20000 in
theorem gX6_spills_X6_is : GoodIn wsX6_spills (wsV RX6 69 RX6 yX6_is wsX6_is) := goodIn_app (goodIn_of _ (by decide +kernel)) ggX6_spills_X6_is
set_option maxRecDepth 20000 in
theorem ggX6_spills_X6_of : GoodIn wsX6_spills wsX6_of := goodIn_r _ [9, 10, 24, 25, 26, 27, 28, 29, 30, 31, 32, 33, 34, 35, 36] (by decide +kernel) (by decide +kernel)
set_option maxRecDepth 20000 in
theorem gX6_spills_X6_of : GoodIn wsX6_spills (wsV RX6 58 RX6 yX6_of wsX6_of) := goodIn_app (goodIn_of _ (by decide +kernel)) ggX6_spills_X6_of
set_option maxRecDepth 20000 in
theorem ggX6_spills_X6_wants : GoodIn wsX6_spills wsX6_wants := goodIn_r _ [14, 6, 7, 8, 4, 9, 10, 15, 16, 17, 18, 19, 20, 21, 22, 23, 24, 25, 26, 27, 28, 29, 30, 31, 32, 33, 34, 35, 36] (by decide +kernel) (by decide +kernel)
set_option maxRecDepth 20000 in
theorem gX6_spills_X6_wants : GoodIn wsX6_spills (wsV RX6 99 RX6 yX6_wants wsX6_wants) := goodIn_app (goodIn_of _ (by decide +kernel)) ggX6_spills_X6_wants
theorem dX6_spills_0 : decode cX6_spills 0 = .ok (.aload_n 0, 1) := by decide +kernel
theorem dX6_spills_1 : decode cX6_spills 1 = .ok (.iload_n 1, 1) := by decide +kernel
theorem dX6_spills_2 : decode cX6_spills 2 = .ok (.iconst 1, 1) := by decide +kernel
theorem dX6_spills_3 : decode cX6_spills 3 = .ok (.invokevirtual 69, 3) := by decide +kernel
theorem dX6_spills_6 : decode cX6_spills 6 = .ok (.ifCond .eq 30, 3) := by decide +kernel
theorem dX6_spills_9 : decode cX6_spills 9 = .ok (.aload_n 0, 1) := by decide +kernel
theorem dX6_spills_10 : decode cX6_spills 10 = .ok (.iload_n 1, 1) := by decide +kernel
theorem dX6_spills_11 : decode cX6_spills 11 = .ok (.iconst 0, 1) := by decide +kernel
theorem dX6_spills_12 : decode cX6_spills 12 = .ok (.invokevirtual 58, 3) := by decide +kernel
theorem dX6_spills_15 : decode cX6_spills 15 = .ok (.ifCond .eq 21, 3) := by decide +kernel
theorem dX6_spills_18 : decode cX6_spills 18 = .ok (.aload_n 0, 1) := by decide +kernel
theorem dX6_spills_19 : decode cX6_spills 19 = .ok (.iload_n 1, 1) := by decide +kernel
theorem dX6_spills_20 : decode cX6_spills 20 = .ok (.iconst 4, 1) := by decide +kernel
theorem dX6_spills_21 : decode cX6_spills 21 = .ok (.invokevirtual 58, 3) := by decide +kernel
theorem dX6_spills_24 : decode cX6_spills 24 = .ok (.aload_n 0, 1) := by decide +kernel
theorem dX6_spills_25 : decode cX6_spills 25 = .ok (.iload_n 1, 1) := by decide +kernel
theorem dX6_spills_26 : decode cX6_spills 26 = .ok (.invokevirtual 99, 3) := by decide +kernel
theorem dX6_spills_29 : decode cX6_spills 29 = .ok (.if_icmp .ge 7, 3) := by decide +kernel
theorem dX6_spills_32 : decode cX6_spills 32 = .ok (.iconst 1, 1) := by decide +kernel
theorem dX6_spills_33 : decode cX6_spills 33 = .ok (.goto 4, 3) := by decide +kernel
theorem dX6_spills_36 : decode cX6_spills 36 = .ok (.iconst 0, 1) := by decide +kernel
theorem dX6_spills_37 : decode cX6_spills 37 = .ok (.ireturn, 1) := by decide +kernel
set_option maxRecDepth 20000 in
theorem ggX6_join_X6_isJoin : GoodIn wsX6_join wsX6_isJoin := goodIn_r _ [5, 6, 7, 8, 4, 9, 39, 40, 41, 42, 43, 44, 45, 46, 47, 48, 49, 50, 51] (by decide +kernel) (by decide +kernel)
set_option maxRecDepth 20000 in
theorem gX6_join_X6_isJoin : GoodIn wsX6_join (wsV RX6 138 RX6 yX6_isJoin wsX6_isJoin) := goodIn_app (goodIn_of _ (by decide +kernel)) ggX6_join_X6_isJoin
set_option maxRecDepth 20000 in
theorem ggX6_join_X6_of : GoodIn wsX6_join wsX6_of := goodIn_r _ [13, 6, 39, 40, 41, 42, 43, 44, 45, 46, 47, 48, 49, 50, 51] (by decide +kernel) (by decide +kernel)
set_option maxRecDepth 20000 in
theorem gX6_join_X6_of : GoodIn wsX6_join (wsV RX6 58 RX6 yX6_of wsX6_of) := goodIn_app (goodIn_of _ (by decide +kernel)) ggX6_join_X6_of
set_option maxRecDepth 20000 in
theorem ggX6_join_X6_needs : GoodIn wsX6_join wsX6_needs := goodIn_r _ [17, 10, 11, 12, 4, 13, 6, 18, 19, 20, 21, 22, 23, 39, 40, 41, 42, 43, 44, 45, 46, 47, 48, 49, 50, 51] (by decide +kernel) (by decide +kernel)
set_option maxRecDepth 20000 in
theorem gX6_join_X6_needs : GoodIn wsX6_join (wsV RX6 73 RX6 yX6_needs wsX6_needs) := goodIn_app (goodIn_of _ (by decide +kernel)) ggX6_join_X6_needs
set_option maxRecDepth 20000 in
theorem ggX6_join_X6_wants : GoodIn wsX6_join wsX6_wants := goodIn_r _ [27, 10, 11, 12, 4, 13, 6, 28, 29, 30, 18, 19, 20, 21, 22, 23, 39, 40, 41, 42, 43, 44, 45, 46, 47, 48, 49, 50, 51] (by decide +kernel) (by decide +kernel)
set_option maxRecDepth 20000 in
theorem gX6_join_X6_wants : GoodIn wsX6_join (wsV RX6 99 RX6 yX6_wants wsX6_wants) := goodIn_app (goodIn_of _ (by decide +kernel)) ggX6_join_X6_wants
set_option maxRecDepth 20000 in
theorem ggX6_join_X6_spills : GoodIn wsX6_join wsX6_spills := goodIn_r _ [34, 35, 36, 37, 4, 38, 10, 11, 12, 13, 6, 24, 25, 26, 27, 28, 29, 30, 18, 19, 20, 21, 22, 23, 39, 40, 41, 42, 43, 44, 45, 46, 47, 48, 49, 50, 51] (by decide +kernel) (by decide +kernel)
set_option maxRecDepth 20000 in
theorem gX6_join_X6_spills : GoodIn wsX6_join (wsV RX6 186 RX6 yX6_spills wsX6_spills) := goodIn_app (goodIn_of _ (by decide +kernel)) ggX6_join_X6_spills
theorem dX6_join_0 : decode cX6_join 0 = .ok (.aload_n 0, 1) := by decide +kernel
theorem dX6_join_1 : decode cX6_join 1 = .ok (.iload_n 1, 1) := by decide +kernel
theorem dX6_join_2 : decode cX6_join 2 = .ok (.invokevirtual 138, 3) := by decide +kernel
theorem dX6_join_5 : decode cX6_join 5 = .ok (.ifCond .ne 5, 3) := by decide +kernel
theorem dX6_join_8 : decode cX6_join 8 = .ok (.iconst (-1), 1) := by decide +kernel
theorem dX6_join_9 : decode cX6_join 9 = .ok (.ireturn, 1) := by decide +kernel
theorem dX6_join_10 : decode cX6_join 10 = .ok (.iload_n 2, 1) := by decide +kernel
theorem dX6_join_11 : decode cX6_join 11 = .ok (.tableswitch 106 0 11 #[61, 61, 61, 61, 68, 74, 80, 80, 80, 80, 80, 92], 61) := by decide +kernel
theorem dX6_join_72 : decode cX6_join 72 = .ok (.aload_n 0, 1) := by decide +kernel
theorem dX6_join_73 : decode cX6_join 73 = .ok (.iload_n 1, 1) := by decide +kernel
theorem dX6_join_74 : decode cX6_join 74 = .ok (.iload_n 2, 1) := by decide +kernel
theorem dX6_join_75 : decode cX6_join 75 = .ok (.invokevirtual 58, 3) := by decide +kernel
theorem dX6_join_78 : decode cX6_join 78 = .ok (.ireturn, 1) := by decide +kernel
theorem dX6_join_79 : decode cX6_join 79 = .ok (.aload_n 0, 1) := by decide +kernel
theorem dX6_join_80 : decode cX6_join 80 = .ok (.iload_n 1, 1) := by decide +kernel
theorem dX6_join_81 : decode cX6_join 81 = .ok (.invokevirtual 73, 3) := by decide +kernel
theorem dX6_join_84 : decode cX6_join 84 = .ok (.ireturn, 1) := by decide +kernel
theorem dX6_join_85 : decode cX6_join 85 = .ok (.aload_n 0, 1) := by decide +kernel
theorem dX6_join_86 : decode cX6_join 86 = .ok (.iload_n 1, 1) := by decide +kernel
theorem dX6_join_87 : decode cX6_join 87 = .ok (.invokevirtual 99, 3) := by decide +kernel
theorem dX6_join_90 : decode cX6_join 90 = .ok (.ireturn, 1) := by decide +kernel
theorem dX6_join_91 : decode cX6_join 91 = .ok (.aload_n 0, 1) := by decide +kernel
theorem dX6_join_92 : decode cX6_join 92 = .ok (.iload_n 1, 1) := by decide +kernel
theorem dX6_join_93 : decode cX6_join 93 = .ok (.iconst 4, 1) := by decide +kernel
theorem dX6_join_94 : decode cX6_join 94 = .ok (.iload_n 2, 1) := by decide +kernel
theorem dX6_join_95 : decode cX6_join 95 = .ok (.iadd, 1) := by decide +kernel
theorem dX6_join_96 : decode cX6_join 96 = .ok (.bipush 6, 2) := by decide +kernel
theorem dX6_join_98 : decode cX6_join 98 = .ok (.isub, 1) := by decide +kernel
theorem dX6_join_99 : decode cX6_join 99 = .ok (.invokevirtual 58, 3) := by decide +kernel
theorem dX6_join_102 : decode cX6_join 102 = .ok (.ireturn, 1) := by decide +kernel
theorem dX6_join_103 : decode cX6_join 103 = .ok (.aload_n 0, 1) := by decide +kernel
theorem dX6_join_104 : decode cX6_join 104 = .ok (.iload_n 1, 1) := by decide +kernel
theorem dX6_join_105 : decode cX6_join 105 = .ok (.invokevirtual 186, 3) := by decide +kernel
theorem dX6_join_108 : decode cX6_join 108 = .ok (.ifCond .eq 7, 3) := by decide +kernel
theorem dX6_join_111 : decode cX6_join 111 = .ok (.iconst 1, 1) := by decide +kernel
theorem dX6_join_112 : decode cX6_join 112 = .ok (.goto 4, 3) := by decide +kernel
theorem dX6_join_115 : decode cX6_join 115 = .ok (.iconst 0, 1) := by decide +kernel
theorem dX6_join_116 : decode cX6_join 116 = .ok (.ireturn, 1) := by decide +kernel
theorem dX6_join_117 : decode cX6_join 117 = .ok (.bipush (-2), 2) := by decide +kernel
theorem dX6_join_119 : decode cX6_join 119 = .ok (.ireturn, 1) := by decide +kernel
set_option maxRecDepth 20000 in
theorem ggX6_why_X6_isJoin : GoodIn wsX6_why wsX6_isJoin := goodIn_r _ [6, 1, 7, 8, 5, 9, 36, 37, 38, 39, 40, 41, 42, 43, 44, 45, 46, 47, 48] (by decide +kernel) (by decide +kernel)
set_option maxRecDepth 20000 in
theorem gX6_why_X6_isJoin : GoodIn wsX6_why (wsV RX6 138 RX6 yX6_isJoin wsX6_isJoin) := goodIn_app (goodIn_of _ (by decide +kernel)) ggX6_why_X6_isJoin
set_option maxRecDepth 20000 in
theorem ggX6_why_X6_is : GoodIn wsX6_why wsX6_is := goodIn_r _ [13, 14, 15, 16, 5, 17, 1, 36, 37, 38, 39, 40, 41, 42, 43, 44, 45, 46, 47, 48] (by decide +kernel) (by decide +kernel)
set_option maxRecDepth 20000 in
theorem gX6_why_X6_is : GoodIn wsX6_why (wsV RX6 69 RX6 yX6_is wsX6_is) := goodIn_app (goodIn_of _ (by decide +kernel)) ggX6_why_X6_is
set_option maxRecDepth 20000 in
theorem ggX6_why_X6_needs : GoodIn wsX6_why wsX6_needs := goodIn_r _ [21, 14, 15, 16, 5, 17, 1, 22, 23, 24, 25, 26, 27, 36, 37, 38, 39, 40, 41, 42, 43, 44, 45, 46, 47, 48] (by decide +kernel) (by decide +kernel)
set_option maxRecDepth 20000 in
theorem gX6_why_X6_needs : GoodIn wsX6_why (wsV RX6 73 RX6 yX6_needs wsX6_needs) := goodIn_app (goodIn_of _ (by decide +kernel)) ggX6_why_X6_needs
set_option maxRecDepth 20000 in
theorem ggX6_why_X6_rankOf : GoodIn wsX6_why wsX6_rankOf := goodIn_r _ [31, 1, 10, 11, 12, 5, 13, 14, 15, 16, 17, 32, 33, 34, 35, 18, 19, 20, 21, 22, 23, 24, 25, 26, 27, 36, 37, 38, 39, 40, 41, 42, 43, 44, 45, 46, 47, 48] (by decide +kernel) (by decide +kernel)
set_option maxRecDepth 20000 in
theorem gX6_why_X6_rankOf : GoodIn wsX6_why (wsV RX6 82 RX6 yX6_rankOf wsX6_rankOf) := goodIn_app (goodIn_of _ (by decide +kernel)) ggX6_why_X6_rankOf
theorem dX6_why_0 : decode cX6_why 0 = .ok (.aload_n 0, 1) := by decide +kernel
theorem dX6_why_1 : decode cX6_why 1 = .ok (.iload_n 1, 1) := by decide +kernel
theorem dX6_why_2 : decode cX6_why 2 = .ok (.invokevirtual 138, 3) := by decide +kernel
theorem dX6_why_5 : decode cX6_why 5 = .ok (.ifCond .ne 5, 3) := by decide +kernel
theorem dX6_why_8 : decode cX6_why 8 = .ok (.iconst (-1), 1) := by decide +kernel
theorem dX6_why_9 : decode cX6_why 9 = .ok (.ireturn, 1) := by decide +kernel
theorem dX6_why_10 : decode cX6_why 10 = .ok (.aload_n 0, 1) := by decide +kernel
theorem dX6_why_11 : decode cX6_why 11 = .ok (.iload_n 1, 1) := by decide +kernel
theorem dX6_why_12 : decode cX6_why 12 = .ok (.iconst 0, 1) := by decide +kernel
theorem dX6_why_13 : decode cX6_why 13 = .ok (.invokevirtual 69, 3) := by decide +kernel
theorem dX6_why_16 : decode cX6_why 16 = .ok (.ifCond .ne 7, 3) := by decide +kernel
theorem dX6_why_19 : decode cX6_why 19 = .ok (.iconst 0, 1) := by decide +kernel
theorem dX6_why_20 : decode cX6_why 20 = .ok (.goto 34, 3) := by decide +kernel
theorem dX6_why_23 : decode cX6_why 23 = .ok (.aload_n 0, 1) := by decide +kernel
theorem dX6_why_24 : decode cX6_why 24 = .ok (.iload_n 1, 1) := by decide +kernel
theorem dX6_why_25 : decode cX6_why 25 = .ok (.invokevirtual 73, 3) := by decide +kernel
theorem dX6_why_28 : decode cX6_why 28 = .ok (.aload_n 0, 1) := by decide +kernel
theorem dX6_why_29 : decode cX6_why 29 = .ok (.getfield 7, 3) := by decide +kernel
theorem dX6_why_32 : decode cX6_why 32 = .ok (.iconst 0, 1) := by decide +kernel
theorem dX6_why_33 : decode cX6_why 33 = .ok (.iaload, 1) := by decide +kernel
theorem dX6_why_34 : decode cX6_why 34 = .ok (.if_icmp .le 7, 3) := by decide +kernel
theorem dX6_why_37 : decode cX6_why 37 = .ok (.iconst 1, 1) := by decide +kernel
theorem dX6_why_38 : decode cX6_why 38 = .ok (.goto 16, 3) := by decide +kernel
theorem dX6_why_41 : decode cX6_why 41 = .ok (.aload_n 0, 1) := by decide +kernel
theorem dX6_why_42 : decode cX6_why 42 = .ok (.iload_n 1, 1) := by decide +kernel
theorem dX6_why_43 : decode cX6_why 43 = .ok (.invokevirtual 82, 3) := by decide +kernel
theorem dX6_why_46 : decode cX6_why 46 = .ok (.ifCond .le 7, 3) := by decide +kernel
theorem dX6_why_49 : decode cX6_why 49 = .ok (.iconst 2, 1) := by decide +kernel
theorem dX6_why_50 : decode cX6_why 50 = .ok (.goto 4, 3) := by decide +kernel
theorem dX6_why_53 : decode cX6_why 53 = .ok (.iconst 3, 1) := by decide +kernel
theorem dX6_why_54 : decode cX6_why 54 = .ok (.ireturn, 1) := by decide +kernel
set_option maxRecDepth 20000 in
theorem ggX6_queue_X6_ranked : GoodIn wsX6_queue wsX6_ranked := goodIn_r _ [5, 6, 7, 8, 9, 4, 10, 11, 12, 13, 14, 15, 16, 17, 18, 19, 20, 21, 22, 23, 24, 25, 26, 27, 28, 29, 30, 31, 32, 33, 34, 35, 36, 37, 38, 39, 40, 41, 42, 43, 44, 45] (by decide +kernel) (by decide +kernel)
set_option maxRecDepth 20000 in
theorem gX6_queue_X6_ranked : GoodIn wsX6_queue (wsV RX6 109 RX6 yX6_ranked wsX6_ranked) := goodIn_app (goodIn_of _ (by decide +kernel)) ggX6_queue_X6_ranked
theorem dX6_queue_0 : decode cX6_queue 0 = .ok (.iload_n 1, 1) := by decide +kernel
theorem dX6_queue_1 : decode cX6_queue 1 = .ok (.ifCond .ge 8, 3) := by decide +kernel
theorem dX6_queue_4 : decode cX6_queue 4 = .ok (.bipush (-2), 2) := by decide +kernel
theorem dX6_queue_6 : decode cX6_queue 6 = .ok (.goto 8, 3) := by decide +kernel
theorem dX6_queue_9 : decode cX6_queue 9 = .ok (.aload_n 0, 1) := by decide +kernel
theorem dX6_queue_10 : decode cX6_queue 10 = .ok (.iload_n 1, 1) := by decide +kernel
theorem dX6_queue_11 : decode cX6_queue 11 = .ok (.invokevirtual 109, 3) := by decide +kernel
theorem dX6_queue_14 : decode cX6_queue 14 = .ok (.ireturn, 1) := by decide +kernel
set_option maxRecDepth 20000 in
theorem ggX6_work_X6_in : GoodIn wsX6_work wsX6_in := goodIn_r _ [7] (by decide +kernel) (by decide +kernel)
set_option maxRecDepth 20000 in
theorem gX6_work_X6_in : GoodIn wsX6_work (va_wsS RX6 54 yX6_in wsX6_in) := goodIn_app (goodIn_of _ (by decide +kernel)) ggX6_work_X6_in
set_option maxRecDepth 20000 in
theorem ggX6_work_X6_isTable : GoodIn wsX6_work wsX6_isTable := goodIn_r _ [10, 11, 4, 5, 6, 7] (by decide +kernel) (by decide +kernel)
set_option maxRecDepth 20000 in
theorem gX6_work_X6_isTable : GoodIn wsX6_work (va_wsS RX6 126 yX6_isTable wsX6_isTable) := goodIn_app (goodIn_of _ (by decide +kernel)) ggX6_work_X6_isTable
set_option maxRecDepth 20000 in
theorem ggX6_work_X6_needsOf : GoodIn wsX6_work wsX6_needsOf := goodIn_r _ [14, 15, 16, 6, 17] (by decide +kernel) (by decide +kernel)
set_option maxRecDepth 20000 in
theorem gX6_work_X6_needsOf : GoodIn wsX6_work (va_wsS RX6 43 yX6_needsOf wsX6_needsOf) := goodIn_app (goodIn_of _ (by decide +kernel)) ggX6_work_X6_needsOf
set_option maxRecDepth 20000 in
theorem ggX6_work_X6_workOf : GoodIn wsX6_work wsX6_workOf := goodIn_r _ [20, 21, 22, 6, 23, 24, 25, 26, 12, 13, 14, 15, 16, 17] (by decide +kernel) (by decide +kernel)
set_option maxRecDepth 20000 in
theorem gX6_work_X6_workOf : GoodIn wsX6_work (va_wsS RX6 61 yX6_workOf wsX6_workOf) := goodIn_app (goodIn_of _ (by decide +kernel)) ggX6_work_X6_workOf
theorem dX6_work_0 : decode cX6_work 0 = .ok (.iload_n 1, 1) := by decide +kernel
theorem dX6_work_1 : decode cX6_work 1 = .ok (.i2l, 1) := by decide +kernel
theorem dX6_work_2 : decode cX6_work 2 = .ok (.lconst 0, 1) := by decide +kernel
theorem dX6_work_3 : decode cX6_work 3 = .ok (.ldc2_w 124, 3) := by decide +kernel
theorem dX6_work_6 : decode cX6_work 6 = .ok (.invokestatic 54, 3) := by decide +kernel
theorem dX6_work_9 : decode cX6_work 9 = .ok (.ifCond .eq 32, 3) := by decide +kernel
theorem dX6_work_12 : decode cX6_work 12 = .ok (.iload_n 2, 1) := by decide +kernel
theorem dX6_work_13 : decode cX6_work 13 = .ok (.invokestatic 126, 3) := by decide +kernel
theorem dX6_work_16 : decode cX6_work 16 = .ok (.ifCond .eq 25, 3) := by decide +kernel
theorem dX6_work_19 : decode cX6_work 19 = .ok (.iload_n 3, 1) := by decide +kernel
theorem dX6_work_20 : decode cX6_work 20 = .ok (.invokestatic 126, 3) := by decide +kernel
theorem dX6_work_23 : decode cX6_work 23 = .ok (.ifCond .eq 18, 3) := by decide +kernel
theorem dX6_work_26 : decode cX6_work 26 = .ok (.iload 4, 2) := by decide +kernel
theorem dX6_work_28 : decode cX6_work 28 = .ok (.i2l, 1) := by decide +kernel
theorem dX6_work_29 : decode cX6_work 29 = .ok (.ldc2_w 189, 3) := by decide +kernel
theorem dX6_work_32 : decode cX6_work 32 = .ok (.ldc2_w 148, 3) := by decide +kernel
theorem dX6_work_35 : decode cX6_work 35 = .ok (.invokestatic 54, 3) := by decide +kernel
theorem dX6_work_38 : decode cX6_work 38 = .ok (.ifCond .ne 6, 3) := by decide +kernel
theorem dX6_work_41 : decode cX6_work 41 = .ok (.bipush (-2), 2) := by decide +kernel
theorem dX6_work_43 : decode cX6_work 43 = .ok (.ireturn, 1) := by decide +kernel
theorem dX6_work_44 : decode cX6_work 44 = .ok (.iload_n 1, 1) := by decide +kernel
theorem dX6_work_45 : decode cX6_work 45 = .ok (.iload_n 2, 1) := by decide +kernel
theorem dX6_work_46 : decode cX6_work 46 = .ok (.iload_n 3, 1) := by decide +kernel
theorem dX6_work_47 : decode cX6_work 47 = .ok (.invokestatic 43, 3) := by decide +kernel
theorem dX6_work_50 : decode cX6_work 50 = .ok (.iload 4, 2) := by decide +kernel
theorem dX6_work_52 : decode cX6_work 52 = .ok (.if_icmp .le 8, 3) := by decide +kernel
theorem dX6_work_55 : decode cX6_work 55 = .ok (.bipush (-5), 2) := by decide +kernel
theorem dX6_work_57 : decode cX6_work 57 = .ok (.goto 11, 3) := by decide +kernel
theorem dX6_work_60 : decode cX6_work 60 = .ok (.iload_n 1, 1) := by decide +kernel
theorem dX6_work_61 : decode cX6_work 61 = .ok (.iload_n 2, 1) := by decide +kernel
theorem dX6_work_62 : decode cX6_work 62 = .ok (.iload_n 3, 1) := by decide +kernel
theorem dX6_work_63 : decode cX6_work 63 = .ok (.iload 4, 2) := by decide +kernel
theorem dX6_work_65 : decode cX6_work 65 = .ok (.invokestatic 61, 3) := by decide +kernel
theorem dX6_work_68 : decode cX6_work 68 = .ok (.ireturn, 1) := by decide +kernel
set_option maxRecDepth 20000 in
theorem ggX6_bestWay_X6_isTable : GoodIn wsX6_bestWay wsX6_isTable := goodIn_r _ [6, 7, 8, 9, 5, 10] (by decide +kernel) (by decide +kernel)
set_option maxRecDepth 20000 in
theorem gX6_bestWay_X6_isTable : GoodIn wsX6_bestWay (va_wsS RX6 126 yX6_isTable wsX6_isTable) := goodIn_app (goodIn_of _ (by decide +kernel)) ggX6_bestWay_X6_isTable
set_option maxRecDepth 20000 in
theorem ggX6_bestWay_X6_in : GoodIn wsX6_bestWay wsX6_in := goodIn_r _ [10] (by decide +kernel) (by decide +kernel)
set_option maxRecDepth 20000 in
theorem gX6_bestWay_X6_in : GoodIn wsX6_bestWay (va_wsS RX6 54 yX6_in wsX6_in) := goodIn_app (goodIn_of _ (by decide +kernel)) ggX6_bestWay_X6_in
set_option maxRecDepth 20000 in
theorem ggX6_bestWay_X6_needsOf : GoodIn wsX6_bestWay wsX6_needsOf := goodIn_r _ [13, 14, 15, 5, 16] (by decide +kernel) (by decide +kernel)
set_option maxRecDepth 20000 in
theorem gX6_bestWay_X6_needsOf : GoodIn wsX6_bestWay (va_wsS RX6 43 yX6_needsOf wsX6_needsOf) := goodIn_app (goodIn_of _ (by decide +kernel)) ggX6_bestWay_X6_needsOf
set_option maxRecDepth 20000 in
theorem ggX6_bestWay_X6_workOf : GoodIn wsX6_bestWay wsX6_workOf := goodIn_r _ [19, 20, 21, 5, 22, 23, 24, 25, 11, 12, 13, 14, 15, 16] (by decide +kernel) (by decide +kernel)
set_option maxRecDepth 20000 in
theorem gX6_bestWay_X6_workOf : GoodIn wsX6_bestWay (va_wsS RX6 61 yX6_workOf wsX6_workOf) := goodIn_app (goodIn_of _ (by decide +kernel)) ggX6_bestWay_X6_workOf
theorem dX6_bestWay_0 : decode cX6_bestWay 0 = .ok (.iload_n 1, 1) := by decide +kernel
theorem dX6_bestWay_1 : decode cX6_bestWay 1 = .ok (.invokestatic 126, 3) := by decide +kernel
theorem dX6_bestWay_4 : decode cX6_bestWay 4 = .ok (.ifCond .eq 24, 3) := by decide +kernel
theorem dX6_bestWay_7 : decode cX6_bestWay 7 = .ok (.iload_n 2, 1) := by decide +kernel
theorem dX6_bestWay_8 : decode cX6_bestWay 8 = .ok (.invokestatic 126, 3) := by decide +kernel
theorem dX6_bestWay_11 : decode cX6_bestWay 11 = .ok (.ifCond .eq 17, 3) := by decide +kernel
theorem dX6_bestWay_14 : decode cX6_bestWay 14 = .ok (.iload_n 3, 1) := by decide +kernel
theorem dX6_bestWay_15 : decode cX6_bestWay 15 = .ok (.i2l, 1) := by decide +kernel
theorem dX6_bestWay_16 : decode cX6_bestWay 16 = .ok (.ldc2_w 189, 3) := by decide +kernel
theorem dX6_bestWay_19 : decode cX6_bestWay 19 = .ok (.ldc2_w 148, 3) := by decide +kernel
theorem dX6_bestWay_22 : decode cX6_bestWay 22 = .ok (.invokestatic 54, 3) := by decide +kernel
theorem dX6_bestWay_25 : decode cX6_bestWay 25 = .ok (.ifCond .ne 6, 3) := by decide +kernel
theorem dX6_bestWay_28 : decode cX6_bestWay 28 = .ok (.bipush (-2), 2) := by decide +kernel
theorem dX6_bestWay_30 : decode cX6_bestWay 30 = .ok (.ireturn, 1) := by decide +kernel
theorem dX6_bestWay_31 : decode cX6_bestWay 31 = .ok (.iconst 0, 1) := by decide +kernel
theorem dX6_bestWay_32 : decode cX6_bestWay 32 = .ok (.istore 4, 2) := by decide +kernel
theorem dX6_bestWay_34 : decode cX6_bestWay 34 = .ok (.iconst 1, 1) := by decide +kernel
theorem dX6_bestWay_35 : decode cX6_bestWay 35 = .ok (.istore 5, 2) := by decide +kernel
theorem dX6_bestWay_37 : decode cX6_bestWay 37 = .ok (.iload 5, 2) := by decide +kernel
theorem dX6_bestWay_39 : decode cX6_bestWay 39 = .ok (.iconst 2, 1) := by decide +kernel
theorem dX6_bestWay_40 : decode cX6_bestWay 40 = .ok (.if_icmp .gt 60, 3) := by decide +kernel
theorem dX6_bestWay_43 : decode cX6_bestWay 43 = .ok (.iload 5, 2) := by decide +kernel
theorem dX6_bestWay_45 : decode cX6_bestWay 45 = .ok (.iload_n 1, 1) := by decide +kernel
theorem dX6_bestWay_46 : decode cX6_bestWay 46 = .ok (.iload_n 2, 1) := by decide +kernel
theorem dX6_bestWay_47 : decode cX6_bestWay 47 = .ok (.invokestatic 43, 3) := by decide +kernel
theorem dX6_bestWay_50 : decode cX6_bestWay 50 = .ok (.iload_n 3, 1) := by decide +kernel
theorem dX6_bestWay_51 : decode cX6_bestWay 51 = .ok (.if_icmp .gt 26, 3) := by decide +kernel
theorem dX6_bestWay_54 : decode cX6_bestWay 54 = .ok (.iload 5, 2) := by decide +kernel
theorem dX6_bestWay_56 : decode cX6_bestWay 56 = .ok (.iload_n 1, 1) := by decide +kernel
theorem dX6_bestWay_57 : decode cX6_bestWay 57 = .ok (.iload_n 2, 1) := by decide +kernel
theorem dX6_bestWay_58 : decode cX6_bestWay 58 = .ok (.iload_n 3, 1) := by decide +kernel
theorem dX6_bestWay_59 : decode cX6_bestWay 59 = .ok (.invokestatic 61, 3) := by decide +kernel
theorem dX6_bestWay_62 : decode cX6_bestWay 62 = .ok (.iload 4, 2) := by decide +kernel
theorem dX6_bestWay_64 : decode cX6_bestWay 64 = .ok (.iload_n 1, 1) := by decide +kernel
theorem dX6_bestWay_65 : decode cX6_bestWay 65 = .ok (.iload_n 2, 1) := by decide +kernel
theorem dX6_bestWay_66 : decode cX6_bestWay 66 = .ok (.iload_n 3, 1) := by decide +kernel
theorem dX6_bestWay_67 : decode cX6_bestWay 67 = .ok (.invokestatic 61, 3) := by decide +kernel
theorem dX6_bestWay_70 : decode cX6_bestWay 70 = .ok (.if_icmp .ge 7, 3) := by decide +kernel
theorem dX6_bestWay_73 : decode cX6_bestWay 73 = .ok (.iconst 1, 1) := by decide +kernel
theorem dX6_bestWay_74 : decode cX6_bestWay 74 = .ok (.goto 4, 3) := by decide +kernel
theorem dX6_bestWay_77 : decode cX6_bestWay 77 = .ok (.iconst 0, 1) := by decide +kernel
theorem dX6_bestWay_78 : decode cX6_bestWay 78 = .ok (.istore 6, 2) := by decide +kernel
theorem dX6_bestWay_80 : decode cX6_bestWay 80 = .ok (.iload 6, 2) := by decide +kernel
theorem dX6_bestWay_82 : decode cX6_bestWay 82 = .ok (.ifCond .eq 8, 3) := by decide +kernel
theorem dX6_bestWay_85 : decode cX6_bestWay 85 = .ok (.iload 5, 2) := by decide +kernel
theorem dX6_bestWay_87 : decode cX6_bestWay 87 = .ok (.goto 5, 3) := by decide +kernel
theorem dX6_bestWay_90 : decode cX6_bestWay 90 = .ok (.iload 4, 2) := by decide +kernel
theorem dX6_bestWay_92 : decode cX6_bestWay 92 = .ok (.istore 4, 2) := by decide +kernel
theorem dX6_bestWay_94 : decode cX6_bestWay 94 = .ok (.iinc 5 1, 3) := by decide +kernel
theorem dX6_bestWay_97 : decode cX6_bestWay 97 = .ok (.goto (-60), 3) := by decide +kernel
theorem dX6_bestWay_100 : decode cX6_bestWay 100 = .ok (.iload 4, 2) := by decide +kernel
theorem dX6_bestWay_102 : decode cX6_bestWay 102 = .ok (.ireturn, 1) := by decide +kernel
set_option maxRecDepth 20000 in
theorem ggX6_doneIn_X6_isJoin : GoodIn wsX6_doneIn wsX6_isJoin := goodIn_r _ [7, 1, 8, 9, 6, 10, 105, 106, 107, 108, 109, 110, 111, 112, 113, 114, 115, 116, 117] (by decide +kernel) (by decide +kernel)
set_option maxRecDepth 20000 in
theorem gX6_doneIn_X6_isJoin : GoodIn wsX6_doneIn (wsV RX6 138 RX6 yX6_isJoin wsX6_isJoin) := goodIn_app (goodIn_of _ (by decide +kernel)) ggX6_doneIn_X6_isJoin
set_option maxRecDepth 20000 in
theorem ggX6_doneIn_X6_is : GoodIn wsX6_doneIn wsX6_is := goodIn_r _ [14, 15, 16, 17, 6, 18, 1, 105, 106, 107, 108, 109, 110, 111, 112, 113, 114, 115, 116, 117] (by decide +kernel) (by decide +kernel)
set_option maxRecDepth 20000 in
theorem gX6_doneIn_X6_is : GoodIn wsX6_doneIn (wsV RX6 69 RX6 yX6_is wsX6_is) := goodIn_app (goodIn_of _ (by decide +kernel)) ggX6_doneIn_X6_is
set_option maxRecDepth 20000 in
theorem ggX6_doneIn_X6_copy : GoodIn wsX6_doneIn wsX6_copy := goodIn_r _ [21] (by decide +kernel) (by decide +kernel)
set_option maxRecDepth 20000 in
theorem gX6_doneIn_X6_copy : GoodIn wsX6_doneIn (va_wsS RX6 31 yX6_copy wsX6_copy) := goodIn_app (goodIn_of _ (by decide +kernel)) ggX6_doneIn_X6_copy
set_option maxRecDepth 20000 in
theorem ggX6_doneIn_X6_steps : GoodIn wsX6_doneIn wsX6_steps := goodIn_r _ [25, 1, 11, 12, 13, 6, 14, 15, 16, 17, 18, 26, 27, 28, 29, 30, 31, 32, 33, 34, 35, 36, 37, 38, 39, 40, 41, 42, 43, 44, 45, 46, 47, 48, 49, 50, 51, 52, 53, 54, 55, 56, 57, 58, 59, 60, 61, 62, 63, 64, 65, 66, 67, 68, 69, 70, 71, 72, 73, 74, 75, 76, 77, 78, 79, 80, 81, 82, 83, 84, 85, 86, 87, 88, 89, 90, 91, 92, 93, 94, 95, 96, 97, 98, 99, 100, 101, 102, 103, 104, 105, 106, 107, 108, 109, 110, 111, 112, 113, 114, 115, 116, 117] (by decide +kernel) (by decide +kernel)
set_option maxRecDepth 20000 in
theorem gX6_doneIn_X6_steps : GoodIn wsX6_doneIn (wsV RX6 143 RX6 yX6_steps wsX6_steps) := goodIn_app (goodIn_of _ (by decide +kernel)) ggX6_doneIn_X6_steps
theorem dX6_doneIn_0 : decode cX6_doneIn 0 = .ok (.aload_n 0, 1) := by decide +kernel
theorem dX6_doneIn_1 : decode cX6_doneIn 1 = .ok (.iload_n 1, 1) := by decide +kernel
theorem dX6_doneIn_2 : decode cX6_doneIn 2 = .ok (.invokevirtual 138, 3) := by decide +kernel
theorem dX6_doneIn_5 : decode cX6_doneIn 5 = .ok (.ifCond .ne 5, 3) := by decide +kernel
theorem dX6_doneIn_8 : decode cX6_doneIn 8 = .ok (.iconst (-1), 1) := by decide +kernel
theorem dX6_doneIn_9 : decode cX6_doneIn 9 = .ok (.ireturn, 1) := by decide +kernel
theorem dX6_doneIn_10 : decode cX6_doneIn 10 = .ok (.aload_n 0, 1) := by decide +kernel
theorem dX6_doneIn_11 : decode cX6_doneIn 11 = .ok (.iload_n 1, 1) := by decide +kernel
theorem dX6_doneIn_12 : decode cX6_doneIn 12 = .ok (.iconst 3, 1) := by decide +kernel
theorem dX6_doneIn_13 : decode cX6_doneIn 13 = .ok (.invokevirtual 69, 3) := by decide +kernel
theorem dX6_doneIn_16 : decode cX6_doneIn 16 = .ok (.ifCond .eq 6, 3) := by decide +kernel
theorem dX6_doneIn_19 : decode cX6_doneIn 19 = .ok (.bipush (-4), 2) := by decide +kernel
theorem dX6_doneIn_21 : decode cX6_doneIn 21 = .ok (.ireturn, 1) := by decide +kernel
theorem dX6_doneIn_22 : decode cX6_doneIn 22 = .ok (.aload_n 0, 1) := by decide +kernel
theorem dX6_doneIn_23 : decode cX6_doneIn 23 = .ok (.getfield 7, 3) := by decide +kernel
theorem dX6_doneIn_26 : decode cX6_doneIn 26 = .ok (.aload_n 0, 1) := by decide +kernel
theorem dX6_doneIn_27 : decode cX6_doneIn 27 = .ok (.getfield 16, 3) := by decide +kernel
theorem dX6_doneIn_30 : decode cX6_doneIn 30 = .ok (.invokestatic 31, 3) := by decide +kernel
theorem dX6_doneIn_33 : decode cX6_doneIn 33 = .ok (.iconst 0, 1) := by decide +kernel
theorem dX6_doneIn_34 : decode cX6_doneIn 34 = .ok (.istore_n 2, 1) := by decide +kernel
theorem dX6_doneIn_35 : decode cX6_doneIn 35 = .ok (.aload_n 0, 1) := by decide +kernel
theorem dX6_doneIn_36 : decode cX6_doneIn 36 = .ok (.iload_n 1, 1) := by decide +kernel
theorem dX6_doneIn_37 : decode cX6_doneIn 37 = .ok (.iconst 2, 1) := by decide +kernel
theorem dX6_doneIn_38 : decode cX6_doneIn 38 = .ok (.invokevirtual 69, 3) := by decide +kernel
theorem dX6_doneIn_41 : decode cX6_doneIn 41 = .ok (.ifCond .ne 21, 3) := by decide +kernel
theorem dX6_doneIn_44 : decode cX6_doneIn 44 = .ok (.iload_n 2, 1) := by decide +kernel
theorem dX6_doneIn_45 : decode cX6_doneIn 45 = .ok (.sipush 20000, 3) := by decide +kernel
theorem dX6_doneIn_48 : decode cX6_doneIn 48 = .ok (.if_icmp .gt 14, 3) := by decide +kernel
theorem dX6_doneIn_51 : decode cX6_doneIn 51 = .ok (.aload_n 0, 1) := by decide +kernel
theorem dX6_doneIn_52 : decode cX6_doneIn 52 = .ok (.invokevirtual 143, 3) := by decide +kernel
theorem dX6_doneIn_55 : decode cX6_doneIn 55 = .ok (.istore_n 3, 1) := by decide +kernel
theorem dX6_doneIn_56 : decode cX6_doneIn 56 = .ok (.iinc 2 1, 3) := by decide +kernel
theorem dX6_doneIn_59 : decode cX6_doneIn 59 = .ok (.goto (-24), 3) := by decide +kernel
theorem dX6_doneIn_62 : decode cX6_doneIn 62 = .ok (.aload_n 0, 1) := by decide +kernel
theorem dX6_doneIn_63 : decode cX6_doneIn 63 = .ok (.getfield 16, 3) := by decide +kernel
theorem dX6_doneIn_66 : decode cX6_doneIn 66 = .ok (.aload_n 0, 1) := by decide +kernel
theorem dX6_doneIn_67 : decode cX6_doneIn 67 = .ok (.getfield 7, 3) := by decide +kernel
theorem dX6_doneIn_70 : decode cX6_doneIn 70 = .ok (.invokestatic 31, 3) := by decide +kernel
theorem dX6_doneIn_73 : decode cX6_doneIn 73 = .ok (.iload_n 2, 1) := by decide +kernel
theorem dX6_doneIn_74 : decode cX6_doneIn 74 = .ok (.sipush 20000, 3) := by decide +kernel
theorem dX6_doneIn_77 : decode cX6_doneIn 77 = .ok (.if_icmp .le 8, 3) := by decide +kernel
theorem dX6_doneIn_80 : decode cX6_doneIn 80 = .ok (.bipush (-5), 2) := by decide +kernel
theorem dX6_doneIn_82 : decode cX6_doneIn 82 = .ok (.goto 4, 3) := by decide +kernel
theorem dX6_doneIn_85 : decode cX6_doneIn 85 = .ok (.iload_n 2, 1) := by decide +kernel
theorem dX6_doneIn_86 : decode cX6_doneIn 86 = .ok (.ireturn, 1) := by decide +kernel
set_option maxRecDepth 20000 in
theorem ggX6_manyWith_X6_is : GoodIn wsX6_manyWith wsX6_is := goodIn_r _ [6, 7, 8, 9, 5, 10, 1, 11, 12, 13, 14, 15, 16, 17, 18, 19, 20, 21, 22, 23] (by decide +kernel) (by decide +kernel)
set_option maxRecDepth 20000 in
theorem gX6_manyWith_X6_is : GoodIn wsX6_manyWith (wsV RX6 69 RX6 yX6_is wsX6_is) := goodIn_app (goodIn_of _ (by decide +kernel)) ggX6_manyWith_X6_is
theorem dX6_manyWith_0 : decode cX6_manyWith 0 = .ok (.iconst 0, 1) := by decide +kernel
theorem dX6_manyWith_1 : decode cX6_manyWith 1 = .ok (.istore_n 2, 1) := by decide +kernel
theorem dX6_manyWith_2 : decode cX6_manyWith 2 = .ok (.iconst 0, 1) := by decide +kernel
theorem dX6_manyWith_3 : decode cX6_manyWith 3 = .ok (.istore_n 3, 1) := by decide +kernel
theorem dX6_manyWith_4 : decode cX6_manyWith 4 = .ok (.iload_n 3, 1) := by decide +kernel
theorem dX6_manyWith_5 : decode cX6_manyWith 5 = .ok (.aload_n 0, 1) := by decide +kernel
theorem dX6_manyWith_6 : decode cX6_manyWith 6 = .ok (.getfield 7, 3) := by decide +kernel
theorem dX6_manyWith_9 : decode cX6_manyWith 9 = .ok (.iconst 4, 1) := by decide +kernel
theorem dX6_manyWith_10 : decode cX6_manyWith 10 = .ok (.iaload, 1) := by decide +kernel
theorem dX6_manyWith_11 : decode cX6_manyWith 11 = .ok (.if_icmp .ge 26, 3) := by decide +kernel
theorem dX6_manyWith_14 : decode cX6_manyWith 14 = .ok (.iload_n 2, 1) := by decide +kernel
theorem dX6_manyWith_15 : decode cX6_manyWith 15 = .ok (.aload_n 0, 1) := by decide +kernel
theorem dX6_manyWith_16 : decode cX6_manyWith 16 = .ok (.iload_n 3, 1) := by decide +kernel
theorem dX6_manyWith_17 : decode cX6_manyWith 17 = .ok (.iload_n 1, 1) := by decide +kernel
theorem dX6_manyWith_18 : decode cX6_manyWith 18 = .ok (.invokevirtual 69, 3) := by decide +kernel
theorem dX6_manyWith_21 : decode cX6_manyWith 21 = .ok (.ifCond .eq 7, 3) := by decide +kernel
theorem dX6_manyWith_24 : decode cX6_manyWith 24 = .ok (.iconst 1, 1) := by decide +kernel
theorem dX6_manyWith_25 : decode cX6_manyWith 25 = .ok (.goto 4, 3) := by decide +kernel
theorem dX6_manyWith_28 : decode cX6_manyWith 28 = .ok (.iconst 0, 1) := by decide +kernel
theorem dX6_manyWith_29 : decode cX6_manyWith 29 = .ok (.iadd, 1) := by decide +kernel
theorem dX6_manyWith_30 : decode cX6_manyWith 30 = .ok (.istore_n 2, 1) := by decide +kernel
theorem dX6_manyWith_31 : decode cX6_manyWith 31 = .ok (.iinc 3 1, 3) := by decide +kernel
theorem dX6_manyWith_34 : decode cX6_manyWith 34 = .ok (.goto (-30), 3) := by decide +kernel
theorem dX6_manyWith_37 : decode cX6_manyWith 37 = .ok (.iload_n 2, 1) := by decide +kernel
theorem dX6_manyWith_38 : decode cX6_manyWith 38 = .ok (.ireturn, 1) := by decide +kernel
set_option maxRecDepth 20000 in
theorem ggX6_spilling_X6_spills : GoodIn wsX6_spilling wsX6_spills := goodIn_r _ [6, 7, 8, 9, 5, 10, 11, 12, 13, 14, 1, 15, 16, 17, 18, 19, 20, 21, 22, 23, 24, 25, 26, 27, 28, 29, 30, 31, 32, 33, 34, 35, 36, 37, 38, 39, 40] (by decide +kernel) (by decide +kernel)
set_option maxRecDepth 20000 in
theorem gX6_spilling_X6_spills : GoodIn wsX6_spilling (wsV RX6 186 RX6 yX6_spills wsX6_spills) := goodIn_app (goodIn_of _ (by decide +kernel)) ggX6_spilling_X6_spills
theorem dX6_spilling_0 : decode cX6_spilling 0 = .ok (.iconst 0, 1) := by decide +kernel
theorem dX6_spilling_1 : decode cX6_spilling 1 = .ok (.istore_n 1, 1) := by decide +kernel
theorem dX6_spilling_2 : decode cX6_spilling 2 = .ok (.iconst 0, 1) := by decide +kernel
theorem dX6_spilling_3 : decode cX6_spilling 3 = .ok (.istore_n 2, 1) := by decide +kernel
theorem dX6_spilling_4 : decode cX6_spilling 4 = .ok (.iload_n 2, 1) := by decide +kernel
theorem dX6_spilling_5 : decode cX6_spilling 5 = .ok (.aload_n 0, 1) := by decide +kernel
theorem dX6_spilling_6 : decode cX6_spilling 6 = .ok (.getfield 7, 3) := by decide +kernel
theorem dX6_spilling_9 : decode cX6_spilling 9 = .ok (.iconst 4, 1) := by decide +kernel
theorem dX6_spilling_10 : decode cX6_spilling 10 = .ok (.iaload, 1) := by decide +kernel
theorem dX6_spilling_11 : decode cX6_spilling 11 = .ok (.if_icmp .ge 25, 3) := by decide +kernel
theorem dX6_spilling_14 : decode cX6_spilling 14 = .ok (.iload_n 1, 1) := by decide +kernel
theorem dX6_spilling_15 : decode cX6_spilling 15 = .ok (.aload_n 0, 1) := by decide +kernel
theorem dX6_spilling_16 : decode cX6_spilling 16 = .ok (.iload_n 2, 1) := by decide +kernel
theorem dX6_spilling_17 : decode cX6_spilling 17 = .ok (.invokevirtual 186, 3) := by decide +kernel
theorem dX6_spilling_20 : decode cX6_spilling 20 = .ok (.ifCond .eq 7, 3) := by decide +kernel
theorem dX6_spilling_23 : decode cX6_spilling 23 = .ok (.iconst 1, 1) := by decide +kernel
theorem dX6_spilling_24 : decode cX6_spilling 24 = .ok (.goto 4, 3) := by decide +kernel
theorem dX6_spilling_27 : decode cX6_spilling 27 = .ok (.iconst 0, 1) := by decide +kernel
theorem dX6_spilling_28 : decode cX6_spilling 28 = .ok (.iadd, 1) := by decide +kernel
theorem dX6_spilling_29 : decode cX6_spilling 29 = .ok (.istore_n 1, 1) := by decide +kernel
theorem dX6_spilling_30 : decode cX6_spilling 30 = .ok (.iinc 2 1, 3) := by decide +kernel
theorem dX6_spilling_33 : decode cX6_spilling 33 = .ok (.goto (-29), 3) := by decide +kernel
theorem dX6_spilling_36 : decode cX6_spilling 36 = .ok (.iload_n 1, 1) := by decide +kernel
theorem dX6_spilling_37 : decode cX6_spilling 37 = .ok (.ireturn, 1) := by decide +kernel
set_option maxRecDepth 20000 in
theorem ggX6_count_X6_in : GoodIn wsX6_count wsX6_in := goodIn_r _ [12] (by decide +kernel) (by decide +kernel)
set_option maxRecDepth 20000 in
theorem gX6_count_X6_in : GoodIn wsX6_count (va_wsS RX6 54 yX6_in wsX6_in) := goodIn_app (goodIn_of _ (by decide +kernel)) ggX6_count_X6_in
set_option maxRecDepth 20000 in
theorem ggX6_count_X6_manyWith : GoodIn wsX6_count wsX6_manyWith := goodIn_r _ [16, 4, 17, 18, 19, 11, 20, 21, 22, 23, 24, 54, 55, 56, 57, 58, 59, 60, 61, 62, 63, 64, 65, 66] (by decide +kernel) (by decide +kernel)
set_option maxRecDepth 20000 in
theorem gX6_count_X6_manyWith : GoodIn wsX6_count (wsV RX6 193 RX6 yX6_manyWith wsX6_manyWith) := goodIn_app (goodIn_of _ (by decide +kernel)) ggX6_count_X6_manyWith
set_option maxRecDepth 20000 in
theorem ggX6_count_X6_granted : GoodIn wsX6_count wsX6_granted := goodIn_r _ [28, 4, 21, 22, 23, 11, 24, 54, 55, 56, 57, 58, 59, 60, 61, 62, 63, 64, 65, 66] (by decide +kernel) (by decide +kernel)
set_option maxRecDepth 20000 in
theorem gX6_count_X6_granted : GoodIn wsX6_count (wsV RX6 65 RX6 yX6_granted wsX6_granted) := goodIn_app (goodIn_of _ (by decide +kernel)) ggX6_count_X6_granted
set_option maxRecDepth 20000 in
theorem ggX6_count_X6_free : GoodIn wsX6_count wsX6_free := goodIn_r _ [32, 4, 25, 26, 27, 11, 28, 21, 22, 23, 24, 54, 55, 56, 57, 58, 59, 60, 61, 62, 63, 64, 65, 66] (by decide +kernel) (by decide +kernel)
set_option maxRecDepth 20000 in
theorem gX6_count_X6_free : GoodIn wsX6_count (wsV RX6 96 RX6 yX6_free wsX6_free) := goodIn_app (goodIn_of _ (by decide +kernel)) ggX6_count_X6_free
set_option maxRecDepth 20000 in
theorem ggX6_count_X6_spilling : GoodIn wsX6_count wsX6_spilling := goodIn_r _ [36, 4, 37, 38, 39, 11, 40, 17, 18, 19, 20, 21, 22, 23, 24, 41, 42, 43, 44, 45, 46, 47, 48, 49, 50, 51, 52, 53, 54, 55, 56, 57, 58, 59, 60, 61, 62, 63, 64, 65, 66] (by decide +kernel) (by decide +kernel)
set_option maxRecDepth 20000 in
theorem gX6_count_X6_spilling : GoodIn wsX6_count (wsV RX6 204 RX6 yX6_spilling wsX6_spilling) := goodIn_app (goodIn_of _ (by decide +kernel)) ggX6_count_X6_spilling
theorem dX6_count_0 : decode cX6_count 0 = .ok (.iload_n 1, 1) := by decide +kernel
theorem dX6_count_1 : decode cX6_count 1 = .ok (.i2l, 1) := by decide +kernel
theorem dX6_count_2 : decode cX6_count 2 = .ok (.lconst 1, 1) := by decide +kernel
theorem dX6_count_3 : decode cX6_count 3 = .ok (.ldc2_w 191, 3) := by decide +kernel
theorem dX6_count_6 : decode cX6_count 6 = .ok (.invokestatic 54, 3) := by decide +kernel
theorem dX6_count_9 : decode cX6_count 9 = .ok (.ifCond .eq 11, 3) := by decide +kernel
theorem dX6_count_12 : decode cX6_count 12 = .ok (.aload_n 0, 1) := by decide +kernel
theorem dX6_count_13 : decode cX6_count 13 = .ok (.iload_n 1, 1) := by decide +kernel
theorem dX6_count_14 : decode cX6_count 14 = .ok (.iconst 1, 1) := by decide +kernel
theorem dX6_count_15 : decode cX6_count 15 = .ok (.isub, 1) := by decide +kernel
theorem dX6_count_16 : decode cX6_count 16 = .ok (.invokevirtual 193, 3) := by decide +kernel
theorem dX6_count_19 : decode cX6_count 19 = .ok (.ireturn, 1) := by decide +kernel
theorem dX6_count_20 : decode cX6_count 20 = .ok (.iload_n 1, 1) := by decide +kernel
theorem dX6_count_21 : decode cX6_count 21 = .ok (.i2l, 1) := by decide +kernel
theorem dX6_count_22 : decode cX6_count 22 = .ok (.ldc2_w 196, 3) := by decide +kernel
theorem dX6_count_25 : decode cX6_count 25 = .ok (.ldc2_w 198, 3) := by decide +kernel
theorem dX6_count_28 : decode cX6_count 28 = .ok (.invokestatic 54, 3) := by decide +kernel
theorem dX6_count_31 : decode cX6_count 31 = .ok (.ifCond .eq 15, 3) := by decide +kernel
theorem dX6_count_34 : decode cX6_count 34 = .ok (.aload_n 0, 1) := by decide +kernel
theorem dX6_count_35 : decode cX6_count 35 = .ok (.getfield 7, 3) := by decide +kernel
theorem dX6_count_38 : decode cX6_count 38 = .ok (.iconst 5, 1) := by decide +kernel
theorem dX6_count_39 : decode cX6_count 39 = .ok (.iload_n 1, 1) := by decide +kernel
theorem dX6_count_40 : decode cX6_count 40 = .ok (.iadd, 1) := by decide +kernel
theorem dX6_count_41 : decode cX6_count 41 = .ok (.bipush 7, 2) := by decide +kernel
theorem dX6_count_43 : decode cX6_count 43 = .ok (.isub, 1) := by decide +kernel
theorem dX6_count_44 : decode cX6_count 44 = .ok (.iaload, 1) := by decide +kernel
theorem dX6_count_45 : decode cX6_count 45 = .ok (.ireturn, 1) := by decide +kernel
theorem dX6_count_46 : decode cX6_count 46 = .ok (.iload_n 1, 1) := by decide +kernel
theorem dX6_count_47 : decode cX6_count 47 = .ok (.i2l, 1) := by decide +kernel
theorem dX6_count_48 : decode cX6_count 48 = .ok (.ldc2_w 200, 3) := by decide +kernel
theorem dX6_count_51 : decode cX6_count 51 = .ok (.ldc2_w 202, 3) := by decide +kernel
theorem dX6_count_54 : decode cX6_count 54 = .ok (.invokestatic 54, 3) := by decide +kernel
theorem dX6_count_57 : decode cX6_count 57 = .ok (.ifCond .eq 15, 3) := by decide +kernel
theorem dX6_count_60 : decode cX6_count 60 = .ok (.aload_n 0, 1) := by decide +kernel
theorem dX6_count_61 : decode cX6_count 61 = .ok (.getfield 7, 3) := by decide +kernel
theorem dX6_count_64 : decode cX6_count 64 = .ok (.iconst 0, 1) := by decide +kernel
theorem dX6_count_65 : decode cX6_count 65 = .ok (.iload_n 1, 1) := by decide +kernel
theorem dX6_count_66 : decode cX6_count 66 = .ok (.iadd, 1) := by decide +kernel
theorem dX6_count_67 : decode cX6_count 67 = .ok (.bipush 12, 2) := by decide +kernel
theorem dX6_count_69 : decode cX6_count 69 = .ok (.isub, 1) := by decide +kernel
theorem dX6_count_70 : decode cX6_count 70 = .ok (.iaload, 1) := by decide +kernel
theorem dX6_count_71 : decode cX6_count 71 = .ok (.ireturn, 1) := by decide +kernel
theorem dX6_count_72 : decode cX6_count 72 = .ok (.iload_n 1, 1) := by decide +kernel
theorem dX6_count_73 : decode cX6_count 73 = .ok (.tableswitch 119 0 17 #[87, 119, 119, 119, 119, 94, 99, 119, 119, 119, 119, 104, 119, 119, 119, 119, 109, 114], 87) := by decide +kernel
theorem dX6_count_160 : decode cX6_count 160 = .ok (.aload_n 0, 1) := by decide +kernel
theorem dX6_count_161 : decode cX6_count 161 = .ok (.getfield 7, 3) := by decide +kernel
theorem dX6_count_164 : decode cX6_count 164 = .ok (.iconst 4, 1) := by decide +kernel
theorem dX6_count_165 : decode cX6_count 165 = .ok (.iaload, 1) := by decide +kernel
theorem dX6_count_166 : decode cX6_count 166 = .ok (.ireturn, 1) := by decide +kernel
theorem dX6_count_167 : decode cX6_count 167 = .ok (.aload_n 0, 1) := by decide +kernel
theorem dX6_count_168 : decode cX6_count 168 = .ok (.invokevirtual 65, 3) := by decide +kernel
theorem dX6_count_171 : decode cX6_count 171 = .ok (.ireturn, 1) := by decide +kernel
theorem dX6_count_172 : decode cX6_count 172 = .ok (.aload_n 0, 1) := by decide +kernel
theorem dX6_count_173 : decode cX6_count 173 = .ok (.invokevirtual 96, 3) := by decide +kernel
theorem dX6_count_176 : decode cX6_count 176 = .ok (.ireturn, 1) := by decide +kernel
theorem dX6_count_177 : decode cX6_count 177 = .ok (.aload_n 0, 1) := by decide +kernel
theorem dX6_count_178 : decode cX6_count 178 = .ok (.invokevirtual 204, 3) := by decide +kernel
theorem dX6_count_181 : decode cX6_count 181 = .ok (.ireturn, 1) := by decide +kernel
theorem dX6_count_182 : decode cX6_count 182 = .ok (.aload_n 0, 1) := by decide +kernel
theorem dX6_count_183 : decode cX6_count 183 = .ok (.getfield 35, 3) := by decide +kernel
theorem dX6_count_186 : decode cX6_count 186 = .ok (.ireturn, 1) := by decide +kernel
theorem dX6_count_187 : decode cX6_count 187 = .ok (.aload_n 0, 1) := by decide +kernel
theorem dX6_count_188 : decode cX6_count 188 = .ok (.getfield 155, 3) := by decide +kernel
theorem dX6_count_191 : decode cX6_count 191 = .ok (.ireturn, 1) := by decide +kernel
theorem dX6_count_192 : decode cX6_count 192 = .ok (.bipush (-2), 2) := by decide +kernel
theorem dX6_count_194 : decode cX6_count 194 = .ok (.ireturn, 1) := by decide +kernel
set_option maxRecDepth 20000 in
theorem ggX6_spare_X6_spares : GoodIn wsX6_spare wsX6_spares := goodIn_r _ [5, 6, 7, 8, 9, 4, 10, 11, 12, 13, 14, 15, 16, 17, 18, 19, 20, 21, 22, 23, 24, 25, 26, 27, 28, 29, 30, 31, 32, 33, 34, 35, 36, 37, 38, 39, 40, 41] (by decide +kernel) (by decide +kernel)
set_option maxRecDepth 20000 in
theorem gX6_spare_X6_spares : GoodIn wsX6_spare (wsV RX6 102 RX6 yX6_spares wsX6_spares) := goodIn_app (goodIn_of _ (by decide +kernel)) ggX6_spare_X6_spares
theorem dX6_spare_0 : decode cX6_spare 0 = .ok (.aload_n 0, 1) := by decide +kernel
theorem dX6_spare_1 : decode cX6_spare 1 = .ok (.invokevirtual 102, 3) := by decide +kernel
theorem dX6_spare_4 : decode cX6_spare 4 = .ok (.ireturn, 1) := by decide +kernel
