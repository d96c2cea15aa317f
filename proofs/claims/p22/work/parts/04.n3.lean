theorem dX3_init_0 : decode cX3_init 0 = .ok (.aload_n 0, 1) := by decide +kernel
theorem dX3_init_1 : decode cX3_init 1 = .ok (.invokespecial 3, 3) := by decide +kernel
theorem dX3_init_4 : decode cX3_init 4 = .ok (.return_, 1) := by decide +kernel
theorem dX3_isWay_0 : decode cX3_isWay 0 = .ok (.iload_n 0, 1) := by decide +kernel
theorem dX3_isWay_1 : decode cX3_isWay 1 = .ok (.ifCond .lt 12, 3) := by decide +kernel
theorem dX3_isWay_4 : decode cX3_isWay 4 = .ok (.iload_n 0, 1) := by decide +kernel
theorem dX3_isWay_5 : decode cX3_isWay 5 = .ok (.iconst 2, 1) := by decide +kernel
theorem dX3_isWay_6 : decode cX3_isWay 6 = .ok (.if_icmp .gt 7, 3) := by decide +kernel
theorem dX3_isWay_9 : decode cX3_isWay 9 = .ok (.iconst 1, 1) := by decide +kernel
theorem dX3_isWay_10 : decode cX3_isWay 10 = .ok (.goto 4, 3) := by decide +kernel
theorem dX3_isWay_13 : decode cX3_isWay 13 = .ok (.iconst 0, 1) := by decide +kernel
theorem dX3_isWay_14 : decode cX3_isWay 14 = .ok (.ireturn, 1) := by decide +kernel
set_option maxRecDepth 20000 in
theorem ggX3_fits_X3_isWay : GoodIn wsX3_fits wsX3_isWay := goodIn_r _ [4] (by decide +kernel) (by decide +kernel)
set_option maxRecDepth 20000 in
theorem gX3_fits_X3_isWay : GoodIn wsX3_fits (va_wsS RX3 11 yX3_isWay wsX3_isWay) := goodIn_app (goodIn_of _ (by decide +kernel)) ggX3_fits_X3_isWay
set_option maxRecDepth 20000 in
theorem ggX3_fits_X3_isTable : GoodIn wsX3_fits wsX3_isTable := goodIn_r _ [7] (by decide +kernel) (by decide +kernel)
set_option maxRecDepth 20000 in
theorem gX3_fits_X3_isTable : GoodIn wsX3_fits (va_wsS RX3 15 yX3_isTable wsX3_isTable) := goodIn_app (goodIn_of _ (by decide +kernel)) ggX3_fits_X3_isTable
theorem dX3_fits_0 : decode cX3_fits 0 = .ok (.iload_n 0, 1) := by decide +kernel
theorem dX3_fits_1 : decode cX3_fits 1 = .ok (.invokestatic 11, 3) := by decide +kernel
theorem dX3_fits_4 : decode cX3_fits 4 = .ok (.ifCond .eq 21, 3) := by decide +kernel
theorem dX3_fits_7 : decode cX3_fits 7 = .ok (.iload_n 1, 1) := by decide +kernel
theorem dX3_fits_8 : decode cX3_fits 8 = .ok (.invokestatic 15, 3) := by decide +kernel
theorem dX3_fits_11 : decode cX3_fits 11 = .ok (.ifCond .eq 14, 3) := by decide +kernel
theorem dX3_fits_14 : decode cX3_fits 14 = .ok (.iload_n 2, 1) := by decide +kernel
theorem dX3_fits_15 : decode cX3_fits 15 = .ok (.invokestatic 15, 3) := by decide +kernel
theorem dX3_fits_18 : decode cX3_fits 18 = .ok (.ifCond .eq 7, 3) := by decide +kernel
theorem dX3_fits_21 : decode cX3_fits 21 = .ok (.iconst 1, 1) := by decide +kernel
theorem dX3_fits_22 : decode cX3_fits 22 = .ok (.goto 4, 3) := by decide +kernel
theorem dX3_fits_25 : decode cX3_fits 25 = .ok (.iconst 0, 1) := by decide +kernel
theorem dX3_fits_26 : decode cX3_fits 26 = .ok (.ireturn, 1) := by decide +kernel
theorem dX3_isTable_0 : decode cX3_isTable 0 = .ok (.iload_n 0, 1) := by decide +kernel
theorem dX3_isTable_1 : decode cX3_isTable 1 = .ok (.iconst 1, 1) := by decide +kernel
theorem dX3_isTable_2 : decode cX3_isTable 2 = .ok (.if_icmp .lt 14, 3) := by decide +kernel
theorem dX3_isTable_5 : decode cX3_isTable 5 = .ok (.iload_n 0, 1) := by decide +kernel
theorem dX3_isTable_6 : decode cX3_isTable 6 = .ok (.sipush 200, 3) := by decide +kernel
theorem dX3_isTable_9 : decode cX3_isTable 9 = .ok (.if_icmp .gt 7, 3) := by decide +kernel
theorem dX3_isTable_12 : decode cX3_isTable 12 = .ok (.iconst 1, 1) := by decide +kernel
theorem dX3_isTable_13 : decode cX3_isTable 13 = .ok (.goto 4, 3) := by decide +kernel
theorem dX3_isTable_16 : decode cX3_isTable 16 = .ok (.iconst 0, 1) := by decide +kernel
theorem dX3_isTable_17 : decode cX3_isTable 17 = .ok (.ireturn, 1) := by decide +kernel
set_option maxRecDepth 20000 in
theorem ggX3_make_X3_changeWay : GoodIn wsX3_make wsX3_changeWay := goodIn_r _ [7, 8, 9, 10, 11, 12, 13, 14, 15, 16, 17, 6, 18, 2, 1, 19, 20, 21, 22, 23, 24, 25, 26, 27, 28, 29, 30] (by decide +kernel) (by decide +kernel)
set_option maxRecDepth 20000 in
theorem gX3_make_X3_changeWay : GoodIn wsX3_make (wsV RX3 25 RX3 yX3_changeWay wsX3_changeWay) := goodIn_app (goodIn_of _ (by decide +kernel)) ggX3_make_X3_changeWay
theorem dX3_make_0 : decode cX3_make 0 = .ok (.aload_n 0, 1) := by decide +kernel
theorem dX3_make_1 : decode cX3_make 1 = .ok (.iload_n 2, 1) := by decide +kernel
theorem dX3_make_2 : decode cX3_make 2 = .ok (.putfield 18, 3) := by decide +kernel
theorem dX3_make_5 : decode cX3_make 5 = .ok (.aload_n 0, 1) := by decide +kernel
theorem dX3_make_6 : decode cX3_make 6 = .ok (.iload_n 3, 1) := by decide +kernel
theorem dX3_make_7 : decode cX3_make 7 = .ok (.putfield 22, 3) := by decide +kernel
theorem dX3_make_10 : decode cX3_make 10 = .ok (.aload_n 0, 1) := by decide +kernel
theorem dX3_make_11 : decode cX3_make 11 = .ok (.iload_n 1, 1) := by decide +kernel
theorem dX3_make_12 : decode cX3_make 12 = .ok (.invokevirtual 25, 3) := by decide +kernel
theorem dX3_make_15 : decode cX3_make 15 = .ok (.return_, 1) := by decide +kernel
set_option maxRecDepth 20000 in
theorem ggX3_changeWay_X3_computedNeed : GoodIn wsX3_changeWay wsX3_computedNeed := goodIn_r _ [12, 1, 13, 14, 15, 16, 11, 17, 22, 23, 24, 25, 26] (by decide +kernel) (by decide +kernel)
set_option maxRecDepth 20000 in
theorem gX3_changeWay_X3_computedNeed : GoodIn wsX3_changeWay (wsV RX3 32 RX3 yX3_computedNeed wsX3_computedNeed) := goodIn_app (goodIn_of _ (by decide +kernel)) ggX3_changeWay_X3_computedNeed
set_option maxRecDepth 20000 in
theorem ggX3_changeWay_X3_computedWant : GoodIn wsX3_changeWay wsX3_computedWant := goodIn_r _ [21, 1, 13, 14, 22, 23, 24, 25, 26] (by decide +kernel) (by decide +kernel)
set_option maxRecDepth 20000 in
theorem gX3_changeWay_X3_computedWant : GoodIn wsX3_changeWay (wsV RX3 39 RX3 yX3_computedWant wsX3_computedWant) := goodIn_app (goodIn_of _ (by decide +kernel)) ggX3_changeWay_X3_computedWant
theorem dX3_changeWay_0 : decode cX3_changeWay 0 = .ok (.aload_n 0, 1) := by decide +kernel
theorem dX3_changeWay_1 : decode cX3_changeWay 1 = .ok (.iload_n 1, 1) := by decide +kernel
theorem dX3_changeWay_2 : decode cX3_changeWay 2 = .ok (.putfield 29, 3) := by decide +kernel
theorem dX3_changeWay_5 : decode cX3_changeWay 5 = .ok (.aload_n 0, 1) := by decide +kernel
theorem dX3_changeWay_6 : decode cX3_changeWay 6 = .ok (.aload_n 0, 1) := by decide +kernel
theorem dX3_changeWay_7 : decode cX3_changeWay 7 = .ok (.invokevirtual 32, 3) := by decide +kernel
theorem dX3_changeWay_10 : decode cX3_changeWay 10 = .ok (.putfield 36, 3) := by decide +kernel
theorem dX3_changeWay_13 : decode cX3_changeWay 13 = .ok (.aload_n 0, 1) := by decide +kernel
theorem dX3_changeWay_14 : decode cX3_changeWay 14 = .ok (.aload_n 0, 1) := by decide +kernel
theorem dX3_changeWay_15 : decode cX3_changeWay 15 = .ok (.getfield 36, 3) := by decide +kernel
theorem dX3_changeWay_18 : decode cX3_changeWay 18 = .ok (.aload_n 0, 1) := by decide +kernel
theorem dX3_changeWay_19 : decode cX3_changeWay 19 = .ok (.invokevirtual 39, 3) := by decide +kernel
theorem dX3_changeWay_22 : decode cX3_changeWay 22 = .ok (.invokestatic 42, 3) := by decide +kernel
theorem dX3_changeWay_25 : decode cX3_changeWay 25 = .ok (.putfield 48, 3) := by decide +kernel
theorem dX3_changeWay_28 : decode cX3_changeWay 28 = .ok (.return_, 1) := by decide +kernel
set_option maxRecDepth 20000 in
theorem ggX3_computedNeed_X3_root : GoodIn wsX3_computedNeed wsX3_root := goodIn_r _ [7] (by decide +kernel) (by decide +kernel)
set_option maxRecDepth 20000 in
theorem gX3_computedNeed_X3_root : GoodIn wsX3_computedNeed (va_wsS RX3 51 yX3_root wsX3_root) := goodIn_app (goodIn_of _ (by decide +kernel)) ggX3_computedNeed_X3_root
theorem dX3_computedNeed_0 : decode cX3_computedNeed 0 = .ok (.aload_n 0, 1) := by decide +kernel
theorem dX3_computedNeed_1 : decode cX3_computedNeed 1 = .ok (.getfield 29, 3) := by decide +kernel
theorem dX3_computedNeed_4 : decode cX3_computedNeed 4 = .ok (.lookupswitch 53 #[(1, 28), (2, 38)], 28) := by decide +kernel
theorem dX3_computedNeed_32 : decode cX3_computedNeed 32 = .ok (.aload_n 0, 1) := by decide +kernel
theorem dX3_computedNeed_33 : decode cX3_computedNeed 33 = .ok (.getfield 22, 3) := by decide +kernel
theorem dX3_computedNeed_36 : decode cX3_computedNeed 36 = .ok (.invokestatic 51, 3) := by decide +kernel
theorem dX3_computedNeed_39 : decode cX3_computedNeed 39 = .ok (.iconst 2, 1) := by decide +kernel
theorem dX3_computedNeed_40 : decode cX3_computedNeed 40 = .ok (.iadd, 1) := by decide +kernel
theorem dX3_computedNeed_41 : decode cX3_computedNeed 41 = .ok (.ireturn, 1) := by decide +kernel
theorem dX3_computedNeed_42 : decode cX3_computedNeed 42 = .ok (.aload_n 0, 1) := by decide +kernel
theorem dX3_computedNeed_43 : decode cX3_computedNeed 43 = .ok (.getfield 18, 3) := by decide +kernel
theorem dX3_computedNeed_46 : decode cX3_computedNeed 46 = .ok (.aload_n 0, 1) := by decide +kernel
theorem dX3_computedNeed_47 : decode cX3_computedNeed 47 = .ok (.getfield 22, 3) := by decide +kernel
theorem dX3_computedNeed_50 : decode cX3_computedNeed 50 = .ok (.iadd, 1) := by decide +kernel
theorem dX3_computedNeed_51 : decode cX3_computedNeed 51 = .ok (.invokestatic 51, 3) := by decide +kernel
theorem dX3_computedNeed_54 : decode cX3_computedNeed 54 = .ok (.iconst 2, 1) := by decide +kernel
theorem dX3_computedNeed_55 : decode cX3_computedNeed 55 = .ok (.iadd, 1) := by decide +kernel
theorem dX3_computedNeed_56 : decode cX3_computedNeed 56 = .ok (.ireturn, 1) := by decide +kernel
theorem dX3_computedNeed_57 : decode cX3_computedNeed 57 = .ok (.iconst 3, 1) := by decide +kernel
theorem dX3_computedNeed_58 : decode cX3_computedNeed 58 = .ok (.ireturn, 1) := by decide +kernel
theorem dX3_computedWant_0 : decode cX3_computedWant 0 = .ok (.aload_n 0, 1) := by decide +kernel
theorem dX3_computedWant_1 : decode cX3_computedWant 1 = .ok (.getfield 29, 3) := by decide +kernel
theorem dX3_computedWant_4 : decode cX3_computedWant 4 = .ok (.lookupswitch 56 #[(1, 28), (2, 42)], 28) := by decide +kernel
theorem dX3_computedWant_32 : decode cX3_computedWant 32 = .ok (.aload_n 0, 1) := by decide +kernel
theorem dX3_computedWant_33 : decode cX3_computedWant 33 = .ok (.getfield 22, 3) := by decide +kernel
theorem dX3_computedWant_36 : decode cX3_computedWant 36 = .ok (.aload_n 0, 1) := by decide +kernel
theorem dX3_computedWant_37 : decode cX3_computedWant 37 = .ok (.getfield 22, 3) := by decide +kernel
theorem dX3_computedWant_40 : decode cX3_computedWant 40 = .ok (.iconst 5, 1) := by decide +kernel
theorem dX3_computedWant_41 : decode cX3_computedWant 41 = .ok (.idiv, 1) := by decide +kernel
theorem dX3_computedWant_42 : decode cX3_computedWant 42 = .ok (.iadd, 1) := by decide +kernel
theorem dX3_computedWant_43 : decode cX3_computedWant 43 = .ok (.iconst 2, 1) := by decide +kernel
theorem dX3_computedWant_44 : decode cX3_computedWant 44 = .ok (.iadd, 1) := by decide +kernel
theorem dX3_computedWant_45 : decode cX3_computedWant 45 = .ok (.ireturn, 1) := by decide +kernel
theorem dX3_computedWant_46 : decode cX3_computedWant 46 = .ok (.aload_n 0, 1) := by decide +kernel
theorem dX3_computedWant_47 : decode cX3_computedWant 47 = .ok (.getfield 18, 3) := by decide +kernel
theorem dX3_computedWant_50 : decode cX3_computedWant 50 = .ok (.aload_n 0, 1) := by decide +kernel
theorem dX3_computedWant_51 : decode cX3_computedWant 51 = .ok (.getfield 22, 3) := by decide +kernel
theorem dX3_computedWant_54 : decode cX3_computedWant 54 = .ok (.iadd, 1) := by decide +kernel
theorem dX3_computedWant_55 : decode cX3_computedWant 55 = .ok (.iconst 2, 1) := by decide +kernel
theorem dX3_computedWant_56 : decode cX3_computedWant 56 = .ok (.idiv, 1) := by decide +kernel
theorem dX3_computedWant_57 : decode cX3_computedWant 57 = .ok (.iconst 3, 1) := by decide +kernel
theorem dX3_computedWant_58 : decode cX3_computedWant 58 = .ok (.iadd, 1) := by decide +kernel
theorem dX3_computedWant_59 : decode cX3_computedWant 59 = .ok (.ireturn, 1) := by decide +kernel
theorem dX3_computedWant_60 : decode cX3_computedWant 60 = .ok (.aload_n 0, 1) := by decide +kernel
theorem dX3_computedWant_61 : decode cX3_computedWant 61 = .ok (.getfield 22, 3) := by decide +kernel
theorem dX3_computedWant_64 : decode cX3_computedWant 64 = .ok (.iconst 2, 1) := by decide +kernel
theorem dX3_computedWant_65 : decode cX3_computedWant 65 = .ok (.iadd, 1) := by decide +kernel
theorem dX3_computedWant_66 : decode cX3_computedWant 66 = .ok (.ireturn, 1) := by decide +kernel
theorem dX3_root_0 : decode cX3_root 0 = .ok (.bipush 20, 2) := by decide +kernel
theorem dX3_root_2 : decode cX3_root 2 = .ok (.istore_n 1, 1) := by decide +kernel
theorem dX3_root_3 : decode cX3_root 3 = .ok (.iload_n 1, 1) := by decide +kernel
theorem dX3_root_4 : decode cX3_root 4 = .ok (.ifCond .le 18, 3) := by decide +kernel
theorem dX3_root_7 : decode cX3_root 7 = .ok (.iload_n 1, 1) := by decide +kernel
theorem dX3_root_8 : decode cX3_root 8 = .ok (.iload_n 1, 1) := by decide +kernel
theorem dX3_root_9 : decode cX3_root 9 = .ok (.imul, 1) := by decide +kernel
theorem dX3_root_10 : decode cX3_root 10 = .ok (.iload_n 0, 1) := by decide +kernel
theorem dX3_root_11 : decode cX3_root 11 = .ok (.if_icmp .gt 5, 3) := by decide +kernel
theorem dX3_root_14 : decode cX3_root 14 = .ok (.iload_n 1, 1) := by decide +kernel
theorem dX3_root_15 : decode cX3_root 15 = .ok (.ireturn, 1) := by decide +kernel
theorem dX3_root_16 : decode cX3_root 16 = .ok (.iinc 1 (-1), 3) := by decide +kernel
theorem dX3_root_19 : decode cX3_root 19 = .ok (.goto (-16), 3) := by decide +kernel
theorem dX3_root_22 : decode cX3_root 22 = .ok (.iconst 0, 1) := by decide +kernel
theorem dX3_root_23 : decode cX3_root 23 = .ok (.ireturn, 1) := by decide +kernel
theorem dX3_workWith_0 : decode cX3_workWith 0 = .ok (.iload_n 1, 1) := by decide +kernel
theorem dX3_workWith_1 : decode cX3_workWith 1 = .ok (.iconst 3, 1) := by decide +kernel
theorem dX3_workWith_2 : decode cX3_workWith 2 = .ok (.if_icmp .ge 5, 3) := by decide +kernel
theorem dX3_workWith_5 : decode cX3_workWith 5 = .ok (.iconst 0, 1) := by decide +kernel
theorem dX3_workWith_6 : decode cX3_workWith 6 = .ok (.ireturn, 1) := by decide +kernel
theorem dX3_workWith_7 : decode cX3_workWith 7 = .ok (.aload_n 0, 1) := by decide +kernel
theorem dX3_workWith_8 : decode cX3_workWith 8 = .ok (.getfield 18, 3) := by decide +kernel
theorem dX3_workWith_11 : decode cX3_workWith 11 = .ok (.aload_n 0, 1) := by decide +kernel
theorem dX3_workWith_12 : decode cX3_workWith 12 = .ok (.getfield 22, 3) := by decide +kernel
theorem dX3_workWith_15 : decode cX3_workWith 15 = .ok (.iadd, 1) := by decide +kernel
theorem dX3_workWith_16 : decode cX3_workWith 16 = .ok (.istore_n 2, 1) := by decide +kernel
theorem dX3_workWith_17 : decode cX3_workWith 17 = .ok (.aload_n 0, 1) := by decide +kernel
theorem dX3_workWith_18 : decode cX3_workWith 18 = .ok (.getfield 29, 3) := by decide +kernel
theorem dX3_workWith_21 : decode cX3_workWith 21 = .ok (.ifCond .ne 26, 3) := by decide +kernel
theorem dX3_workWith_24 : decode cX3_workWith 24 = .ok (.aload_n 0, 1) := by decide +kernel
theorem dX3_workWith_25 : decode cX3_workWith 25 = .ok (.getfield 18, 3) := by decide +kernel
theorem dX3_workWith_28 : decode cX3_workWith 28 = .ok (.aload_n 0, 1) := by decide +kernel
theorem dX3_workWith_29 : decode cX3_workWith 29 = .ok (.getfield 22, 3) := by decide +kernel
theorem dX3_workWith_32 : decode cX3_workWith 32 = .ok (.aload_n 0, 1) := by decide +kernel
theorem dX3_workWith_33 : decode cX3_workWith 33 = .ok (.getfield 18, 3) := by decide +kernel
theorem dX3_workWith_36 : decode cX3_workWith 36 = .ok (.iload_n 1, 1) := by decide +kernel
theorem dX3_workWith_37 : decode cX3_workWith 37 = .ok (.iadd, 1) := by decide +kernel
theorem dX3_workWith_38 : decode cX3_workWith 38 = .ok (.iconst 3, 1) := by decide +kernel
theorem dX3_workWith_39 : decode cX3_workWith 39 = .ok (.isub, 1) := by decide +kernel
theorem dX3_workWith_40 : decode cX3_workWith 40 = .ok (.iload_n 1, 1) := by decide +kernel
theorem dX3_workWith_41 : decode cX3_workWith 41 = .ok (.iconst 2, 1) := by decide +kernel
theorem dX3_workWith_42 : decode cX3_workWith 42 = .ok (.isub, 1) := by decide +kernel
theorem dX3_workWith_43 : decode cX3_workWith 43 = .ok (.idiv, 1) := by decide +kernel
theorem dX3_workWith_44 : decode cX3_workWith 44 = .ok (.imul, 1) := by decide +kernel
theorem dX3_workWith_45 : decode cX3_workWith 45 = .ok (.iadd, 1) := by decide +kernel
theorem dX3_workWith_46 : decode cX3_workWith 46 = .ok (.ireturn, 1) := by decide +kernel
theorem dX3_workWith_47 : decode cX3_workWith 47 = .ok (.aload_n 0, 1) := by decide +kernel
theorem dX3_workWith_48 : decode cX3_workWith 48 = .ok (.getfield 29, 3) := by decide +kernel
theorem dX3_workWith_51 : decode cX3_workWith 51 = .ok (.iconst 1, 1) := by decide +kernel
theorem dX3_workWith_52 : decode cX3_workWith 52 = .ok (.if_icmp .ne 19, 3) := by decide +kernel
theorem dX3_workWith_55 : decode cX3_workWith 55 = .ok (.iload_n 1, 1) := by decide +kernel
theorem dX3_workWith_56 : decode cX3_workWith 56 = .ok (.aload_n 0, 1) := by decide +kernel
theorem dX3_workWith_57 : decode cX3_workWith 57 = .ok (.getfield 48, 3) := by decide +kernel
theorem dX3_workWith_60 : decode cX3_workWith 60 = .ok (.if_icmp .lt 7, 3) := by decide +kernel
theorem dX3_workWith_63 : decode cX3_workWith 63 = .ok (.iload_n 2, 1) := by decide +kernel
theorem dX3_workWith_64 : decode cX3_workWith 64 = .ok (.goto 6, 3) := by decide +kernel
theorem dX3_workWith_67 : decode cX3_workWith 67 = .ok (.iconst 3, 1) := by decide +kernel
theorem dX3_workWith_68 : decode cX3_workWith 68 = .ok (.iload_n 2, 1) := by decide +kernel
theorem dX3_workWith_69 : decode cX3_workWith 69 = .ok (.imul, 1) := by decide +kernel
theorem dX3_workWith_70 : decode cX3_workWith 70 = .ok (.ireturn, 1) := by decide +kernel
theorem dX3_workWith_71 : decode cX3_workWith 71 = .ok (.iload_n 2, 1) := by decide +kernel
theorem dX3_workWith_72 : decode cX3_workWith 72 = .ok (.iload_n 1, 1) := by decide +kernel
theorem dX3_workWith_73 : decode cX3_workWith 73 = .ok (.iadd, 1) := by decide +kernel
theorem dX3_workWith_74 : decode cX3_workWith 74 = .ok (.iconst 1, 1) := by decide +kernel
theorem dX3_workWith_75 : decode cX3_workWith 75 = .ok (.isub, 1) := by decide +kernel
theorem dX3_workWith_76 : decode cX3_workWith 76 = .ok (.iload_n 1, 1) := by decide +kernel
theorem dX3_workWith_77 : decode cX3_workWith 77 = .ok (.idiv, 1) := by decide +kernel
theorem dX3_workWith_78 : decode cX3_workWith 78 = .ok (.istore_n 3, 1) := by decide +kernel
theorem dX3_workWith_79 : decode cX3_workWith 79 = .ok (.iconst 0, 1) := by decide +kernel
theorem dX3_workWith_80 : decode cX3_workWith 80 = .ok (.istore 4, 2) := by decide +kernel
theorem dX3_workWith_82 : decode cX3_workWith 82 = .ok (.iload_n 3, 1) := by decide +kernel
theorem dX3_workWith_83 : decode cX3_workWith 83 = .ok (.iconst 1, 1) := by decide +kernel
theorem dX3_workWith_84 : decode cX3_workWith 84 = .ok (.if_icmp .le 25, 3) := by decide +kernel
theorem dX3_workWith_87 : decode cX3_workWith 87 = .ok (.iload 4, 2) := by decide +kernel
theorem dX3_workWith_89 : decode cX3_workWith 89 = .ok (.iload_n 2, 1) := by decide +kernel
theorem dX3_workWith_90 : decode cX3_workWith 90 = .ok (.if_icmp .ge 19, 3) := by decide +kernel
theorem dX3_workWith_93 : decode cX3_workWith 93 = .ok (.iload_n 3, 1) := by decide +kernel
theorem dX3_workWith_94 : decode cX3_workWith 94 = .ok (.iload_n 1, 1) := by decide +kernel
theorem dX3_workWith_95 : decode cX3_workWith 95 = .ok (.iadd, 1) := by decide +kernel
theorem dX3_workWith_96 : decode cX3_workWith 96 = .ok (.iconst 2, 1) := by decide +kernel
theorem dX3_workWith_97 : decode cX3_workWith 97 = .ok (.isub, 1) := by decide +kernel
theorem dX3_workWith_98 : decode cX3_workWith 98 = .ok (.iload_n 1, 1) := by decide +kernel
theorem dX3_workWith_99 : decode cX3_workWith 99 = .ok (.iconst 1, 1) := by decide +kernel
theorem dX3_workWith_100 : decode cX3_workWith 100 = .ok (.isub, 1) := by decide +kernel
theorem dX3_workWith_101 : decode cX3_workWith 101 = .ok (.idiv, 1) := by decide +kernel
theorem dX3_workWith_102 : decode cX3_workWith 102 = .ok (.istore_n 3, 1) := by decide +kernel
theorem dX3_workWith_103 : decode cX3_workWith 103 = .ok (.iinc 4 1, 3) := by decide +kernel
theorem dX3_workWith_106 : decode cX3_workWith 106 = .ok (.goto (-24), 3) := by decide +kernel
theorem dX3_workWith_109 : decode cX3_workWith 109 = .ok (.iload_n 2, 1) := by decide +kernel
theorem dX3_workWith_110 : decode cX3_workWith 110 = .ok (.iconst 2, 1) := by decide +kernel
theorem dX3_workWith_111 : decode cX3_workWith 111 = .ok (.iload 4, 2) := by decide +kernel
theorem dX3_workWith_113 : decode cX3_workWith 113 = .ok (.imul, 1) := by decide +kernel
theorem dX3_workWith_114 : decode cX3_workWith 114 = .ok (.iconst 1, 1) := by decide +kernel
theorem dX3_workWith_115 : decode cX3_workWith 115 = .ok (.iadd, 1) := by decide +kernel
theorem dX3_workWith_116 : decode cX3_workWith 116 = .ok (.imul, 1) := by decide +kernel
theorem dX3_workWith_117 : decode cX3_workWith 117 = .ok (.ireturn, 1) := by decide +kernel
theorem dX3_spillsWith_0 : decode cX3_spillsWith 0 = .ok (.aload_n 0, 1) := by decide +kernel
theorem dX3_spillsWith_1 : decode cX3_spillsWith 1 = .ok (.getfield 29, 3) := by decide +kernel
theorem dX3_spillsWith_4 : decode cX3_spillsWith 4 = .ok (.ifCond .eq 15, 3) := by decide +kernel
theorem dX3_spillsWith_7 : decode cX3_spillsWith 7 = .ok (.iload_n 1, 1) := by decide +kernel
theorem dX3_spillsWith_8 : decode cX3_spillsWith 8 = .ok (.aload_n 0, 1) := by decide +kernel
theorem dX3_spillsWith_9 : decode cX3_spillsWith 9 = .ok (.getfield 48, 3) := by decide +kernel
theorem dX3_spillsWith_12 : decode cX3_spillsWith 12 = .ok (.if_icmp .ge 7, 3) := by decide +kernel
theorem dX3_spillsWith_15 : decode cX3_spillsWith 15 = .ok (.iconst 1, 1) := by decide +kernel
theorem dX3_spillsWith_16 : decode cX3_spillsWith 16 = .ok (.goto 4, 3) := by decide +kernel
theorem dX3_spillsWith_19 : decode cX3_spillsWith 19 = .ok (.iconst 0, 1) := by decide +kernel
theorem dX3_spillsWith_20 : decode cX3_spillsWith 20 = .ok (.ireturn, 1) := by decide +kernel
theorem dX3_copyFrom_0 : decode cX3_copyFrom 0 = .ok (.aload_n 0, 1) := by decide +kernel
theorem dX3_copyFrom_1 : decode cX3_copyFrom 1 = .ok (.aload_n 1, 1) := by decide +kernel
theorem dX3_copyFrom_2 : decode cX3_copyFrom 2 = .ok (.getfield 29, 3) := by decide +kernel
theorem dX3_copyFrom_5 : decode cX3_copyFrom 5 = .ok (.putfield 29, 3) := by decide +kernel
theorem dX3_copyFrom_8 : decode cX3_copyFrom 8 = .ok (.aload_n 0, 1) := by decide +kernel
theorem dX3_copyFrom_9 : decode cX3_copyFrom 9 = .ok (.aload_n 1, 1) := by decide +kernel
theorem dX3_copyFrom_10 : decode cX3_copyFrom 10 = .ok (.getfield 18, 3) := by decide +kernel
theorem dX3_copyFrom_13 : decode cX3_copyFrom 13 = .ok (.putfield 18, 3) := by decide +kernel
theorem dX3_copyFrom_16 : decode cX3_copyFrom 16 = .ok (.aload_n 0, 1) := by decide +kernel
theorem dX3_copyFrom_17 : decode cX3_copyFrom 17 = .ok (.aload_n 1, 1) := by decide +kernel
theorem dX3_copyFrom_18 : decode cX3_copyFrom 18 = .ok (.getfield 22, 3) := by decide +kernel
theorem dX3_copyFrom_21 : decode cX3_copyFrom 21 = .ok (.putfield 22, 3) := by decide +kernel
theorem dX3_copyFrom_24 : decode cX3_copyFrom 24 = .ok (.aload_n 0, 1) := by decide +kernel
theorem dX3_copyFrom_25 : decode cX3_copyFrom 25 = .ok (.aload_n 1, 1) := by decide +kernel
theorem dX3_copyFrom_26 : decode cX3_copyFrom 26 = .ok (.getfield 36, 3) := by decide +kernel
theorem dX3_copyFrom_29 : decode cX3_copyFrom 29 = .ok (.putfield 36, 3) := by decide +kernel
theorem dX3_copyFrom_32 : decode cX3_copyFrom 32 = .ok (.aload_n 0, 1) := by decide +kernel
theorem dX3_copyFrom_33 : decode cX3_copyFrom 33 = .ok (.aload_n 1, 1) := by decide +kernel
theorem dX3_copyFrom_34 : decode cX3_copyFrom 34 = .ok (.getfield 48, 3) := by decide +kernel
theorem dX3_copyFrom_37 : decode cX3_copyFrom 37 = .ok (.putfield 48, 3) := by decide +kernel
theorem dX3_copyFrom_40 : decode cX3_copyFrom 40 = .ok (.return_, 1) := by decide +kernel
