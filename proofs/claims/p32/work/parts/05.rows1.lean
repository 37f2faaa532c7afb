theorem dX2_init_0 : decode cX2_init 0 = .ok (.aload_n 0, 1) := by decide +kernel
theorem dX2_init_1 : decode cX2_init 1 = .ok (.invokespecial 3, 3) := by decide +kernel
theorem dX2_init_4 : decode cX2_init 4 = .ok (.aload_n 0, 1) := by decide +kernel
theorem dX2_init_5 : decode cX2_init 5 = .ok (.sipush 256, 3) := by decide +kernel
theorem dX2_init_8 : decode cX2_init 8 = .ok (.newarray .boolean, 2) := by decide +kernel
theorem dX2_init_10 : decode cX2_init 10 = .ok (.putfield 9, 3) := by decide +kernel
theorem dX2_init_13 : decode cX2_init 13 = .ok (.aload_n 0, 1) := by decide +kernel
theorem dX2_init_14 : decode cX2_init 14 = .ok (.sipush 256, 3) := by decide +kernel
theorem dX2_init_17 : decode cX2_init 17 = .ok (.newarray .int, 2) := by decide +kernel
theorem dX2_init_19 : decode cX2_init 19 = .ok (.putfield 15, 3) := by decide +kernel
theorem dX2_init_22 : decode cX2_init 22 = .ok (.aload_n 0, 1) := by decide +kernel
theorem dX2_init_23 : decode cX2_init 23 = .ok (.sipush 256, 3) := by decide +kernel
theorem dX2_init_26 : decode cX2_init 26 = .ok (.newarray .int, 2) := by decide +kernel
theorem dX2_init_28 : decode cX2_init 28 = .ok (.putfield 19, 3) := by decide +kernel
theorem dX2_init_31 : decode cX2_init 31 = .ok (.aload_n 0, 1) := by decide +kernel
theorem dX2_init_32 : decode cX2_init 32 = .ok (.sipush 256, 3) := by decide +kernel
theorem dX2_init_35 : decode cX2_init 35 = .ok (.newarray .int, 2) := by decide +kernel
theorem dX2_init_37 : decode cX2_init 37 = .ok (.putfield 22, 3) := by decide +kernel
theorem dX2_init_40 : decode cX2_init 40 = .ok (.aload_n 0, 1) := by decide +kernel
theorem dX2_init_41 : decode cX2_init 41 = .ok (.aload_n 1, 1) := by decide +kernel
theorem dX2_init_42 : decode cX2_init 42 = .ok (.putfield 25, 3) := by decide +kernel
theorem dX2_init_45 : decode cX2_init 45 = .ok (.return_, 1) := by decide +kernel
theorem dX2_forget_0 : decode cX2_forget 0 = .ok (.aload_n 0, 1) := by decide +kernel
theorem dX2_forget_1 : decode cX2_forget 1 = .ok (.iconst 0, 1) := by decide +kernel
theorem dX2_forget_2 : decode cX2_forget 2 = .ok (.putfield 29, 3) := by decide +kernel
theorem dX2_forget_5 : decode cX2_forget 5 = .ok (.return_, 1) := by decide +kernel
set_option maxRecDepth 20000 in
theorem ggX2_splitsOf_X2_find : GoodIn wsX2_splitsOf wsX2_find := goodIn_r _ [6, 7, 8, 9, 10, 11, 12, 13, 14, 15, 16, 17, 18, 19, 20, 21, 22, 23, 24, 25, 26, 5, 27, 1, 28, 29, 30, 31, 32, 33, 34, 35, 36, 37, 38, 39, 40, 41, 42, 43, 44, 45, 46, 47, 48, 49, 50, 51, 52, 53, 54, 55, 56, 57, 58, 59, 60, 61, 62, 63, 64, 65] (by decide +kernel) (by decide +kernel)
set_option maxRecDepth 20000 in
theorem gX2_splitsOf_X2_find : GoodIn wsX2_splitsOf (wsV RX2 33 RX2 yX2_find wsX2_find) := goodIn_app (goodIn_of _ (by decide +kernel)) ggX2_splitsOf_X2_find
theorem dX2_splitsOf_0 : decode cX2_splitsOf 0 = .ok (.aload_n 0, 1) := by decide +kernel
theorem dX2_splitsOf_1 : decode cX2_splitsOf 1 = .ok (.invokevirtual 33, 3) := by decide +kernel
theorem dX2_splitsOf_4 : decode cX2_splitsOf 4 = .ok (.aload_n 0, 1) := by decide +kernel
theorem dX2_splitsOf_5 : decode cX2_splitsOf 5 = .ok (.getfield 15, 3) := by decide +kernel
theorem dX2_splitsOf_8 : decode cX2_splitsOf 8 = .ok (.iload_n 1, 1) := by decide +kernel
theorem dX2_splitsOf_9 : decode cX2_splitsOf 9 = .ok (.iaload, 1) := by decide +kernel
theorem dX2_splitsOf_10 : decode cX2_splitsOf 10 = .ok (.ireturn, 1) := by decide +kernel
set_option maxRecDepth 20000 in
theorem ggX2_waysOf_X2_find : GoodIn wsX2_waysOf wsX2_find := goodIn_r _ [6, 7, 8, 9, 10, 11, 12, 13, 14, 15, 16, 17, 18, 19, 20, 21, 22, 23, 24, 25, 26, 5, 27, 28, 1, 29, 30, 31, 32, 33, 34, 35, 36, 37, 38, 39, 40, 41, 42, 43, 44, 45, 46, 47, 48, 49, 50, 51, 52, 53, 54, 55, 56, 57, 58, 59, 60, 61, 62, 63, 64, 65] (by decide +kernel) (by decide +kernel)
set_option maxRecDepth 20000 in
theorem gX2_waysOf_X2_find : GoodIn wsX2_waysOf (wsV RX2 33 RX2 yX2_find wsX2_find) := goodIn_app (goodIn_of _ (by decide +kernel)) ggX2_waysOf_X2_find
theorem dX2_waysOf_0 : decode cX2_waysOf 0 = .ok (.aload_n 0, 1) := by decide +kernel
theorem dX2_waysOf_1 : decode cX2_waysOf 1 = .ok (.invokevirtual 33, 3) := by decide +kernel
theorem dX2_waysOf_4 : decode cX2_waysOf 4 = .ok (.aload_n 0, 1) := by decide +kernel
theorem dX2_waysOf_5 : decode cX2_waysOf 5 = .ok (.getfield 19, 3) := by decide +kernel
theorem dX2_waysOf_8 : decode cX2_waysOf 8 = .ok (.iload_n 1, 1) := by decide +kernel
theorem dX2_waysOf_9 : decode cX2_waysOf 9 = .ok (.iaload, 1) := by decide +kernel
theorem dX2_waysOf_10 : decode cX2_waysOf 10 = .ok (.ireturn, 1) := by decide +kernel
set_option maxRecDepth 20000 in
theorem ggX2_leastDepthOf_X2_find : GoodIn wsX2_leastDepthOf wsX2_find := goodIn_r _ [6, 7, 8, 9, 10, 11, 12, 13, 14, 15, 16, 17, 18, 19, 20, 21, 22, 23, 24, 25, 26, 5, 27, 28, 29, 1, 30, 31, 32, 33, 34, 35, 36, 37, 38, 39, 40, 41, 42, 43, 44, 45, 46, 47, 48, 49, 50, 51, 52, 53, 54, 55, 56, 57, 58, 59, 60, 61, 62, 63, 64, 65] (by decide +kernel) (by decide +kernel)
set_option maxRecDepth 20000 in
theorem gX2_leastDepthOf_X2_find : GoodIn wsX2_leastDepthOf (wsV RX2 33 RX2 yX2_find wsX2_find) := goodIn_app (goodIn_of _ (by decide +kernel)) ggX2_leastDepthOf_X2_find
theorem dX2_leastDepthOf_0 : decode cX2_leastDepthOf 0 = .ok (.aload_n 0, 1) := by decide +kernel
theorem dX2_leastDepthOf_1 : decode cX2_leastDepthOf 1 = .ok (.invokevirtual 33, 3) := by decide +kernel
theorem dX2_leastDepthOf_4 : decode cX2_leastDepthOf 4 = .ok (.aload_n 0, 1) := by decide +kernel
theorem dX2_leastDepthOf_5 : decode cX2_leastDepthOf 5 = .ok (.getfield 22, 3) := by decide +kernel
theorem dX2_leastDepthOf_8 : decode cX2_leastDepthOf 8 = .ok (.iload_n 1, 1) := by decide +kernel
theorem dX2_leastDepthOf_9 : decode cX2_leastDepthOf 9 = .ok (.iaload, 1) := by decide +kernel
theorem dX2_leastDepthOf_10 : decode cX2_leastDepthOf 10 = .ok (.ireturn, 1) := by decide +kernel
set_option maxRecDepth 20000 in
theorem ggX2_find_X3_all : GoodIn wsX2_find wsX3_all := goodIn_r _ [8, 9, 56, 57, 58, 59, 60, 61] (by decide +kernel) (by decide +kernel)
set_option maxRecDepth 20000 in
theorem gX2_find_X3_all : GoodIn wsX2_find (wsV RX2 36 RX3 yX3_all wsX3_all) := goodIn_app (goodIn_of _ (by decide +kernel)) ggX2_find_X3_all
set_option maxRecDepth 20000 in
theorem ggX2_find_X3_connected : GoodIn wsX2_find wsX3_connected := goodIn_r _ [13, 14, 15, 16, 7, 17, 56, 57, 58, 59, 60, 61] (by decide +kernel) (by decide +kernel)
set_option maxRecDepth 20000 in
theorem gX2_find_X3_connected : GoodIn wsX2_find (wsV RX2 42 RX3 yX3_connected wsX3_connected) := goodIn_app (goodIn_of _ (by decide +kernel)) ggX2_find_X3_connected
set_option maxRecDepth 20000 in
theorem ggX2_find_X2_findFor : GoodIn wsX2_find wsX2_findFor := goodIn_r _ [22, 23, 24, 25, 3, 26, 27, 28, 21, 29, 2, 30, 31, 32, 7, 33, 34, 35, 36, 37, 9, 38, 39, 40, 41, 42, 43, 44, 45, 46, 47, 48, 49, 50, 51, 52, 53, 54, 55, 56, 57, 58, 59, 60, 61] (by decide +kernel) (by decide +kernel)
set_option maxRecDepth 20000 in
theorem gX2_find_X2_findFor : GoodIn wsX2_find (wsV RX2 45 RX2 yX2_findFor wsX2_findFor) := goodIn_app (goodIn_of _ (by decide +kernel)) ggX2_find_X2_findFor
theorem dX2_find_0 : decode cX2_find 0 = .ok (.aload_n 0, 1) := by decide +kernel
theorem dX2_find_1 : decode cX2_find 1 = .ok (.getfield 29, 3) := by decide +kernel
theorem dX2_find_4 : decode cX2_find 4 = .ok (.ifCond .eq 4, 3) := by decide +kernel
theorem dX2_find_7 : decode cX2_find 7 = .ok (.return_, 1) := by decide +kernel
theorem dX2_find_8 : decode cX2_find 8 = .ok (.iconst 1, 1) := by decide +kernel
theorem dX2_find_9 : decode cX2_find 9 = .ok (.istore_n 1, 1) := by decide +kernel
theorem dX2_find_10 : decode cX2_find 10 = .ok (.iload_n 1, 1) := by decide +kernel
theorem dX2_find_11 : decode cX2_find 11 = .ok (.aload_n 0, 1) := by decide +kernel
theorem dX2_find_12 : decode cX2_find 12 = .ok (.getfield 25, 3) := by decide +kernel
theorem dX2_find_15 : decode cX2_find 15 = .ok (.invokevirtual 36, 3) := by decide +kernel
theorem dX2_find_18 : decode cX2_find 18 = .ok (.if_icmp .gt 28, 3) := by decide +kernel
theorem dX2_find_21 : decode cX2_find 21 = .ok (.aload_n 0, 1) := by decide +kernel
theorem dX2_find_22 : decode cX2_find 22 = .ok (.getfield 9, 3) := by decide +kernel
theorem dX2_find_25 : decode cX2_find 25 = .ok (.iload_n 1, 1) := by decide +kernel
theorem dX2_find_26 : decode cX2_find 26 = .ok (.aload_n 0, 1) := by decide +kernel
theorem dX2_find_27 : decode cX2_find 27 = .ok (.getfield 25, 3) := by decide +kernel
theorem dX2_find_30 : decode cX2_find 30 = .ok (.iload_n 1, 1) := by decide +kernel
theorem dX2_find_31 : decode cX2_find 31 = .ok (.invokevirtual 42, 3) := by decide +kernel
theorem dX2_find_34 : decode cX2_find 34 = .ok (.bastore, 1) := by decide +kernel
theorem dX2_find_35 : decode cX2_find 35 = .ok (.aload_n 0, 1) := by decide +kernel
theorem dX2_find_36 : decode cX2_find 36 = .ok (.iload_n 1, 1) := by decide +kernel
theorem dX2_find_37 : decode cX2_find 37 = .ok (.invokevirtual 45, 3) := by decide +kernel
theorem dX2_find_40 : decode cX2_find 40 = .ok (.iinc 1 1, 3) := by decide +kernel
theorem dX2_find_43 : decode cX2_find 43 = .ok (.goto (-33), 3) := by decide +kernel
theorem dX2_find_46 : decode cX2_find 46 = .ok (.aload_n 0, 1) := by decide +kernel
theorem dX2_find_47 : decode cX2_find 47 = .ok (.iconst 1, 1) := by decide +kernel
theorem dX2_find_48 : decode cX2_find 48 = .ok (.putfield 29, 3) := by decide +kernel
theorem dX2_find_51 : decode cX2_find 51 = .ok (.return_, 1) := by decide +kernel
set_option maxRecDepth 20000 in
theorem ggX2_findFor_X2_isSplit : GoodIn wsX2_findFor wsX2_isSplit := goodIn_r _ [9, 4, 10, 11, 12, 13, 14, 15, 16, 17, 18, 19, 20, 21, 33, 34, 35, 36, 37, 38, 39, 40, 41, 42, 43, 44] (by decide +kernel) (by decide +kernel)
set_option maxRecDepth 20000 in
theorem gX2_findFor_X2_isSplit : GoodIn wsX2_findFor (wsV RX2 49 RX2 yX2_isSplit wsX2_isSplit) := goodIn_app (goodIn_of _ (by decide +kernel)) ggX2_findFor_X2_isSplit
set_option maxRecDepth 20000 in
theorem ggX2_findFor_X2_addSplit : GoodIn wsX2_findFor wsX2_addSplit := goodIn_r _ [25, 1, 2, 3, 26, 27, 28, 29, 30, 31, 32, 33, 34, 35, 36, 37, 38] (by decide +kernel) (by decide +kernel)
set_option maxRecDepth 20000 in
theorem gX2_findFor_X2_addSplit : GoodIn wsX2_findFor (wsV RX2 53 RX2 yX2_addSplit wsX2_addSplit) := goodIn_app (goodIn_of _ (by decide +kernel)) ggX2_findFor_X2_addSplit
theorem dX2_findFor_0 : decode cX2_findFor 0 = .ok (.aload_n 0, 1) := by decide +kernel
theorem dX2_findFor_1 : decode cX2_findFor 1 = .ok (.getfield 15, 3) := by decide +kernel
theorem dX2_findFor_4 : decode cX2_findFor 4 = .ok (.iload_n 1, 1) := by decide +kernel
theorem dX2_findFor_5 : decode cX2_findFor 5 = .ok (.iconst 0, 1) := by decide +kernel
theorem dX2_findFor_6 : decode cX2_findFor 6 = .ok (.iastore, 1) := by decide +kernel
theorem dX2_findFor_7 : decode cX2_findFor 7 = .ok (.aload_n 0, 1) := by decide +kernel
theorem dX2_findFor_8 : decode cX2_findFor 8 = .ok (.getfield 19, 3) := by decide +kernel
theorem dX2_findFor_11 : decode cX2_findFor 11 = .ok (.iload_n 1, 1) := by decide +kernel
theorem dX2_findFor_12 : decode cX2_findFor 12 = .ok (.iconst 0, 1) := by decide +kernel
theorem dX2_findFor_13 : decode cX2_findFor 13 = .ok (.iastore, 1) := by decide +kernel
theorem dX2_findFor_14 : decode cX2_findFor 14 = .ok (.aload_n 0, 1) := by decide +kernel
theorem dX2_findFor_15 : decode cX2_findFor 15 = .ok (.getfield 22, 3) := by decide +kernel
theorem dX2_findFor_18 : decode cX2_findFor 18 = .ok (.iload_n 1, 1) := by decide +kernel
theorem dX2_findFor_19 : decode cX2_findFor 19 = .ok (.iconst (-1), 1) := by decide +kernel
theorem dX2_findFor_20 : decode cX2_findFor 20 = .ok (.iastore, 1) := by decide +kernel
theorem dX2_findFor_21 : decode cX2_findFor 21 = .ok (.aload_n 0, 1) := by decide +kernel
theorem dX2_findFor_22 : decode cX2_findFor 22 = .ok (.getfield 9, 3) := by decide +kernel
theorem dX2_findFor_25 : decode cX2_findFor 25 = .ok (.iload_n 1, 1) := by decide +kernel
theorem dX2_findFor_26 : decode cX2_findFor 26 = .ok (.baload, 1) := by decide +kernel
theorem dX2_findFor_27 : decode cX2_findFor 27 = .ok (.ifCond .ne 4, 3) := by decide +kernel
theorem dX2_findFor_30 : decode cX2_findFor 30 = .ok (.return_, 1) := by decide +kernel
theorem dX2_findFor_31 : decode cX2_findFor 31 = .ok (.iload_n 1, 1) := by decide +kernel
theorem dX2_findFor_32 : decode cX2_findFor 32 = .ok (.iload_n 1, 1) := by decide +kernel
theorem dX2_findFor_33 : decode cX2_findFor 33 = .ok (.iconst 1, 1) := by decide +kernel
theorem dX2_findFor_34 : decode cX2_findFor 34 = .ok (.isub, 1) := by decide +kernel
theorem dX2_findFor_35 : decode cX2_findFor 35 = .ok (.iand, 1) := by decide +kernel
theorem dX2_findFor_36 : decode cX2_findFor 36 = .ok (.istore_n 2, 1) := by decide +kernel
theorem dX2_findFor_37 : decode cX2_findFor 37 = .ok (.iload_n 2, 1) := by decide +kernel
theorem dX2_findFor_38 : decode cX2_findFor 38 = .ok (.ifCond .ne 17, 3) := by decide +kernel
theorem dX2_findFor_41 : decode cX2_findFor 41 = .ok (.aload_n 0, 1) := by decide +kernel
theorem dX2_findFor_42 : decode cX2_findFor 42 = .ok (.getfield 19, 3) := by decide +kernel
theorem dX2_findFor_45 : decode cX2_findFor 45 = .ok (.iload_n 1, 1) := by decide +kernel
theorem dX2_findFor_46 : decode cX2_findFor 46 = .ok (.iconst 1, 1) := by decide +kernel
theorem dX2_findFor_47 : decode cX2_findFor 47 = .ok (.iastore, 1) := by decide +kernel
theorem dX2_findFor_48 : decode cX2_findFor 48 = .ok (.aload_n 0, 1) := by decide +kernel
theorem dX2_findFor_49 : decode cX2_findFor 49 = .ok (.getfield 22, 3) := by decide +kernel
theorem dX2_findFor_52 : decode cX2_findFor 52 = .ok (.iload_n 1, 1) := by decide +kernel
theorem dX2_findFor_53 : decode cX2_findFor 53 = .ok (.iconst 0, 1) := by decide +kernel
theorem dX2_findFor_54 : decode cX2_findFor 54 = .ok (.iastore, 1) := by decide +kernel
theorem dX2_findFor_55 : decode cX2_findFor 55 = .ok (.iload_n 2, 1) := by decide +kernel
theorem dX2_findFor_56 : decode cX2_findFor 56 = .ok (.istore_n 3, 1) := by decide +kernel
theorem dX2_findFor_57 : decode cX2_findFor 57 = .ok (.iload_n 3, 1) := by decide +kernel
theorem dX2_findFor_58 : decode cX2_findFor 58 = .ok (.ifCond .le 37, 3) := by decide +kernel
theorem dX2_findFor_61 : decode cX2_findFor 61 = .ok (.iload_n 3, 1) := by decide +kernel
theorem dX2_findFor_62 : decode cX2_findFor 62 = .ok (.iload_n 2, 1) := by decide +kernel
theorem dX2_findFor_63 : decode cX2_findFor 63 = .ok (.iconst (-1), 1) := by decide +kernel
theorem dX2_findFor_64 : decode cX2_findFor 64 = .ok (.ixor, 1) := by decide +kernel
theorem dX2_findFor_65 : decode cX2_findFor 65 = .ok (.iand, 1) := by decide +kernel
theorem dX2_findFor_66 : decode cX2_findFor 66 = .ok (.ifCond .ne 23, 3) := by decide +kernel
theorem dX2_findFor_69 : decode cX2_findFor 69 = .ok (.aload_n 0, 1) := by decide +kernel
theorem dX2_findFor_70 : decode cX2_findFor 70 = .ok (.iload_n 1, 1) := by decide +kernel
theorem dX2_findFor_71 : decode cX2_findFor 71 = .ok (.iload_n 3, 1) := by decide +kernel
theorem dX2_findFor_72 : decode cX2_findFor 72 = .ok (.ixor, 1) := by decide +kernel
theorem dX2_findFor_73 : decode cX2_findFor 73 = .ok (.iload_n 3, 1) := by decide +kernel
theorem dX2_findFor_74 : decode cX2_findFor 74 = .ok (.invokevirtual 49, 3) := by decide +kernel
theorem dX2_findFor_77 : decode cX2_findFor 77 = .ok (.ifCond .eq 12, 3) := by decide +kernel
theorem dX2_findFor_80 : decode cX2_findFor 80 = .ok (.aload_n 0, 1) := by decide +kernel
theorem dX2_findFor_81 : decode cX2_findFor 81 = .ok (.iload_n 1, 1) := by decide +kernel
theorem dX2_findFor_82 : decode cX2_findFor 82 = .ok (.iload_n 1, 1) := by decide +kernel
theorem dX2_findFor_83 : decode cX2_findFor 83 = .ok (.iload_n 3, 1) := by decide +kernel
theorem dX2_findFor_84 : decode cX2_findFor 84 = .ok (.ixor, 1) := by decide +kernel
theorem dX2_findFor_85 : decode cX2_findFor 85 = .ok (.iload_n 3, 1) := by decide +kernel
theorem dX2_findFor_86 : decode cX2_findFor 86 = .ok (.invokevirtual 53, 3) := by decide +kernel
theorem dX2_findFor_89 : decode cX2_findFor 89 = .ok (.iinc 3 (-1), 3) := by decide +kernel
theorem dX2_findFor_92 : decode cX2_findFor 92 = .ok (.goto (-35), 3) := by decide +kernel
theorem dX2_findFor_95 : decode cX2_findFor 95 = .ok (.return_, 1) := by decide +kernel
set_option maxRecDepth 20000 in
theorem ggX2_isSplit_X3_separable : GoodIn wsX2_isSplit wsX3_separable := goodIn_r _ [7, 8, 9, 10, 6, 11, 12, 13, 20, 21, 22, 23, 24, 25] (by decide +kernel) (by decide +kernel)
set_option maxRecDepth 20000 in
theorem gX2_isSplit_X3_separable : GoodIn wsX2_isSplit (wsV RX2 57 RX3 yX3_separable wsX3_separable) := goodIn_app (goodIn_of _ (by decide +kernel)) ggX2_isSplit_X3_separable
theorem dX2_isSplit_0 : decode cX2_isSplit 0 = .ok (.aload_n 0, 1) := by decide +kernel
theorem dX2_isSplit_1 : decode cX2_isSplit 1 = .ok (.getfield 9, 3) := by decide +kernel
theorem dX2_isSplit_4 : decode cX2_isSplit 4 = .ok (.iload_n 1, 1) := by decide +kernel
theorem dX2_isSplit_5 : decode cX2_isSplit 5 = .ok (.baload, 1) := by decide +kernel
theorem dX2_isSplit_6 : decode cX2_isSplit 6 = .ok (.ifCond .eq 28, 3) := by decide +kernel
theorem dX2_isSplit_9 : decode cX2_isSplit 9 = .ok (.aload_n 0, 1) := by decide +kernel
theorem dX2_isSplit_10 : decode cX2_isSplit 10 = .ok (.getfield 9, 3) := by decide +kernel
theorem dX2_isSplit_13 : decode cX2_isSplit 13 = .ok (.iload_n 2, 1) := by decide +kernel
theorem dX2_isSplit_14 : decode cX2_isSplit 14 = .ok (.baload, 1) := by decide +kernel
theorem dX2_isSplit_15 : decode cX2_isSplit 15 = .ok (.ifCond .eq 19, 3) := by decide +kernel
theorem dX2_isSplit_18 : decode cX2_isSplit 18 = .ok (.aload_n 0, 1) := by decide +kernel
theorem dX2_isSplit_19 : decode cX2_isSplit 19 = .ok (.getfield 25, 3) := by decide +kernel
theorem dX2_isSplit_22 : decode cX2_isSplit 22 = .ok (.iload_n 1, 1) := by decide +kernel
theorem dX2_isSplit_23 : decode cX2_isSplit 23 = .ok (.iload_n 2, 1) := by decide +kernel
theorem dX2_isSplit_24 : decode cX2_isSplit 24 = .ok (.invokevirtual 57, 3) := by decide +kernel
theorem dX2_isSplit_27 : decode cX2_isSplit 27 = .ok (.ifCond .eq 7, 3) := by decide +kernel
theorem dX2_isSplit_30 : decode cX2_isSplit 30 = .ok (.iconst 1, 1) := by decide +kernel
theorem dX2_isSplit_31 : decode cX2_isSplit 31 = .ok (.goto 4, 3) := by decide +kernel
theorem dX2_isSplit_34 : decode cX2_isSplit 34 = .ok (.iconst 0, 1) := by decide +kernel
theorem dX2_isSplit_35 : decode cX2_isSplit 35 = .ok (.ireturn, 1) := by decide +kernel
theorem dX2_addSplit_0 : decode cX2_addSplit 0 = .ok (.aload_n 0, 1) := by decide +kernel
theorem dX2_addSplit_1 : decode cX2_addSplit 1 = .ok (.getfield 15, 3) := by decide +kernel
theorem dX2_addSplit_4 : decode cX2_addSplit 4 = .ok (.iload_n 1, 1) := by decide +kernel
theorem dX2_addSplit_5 : decode cX2_addSplit 5 = .ok (.dup2, 1) := by decide +kernel
theorem dX2_addSplit_6 : decode cX2_addSplit 6 = .ok (.iaload, 1) := by decide +kernel
theorem dX2_addSplit_7 : decode cX2_addSplit 7 = .ok (.iconst 1, 1) := by decide +kernel
theorem dX2_addSplit_8 : decode cX2_addSplit 8 = .ok (.iadd, 1) := by decide +kernel
theorem dX2_addSplit_9 : decode cX2_addSplit 9 = .ok (.iastore, 1) := by decide +kernel
theorem dX2_addSplit_10 : decode cX2_addSplit 10 = .ok (.aload_n 0, 1) := by decide +kernel
theorem dX2_addSplit_11 : decode cX2_addSplit 11 = .ok (.getfield 19, 3) := by decide +kernel
theorem dX2_addSplit_14 : decode cX2_addSplit 14 = .ok (.iload_n 1, 1) := by decide +kernel
theorem dX2_addSplit_15 : decode cX2_addSplit 15 = .ok (.dup2, 1) := by decide +kernel
theorem dX2_addSplit_16 : decode cX2_addSplit 16 = .ok (.iaload, 1) := by decide +kernel
theorem dX2_addSplit_17 : decode cX2_addSplit 17 = .ok (.aload_n 0, 1) := by decide +kernel
theorem dX2_addSplit_18 : decode cX2_addSplit 18 = .ok (.getfield 19, 3) := by decide +kernel
theorem dX2_addSplit_21 : decode cX2_addSplit 21 = .ok (.iload_n 2, 1) := by decide +kernel
theorem dX2_addSplit_22 : decode cX2_addSplit 22 = .ok (.iaload, 1) := by decide +kernel
theorem dX2_addSplit_23 : decode cX2_addSplit 23 = .ok (.aload_n 0, 1) := by decide +kernel
theorem dX2_addSplit_24 : decode cX2_addSplit 24 = .ok (.getfield 19, 3) := by decide +kernel
theorem dX2_addSplit_27 : decode cX2_addSplit 27 = .ok (.iload_n 3, 1) := by decide +kernel
theorem dX2_addSplit_28 : decode cX2_addSplit 28 = .ok (.iaload, 1) := by decide +kernel
theorem dX2_addSplit_29 : decode cX2_addSplit 29 = .ok (.imul, 1) := by decide +kernel
theorem dX2_addSplit_30 : decode cX2_addSplit 30 = .ok (.iadd, 1) := by decide +kernel
theorem dX2_addSplit_31 : decode cX2_addSplit 31 = .ok (.iastore, 1) := by decide +kernel
theorem dX2_addSplit_32 : decode cX2_addSplit 32 = .ok (.aload_n 0, 1) := by decide +kernel
theorem dX2_addSplit_33 : decode cX2_addSplit 33 = .ok (.getfield 22, 3) := by decide +kernel
theorem dX2_addSplit_36 : decode cX2_addSplit 36 = .ok (.iload_n 2, 1) := by decide +kernel
theorem dX2_addSplit_37 : decode cX2_addSplit 37 = .ok (.iaload, 1) := by decide +kernel
theorem dX2_addSplit_38 : decode cX2_addSplit 38 = .ok (.iconst (-1), 1) := by decide +kernel
theorem dX2_addSplit_39 : decode cX2_addSplit 39 = .ok (.if_icmp .eq 64, 3) := by decide +kernel
theorem dX2_addSplit_42 : decode cX2_addSplit 42 = .ok (.aload_n 0, 1) := by decide +kernel
theorem dX2_addSplit_43 : decode cX2_addSplit 43 = .ok (.getfield 22, 3) := by decide +kernel
theorem dX2_addSplit_46 : decode cX2_addSplit 46 = .ok (.iload_n 3, 1) := by decide +kernel
theorem dX2_addSplit_47 : decode cX2_addSplit 47 = .ok (.iaload, 1) := by decide +kernel
theorem dX2_addSplit_48 : decode cX2_addSplit 48 = .ok (.iconst (-1), 1) := by decide +kernel
theorem dX2_addSplit_49 : decode cX2_addSplit 49 = .ok (.if_icmp .eq 54, 3) := by decide +kernel
theorem dX2_addSplit_52 : decode cX2_addSplit 52 = .ok (.iconst 1, 1) := by decide +kernel
theorem dX2_addSplit_53 : decode cX2_addSplit 53 = .ok (.aload_n 0, 1) := by decide +kernel
theorem dX2_addSplit_54 : decode cX2_addSplit 54 = .ok (.getfield 22, 3) := by decide +kernel
theorem dX2_addSplit_57 : decode cX2_addSplit 57 = .ok (.iload_n 2, 1) := by decide +kernel
theorem dX2_addSplit_58 : decode cX2_addSplit 58 = .ok (.iaload, 1) := by decide +kernel
theorem dX2_addSplit_59 : decode cX2_addSplit 59 = .ok (.aload_n 0, 1) := by decide +kernel
theorem dX2_addSplit_60 : decode cX2_addSplit 60 = .ok (.getfield 22, 3) := by decide +kernel
theorem dX2_addSplit_63 : decode cX2_addSplit 63 = .ok (.iload_n 3, 1) := by decide +kernel
theorem dX2_addSplit_64 : decode cX2_addSplit 64 = .ok (.iaload, 1) := by decide +kernel
theorem dX2_addSplit_65 : decode cX2_addSplit 65 = .ok (.invokestatic 60, 3) := by decide +kernel
theorem dX2_addSplit_68 : decode cX2_addSplit 68 = .ok (.iadd, 1) := by decide +kernel
theorem dX2_addSplit_69 : decode cX2_addSplit 69 = .ok (.istore 4, 2) := by decide +kernel
theorem dX2_addSplit_71 : decode cX2_addSplit 71 = .ok (.aload_n 0, 1) := by decide +kernel
theorem dX2_addSplit_72 : decode cX2_addSplit 72 = .ok (.getfield 22, 3) := by decide +kernel
theorem dX2_addSplit_75 : decode cX2_addSplit 75 = .ok (.iload_n 1, 1) := by decide +kernel
theorem dX2_addSplit_76 : decode cX2_addSplit 76 = .ok (.aload_n 0, 1) := by decide +kernel
theorem dX2_addSplit_77 : decode cX2_addSplit 77 = .ok (.getfield 22, 3) := by decide +kernel
theorem dX2_addSplit_80 : decode cX2_addSplit 80 = .ok (.iload_n 1, 1) := by decide +kernel
theorem dX2_addSplit_81 : decode cX2_addSplit 81 = .ok (.iaload, 1) := by decide +kernel
theorem dX2_addSplit_82 : decode cX2_addSplit 82 = .ok (.iconst (-1), 1) := by decide +kernel
theorem dX2_addSplit_83 : decode cX2_addSplit 83 = .ok (.if_icmp .ne 8, 3) := by decide +kernel
theorem dX2_addSplit_86 : decode cX2_addSplit 86 = .ok (.iload 4, 2) := by decide +kernel
theorem dX2_addSplit_88 : decode cX2_addSplit 88 = .ok (.goto 14, 3) := by decide +kernel
theorem dX2_addSplit_91 : decode cX2_addSplit 91 = .ok (.aload_n 0, 1) := by decide +kernel
theorem dX2_addSplit_92 : decode cX2_addSplit 92 = .ok (.getfield 22, 3) := by decide +kernel
theorem dX2_addSplit_95 : decode cX2_addSplit 95 = .ok (.iload_n 1, 1) := by decide +kernel
theorem dX2_addSplit_96 : decode cX2_addSplit 96 = .ok (.iaload, 1) := by decide +kernel
theorem dX2_addSplit_97 : decode cX2_addSplit 97 = .ok (.iload 4, 2) := by decide +kernel
theorem dX2_addSplit_99 : decode cX2_addSplit 99 = .ok (.invokestatic 66, 3) := by decide +kernel
theorem dX2_addSplit_102 : decode cX2_addSplit 102 = .ok (.iastore, 1) := by decide +kernel
theorem dX2_addSplit_103 : decode cX2_addSplit 103 = .ok (.return_, 1) := by decide +kernel
theorem dX3_init_0 : decode cX3_init 0 = .ok (.aload_n 0, 1) := by decide +kernel
theorem dX3_init_1 : decode cX3_init 1 = .ok (.invokespecial 3, 3) := by decide +kernel
theorem dX3_init_4 : decode cX3_init 4 = .ok (.aload_n 0, 1) := by decide +kernel
theorem dX3_init_5 : decode cX3_init 5 = .ok (.bipush 8, 2) := by decide +kernel
theorem dX3_init_7 : decode cX3_init 7 = .ok (.newarray .int, 2) := by decide +kernel
theorem dX3_init_9 : decode cX3_init 9 = .ok (.putfield 9, 3) := by decide +kernel
theorem dX3_init_12 : decode cX3_init 12 = .ok (.aload_n 0, 1) := by decide +kernel
theorem dX3_init_13 : decode cX3_init 13 = .ok (.bipush 8, 2) := by decide +kernel
theorem dX3_init_15 : decode cX3_init 15 = .ok (.newarray .int, 2) := by decide +kernel
theorem dX3_init_17 : decode cX3_init 17 = .ok (.putfield 15, 3) := by decide +kernel
theorem dX3_init_20 : decode cX3_init 20 = .ok (.aload_n 0, 1) := by decide +kernel
theorem dX3_init_21 : decode cX3_init 21 = .ok (.bipush 48, 2) := by decide +kernel
theorem dX3_init_23 : decode cX3_init 23 = .ok (.newarray .int, 2) := by decide +kernel
theorem dX3_init_25 : decode cX3_init 25 = .ok (.putfield 18, 3) := by decide +kernel
theorem dX3_init_28 : decode cX3_init 28 = .ok (.return_, 1) := by decide +kernel
theorem dX3_count_0 : decode cX3_count 0 = .ok (.aload_n 0, 1) := by decide +kernel
theorem dX3_count_1 : decode cX3_count 1 = .ok (.getfield 21, 3) := by decide +kernel
theorem dX3_count_4 : decode cX3_count 4 = .ok (.ireturn, 1) := by decide +kernel
theorem dX3_all_0 : decode cX3_all 0 = .ok (.iconst 1, 1) := by decide +kernel
theorem dX3_all_1 : decode cX3_all 1 = .ok (.aload_n 0, 1) := by decide +kernel
theorem dX3_all_2 : decode cX3_all 2 = .ok (.getfield 21, 3) := by decide +kernel
theorem dX3_all_5 : decode cX3_all 5 = .ok (.ishl, 1) := by decide +kernel
theorem dX3_all_6 : decode cX3_all 6 = .ok (.iconst 1, 1) := by decide +kernel
theorem dX3_all_7 : decode cX3_all 7 = .ok (.isub, 1) := by decide +kernel
theorem dX3_all_8 : decode cX3_all 8 = .ok (.ireturn, 1) := by decide +kernel
theorem dX3_tool_0 : decode cX3_tool 0 = .ok (.aload_n 0, 1) := by decide +kernel
theorem dX3_tool_1 : decode cX3_tool 1 = .ok (.getfield 9, 3) := by decide +kernel
theorem dX3_tool_4 : decode cX3_tool 4 = .ok (.iload_n 1, 1) := by decide +kernel
theorem dX3_tool_5 : decode cX3_tool 5 = .ok (.iaload, 1) := by decide +kernel
theorem dX3_tool_6 : decode cX3_tool 6 = .ok (.ireturn, 1) := by decide +kernel
theorem dX3_add_0 : decode cX3_add 0 = .ok (.aload_n 0, 1) := by decide +kernel
theorem dX3_add_1 : decode cX3_add 1 = .ok (.getfield 21, 3) := by decide +kernel
theorem dX3_add_4 : decode cX3_add 4 = .ok (.istore_n 2, 1) := by decide +kernel
theorem dX3_add_5 : decode cX3_add 5 = .ok (.aload_n 0, 1) := by decide +kernel
theorem dX3_add_6 : decode cX3_add 6 = .ok (.getfield 9, 3) := by decide +kernel
theorem dX3_add_9 : decode cX3_add 9 = .ok (.iload_n 2, 1) := by decide +kernel
theorem dX3_add_10 : decode cX3_add 10 = .ok (.iload_n 1, 1) := by decide +kernel
theorem dX3_add_11 : decode cX3_add 11 = .ok (.iastore, 1) := by decide +kernel
theorem dX3_add_12 : decode cX3_add 12 = .ok (.aload_n 0, 1) := by decide +kernel
theorem dX3_add_13 : decode cX3_add 13 = .ok (.dup, 1) := by decide +kernel
theorem dX3_add_14 : decode cX3_add 14 = .ok (.getfield 21, 3) := by decide +kernel
theorem dX3_add_17 : decode cX3_add 17 = .ok (.iconst 1, 1) := by decide +kernel
theorem dX3_add_18 : decode cX3_add 18 = .ok (.iadd, 1) := by decide +kernel
theorem dX3_add_19 : decode cX3_add 19 = .ok (.putfield 21, 3) := by decide +kernel
theorem dX3_add_22 : decode cX3_add 22 = .ok (.iload_n 2, 1) := by decide +kernel
theorem dX3_add_23 : decode cX3_add 23 = .ok (.ireturn, 1) := by decide +kernel
theorem dX3_changeTool_0 : decode cX3_changeTool 0 = .ok (.aload_n 0, 1) := by decide +kernel
theorem dX3_changeTool_1 : decode cX3_changeTool 1 = .ok (.getfield 9, 3) := by decide +kernel
theorem dX3_changeTool_4 : decode cX3_changeTool 4 = .ok (.iload_n 1, 1) := by decide +kernel
theorem dX3_changeTool_5 : decode cX3_changeTool 5 = .ok (.iaload, 1) := by decide +kernel
theorem dX3_changeTool_6 : decode cX3_changeTool 6 = .ok (.istore_n 3, 1) := by decide +kernel
theorem dX3_changeTool_7 : decode cX3_changeTool 7 = .ok (.aload_n 0, 1) := by decide +kernel
theorem dX3_changeTool_8 : decode cX3_changeTool 8 = .ok (.getfield 9, 3) := by decide +kernel
theorem dX3_changeTool_11 : decode cX3_changeTool 11 = .ok (.iload_n 1, 1) := by decide +kernel
theorem dX3_changeTool_12 : decode cX3_changeTool 12 = .ok (.iload_n 2, 1) := by decide +kernel
theorem dX3_changeTool_13 : decode cX3_changeTool 13 = .ok (.iastore, 1) := by decide +kernel
theorem dX3_changeTool_14 : decode cX3_changeTool 14 = .ok (.iload_n 3, 1) := by decide +kernel
theorem dX3_changeTool_15 : decode cX3_changeTool 15 = .ok (.ireturn, 1) := by decide +kernel
set_option maxRecDepth 20000 in
theorem ggX3_tellContact_X3_changed : GoodIn wsX3_tellContact wsX3_changed := goodIn_r _ [5] (by decide +kernel) (by decide +kernel)
set_option maxRecDepth 20000 in
theorem gX3_tellContact_X3_changed : GoodIn wsX3_tellContact (va_wsS RX3 25 yX3_changed wsX3_changed) := goodIn_app (goodIn_of _ (by decide +kernel)) ggX3_tellContact_X3_changed
set_option maxRecDepth 20000 in
theorem ggX3_tellContact_J6_bitCount_0f7a4 : GoodIn wsX3_tellContact wsJ6_bitCount_0f7a4 := goodIn_r _ [9, 10, 11, 12] (by decide +kernel) (by decide +kernel)
set_option maxRecDepth 20000 in
theorem gX3_tellContact_J6_bitCount_0f7a4 : GoodIn wsX3_tellContact (va_wsS RX3 29 yJ6_bitCount_0f7a4 wsJ6_bitCount_0f7a4) := goodIn_app (goodIn_of _ (by decide +kernel)) ggX3_tellContact_J6_bitCount_0f7a4
theorem dX3_tellContact_0 : decode cX3_tellContact 0 = .ok (.aload_n 0, 1) := by decide +kernel
theorem dX3_tellContact_1 : decode cX3_tellContact 1 = .ok (.getfield 15, 3) := by decide +kernel
theorem dX3_tellContact_4 : decode cX3_tellContact 4 = .ok (.iload_n 1, 1) := by decide +kernel
theorem dX3_tellContact_5 : decode cX3_tellContact 5 = .ok (.aload_n 0, 1) := by decide +kernel
theorem dX3_tellContact_6 : decode cX3_tellContact 6 = .ok (.getfield 15, 3) := by decide +kernel
theorem dX3_tellContact_9 : decode cX3_tellContact 9 = .ok (.iload_n 1, 1) := by decide +kernel
theorem dX3_tellContact_10 : decode cX3_tellContact 10 = .ok (.iaload, 1) := by decide +kernel
theorem dX3_tellContact_11 : decode cX3_tellContact 11 = .ok (.iload_n 2, 1) := by decide +kernel
theorem dX3_tellContact_12 : decode cX3_tellContact 12 = .ok (.iload_n 3, 1) := by decide +kernel
theorem dX3_tellContact_13 : decode cX3_tellContact 13 = .ok (.invokestatic 25, 3) := by decide +kernel
theorem dX3_tellContact_16 : decode cX3_tellContact 16 = .ok (.iastore, 1) := by decide +kernel
theorem dX3_tellContact_17 : decode cX3_tellContact 17 = .ok (.aload_n 0, 1) := by decide +kernel
theorem dX3_tellContact_18 : decode cX3_tellContact 18 = .ok (.getfield 15, 3) := by decide +kernel
theorem dX3_tellContact_21 : decode cX3_tellContact 21 = .ok (.iload_n 2, 1) := by decide +kernel
theorem dX3_tellContact_22 : decode cX3_tellContact 22 = .ok (.aload_n 0, 1) := by decide +kernel
theorem dX3_tellContact_23 : decode cX3_tellContact 23 = .ok (.getfield 15, 3) := by decide +kernel
theorem dX3_tellContact_26 : decode cX3_tellContact 26 = .ok (.iload_n 2, 1) := by decide +kernel
theorem dX3_tellContact_27 : decode cX3_tellContact 27 = .ok (.iaload, 1) := by decide +kernel
theorem dX3_tellContact_28 : decode cX3_tellContact 28 = .ok (.iload_n 1, 1) := by decide +kernel
theorem dX3_tellContact_29 : decode cX3_tellContact 29 = .ok (.iload_n 3, 1) := by decide +kernel
theorem dX3_tellContact_30 : decode cX3_tellContact 30 = .ok (.invokestatic 25, 3) := by decide +kernel
theorem dX3_tellContact_33 : decode cX3_tellContact 33 = .ok (.iastore, 1) := by decide +kernel
theorem dX3_tellContact_34 : decode cX3_tellContact 34 = .ok (.aload_n 0, 1) := by decide +kernel
theorem dX3_tellContact_35 : decode cX3_tellContact 35 = .ok (.getfield 15, 3) := by decide +kernel
theorem dX3_tellContact_38 : decode cX3_tellContact 38 = .ok (.iload_n 1, 1) := by decide +kernel
theorem dX3_tellContact_39 : decode cX3_tellContact 39 = .ok (.iaload, 1) := by decide +kernel
theorem dX3_tellContact_40 : decode cX3_tellContact 40 = .ok (.invokestatic 29, 3) := by decide +kernel
theorem dX3_tellContact_43 : decode cX3_tellContact 43 = .ok (.ireturn, 1) := by decide +kernel
set_option maxRecDepth 20000 in
theorem ggX3_tellHindered_X3_opposite : GoodIn wsX3_tellHindered wsX3_opposite := goodIn_r _ [5] (by decide +kernel) (by decide +kernel)
set_option maxRecDepth 20000 in
theorem gX3_tellHindered_X3_opposite : GoodIn wsX3_tellHindered (va_wsS RX3 35 yX3_opposite wsX3_opposite) := goodIn_app (goodIn_of _ (by decide +kernel)) ggX3_tellHindered_X3_opposite
set_option maxRecDepth 20000 in
theorem ggX3_tellHindered_X3_changed : GoodIn wsX3_tellHindered wsX3_changed := goodIn_r _ [8] (by decide +kernel) (by decide +kernel)
set_option maxRecDepth 20000 in
theorem gX3_tellHindered_X3_changed : GoodIn wsX3_tellHindered (va_wsS RX3 25 yX3_changed wsX3_changed) := goodIn_app (goodIn_of _ (by decide +kernel)) ggX3_tellHindered_X3_changed
set_option maxRecDepth 20000 in
theorem ggX3_tellHindered_J6_bitCount_0f7a4 : GoodIn wsX3_tellHindered wsJ6_bitCount_0f7a4 := goodIn_r _ [12, 13, 14, 15] (by decide +kernel) (by decide +kernel)
set_option maxRecDepth 20000 in
theorem gX3_tellHindered_J6_bitCount_0f7a4 : GoodIn wsX3_tellHindered (va_wsS RX3 29 yJ6_bitCount_0f7a4 wsJ6_bitCount_0f7a4) := goodIn_app (goodIn_of _ (by decide +kernel)) ggX3_tellHindered_J6_bitCount_0f7a4
theorem dX3_tellHindered_0 : decode cX3_tellHindered 0 = .ok (.iload_n 2, 1) := by decide +kernel
theorem dX3_tellHindered_1 : decode cX3_tellHindered 1 = .ok (.bipush 8, 2) := by decide +kernel
theorem dX3_tellHindered_3 : decode cX3_tellHindered 3 = .ok (.imul, 1) := by decide +kernel
theorem dX3_tellHindered_4 : decode cX3_tellHindered 4 = .ok (.iload_n 1, 1) := by decide +kernel
theorem dX3_tellHindered_5 : decode cX3_tellHindered 5 = .ok (.iadd, 1) := by decide +kernel
theorem dX3_tellHindered_6 : decode cX3_tellHindered 6 = .ok (.istore 5, 2) := by decide +kernel
theorem dX3_tellHindered_8 : decode cX3_tellHindered 8 = .ok (.iload_n 2, 1) := by decide +kernel
theorem dX3_tellHindered_9 : decode cX3_tellHindered 9 = .ok (.invokestatic 35, 3) := by decide +kernel
theorem dX3_tellHindered_12 : decode cX3_tellHindered 12 = .ok (.bipush 8, 2) := by decide +kernel
theorem dX3_tellHindered_14 : decode cX3_tellHindered 14 = .ok (.imul, 1) := by decide +kernel
theorem dX3_tellHindered_15 : decode cX3_tellHindered 15 = .ok (.iload_n 3, 1) := by decide +kernel
theorem dX3_tellHindered_16 : decode cX3_tellHindered 16 = .ok (.iadd, 1) := by decide +kernel
theorem dX3_tellHindered_17 : decode cX3_tellHindered 17 = .ok (.istore 6, 2) := by decide +kernel
theorem dX3_tellHindered_19 : decode cX3_tellHindered 19 = .ok (.aload_n 0, 1) := by decide +kernel
theorem dX3_tellHindered_20 : decode cX3_tellHindered 20 = .ok (.getfield 18, 3) := by decide +kernel
theorem dX3_tellHindered_23 : decode cX3_tellHindered 23 = .ok (.iload 5, 2) := by decide +kernel
theorem dX3_tellHindered_25 : decode cX3_tellHindered 25 = .ok (.aload_n 0, 1) := by decide +kernel
theorem dX3_tellHindered_26 : decode cX3_tellHindered 26 = .ok (.getfield 18, 3) := by decide +kernel
theorem dX3_tellHindered_29 : decode cX3_tellHindered 29 = .ok (.iload 5, 2) := by decide +kernel
theorem dX3_tellHindered_31 : decode cX3_tellHindered 31 = .ok (.iaload, 1) := by decide +kernel
theorem dX3_tellHindered_32 : decode cX3_tellHindered 32 = .ok (.iload_n 3, 1) := by decide +kernel
theorem dX3_tellHindered_33 : decode cX3_tellHindered 33 = .ok (.iload 4, 2) := by decide +kernel
theorem dX3_tellHindered_35 : decode cX3_tellHindered 35 = .ok (.invokestatic 25, 3) := by decide +kernel
theorem dX3_tellHindered_38 : decode cX3_tellHindered 38 = .ok (.iastore, 1) := by decide +kernel
theorem dX3_tellHindered_39 : decode cX3_tellHindered 39 = .ok (.aload_n 0, 1) := by decide +kernel
theorem dX3_tellHindered_40 : decode cX3_tellHindered 40 = .ok (.getfield 18, 3) := by decide +kernel
theorem dX3_tellHindered_43 : decode cX3_tellHindered 43 = .ok (.iload 6, 2) := by decide +kernel
theorem dX3_tellHindered_45 : decode cX3_tellHindered 45 = .ok (.aload_n 0, 1) := by decide +kernel
theorem dX3_tellHindered_46 : decode cX3_tellHindered 46 = .ok (.getfield 18, 3) := by decide +kernel
theorem dX3_tellHindered_49 : decode cX3_tellHindered 49 = .ok (.iload 6, 2) := by decide +kernel
theorem dX3_tellHindered_51 : decode cX3_tellHindered 51 = .ok (.iaload, 1) := by decide +kernel
theorem dX3_tellHindered_52 : decode cX3_tellHindered 52 = .ok (.iload_n 1, 1) := by decide +kernel
theorem dX3_tellHindered_53 : decode cX3_tellHindered 53 = .ok (.iload 4, 2) := by decide +kernel
theorem dX3_tellHindered_55 : decode cX3_tellHindered 55 = .ok (.invokestatic 25, 3) := by decide +kernel
theorem dX3_tellHindered_58 : decode cX3_tellHindered 58 = .ok (.iastore, 1) := by decide +kernel
theorem dX3_tellHindered_59 : decode cX3_tellHindered 59 = .ok (.aload_n 0, 1) := by decide +kernel
theorem dX3_tellHindered_60 : decode cX3_tellHindered 60 = .ok (.getfield 18, 3) := by decide +kernel
theorem dX3_tellHindered_63 : decode cX3_tellHindered 63 = .ok (.iload 5, 2) := by decide +kernel
theorem dX3_tellHindered_65 : decode cX3_tellHindered 65 = .ok (.iaload, 1) := by decide +kernel
theorem dX3_tellHindered_66 : decode cX3_tellHindered 66 = .ok (.invokestatic 29, 3) := by decide +kernel
theorem dX3_tellHindered_69 : decode cX3_tellHindered 69 = .ok (.ireturn, 1) := by decide +kernel
theorem dX3_changeBase_0 : decode cX3_changeBase 0 = .ok (.aload_n 0, 1) := by decide +kernel
theorem dX3_changeBase_1 : decode cX3_changeBase 1 = .ok (.getfield 38, 3) := by decide +kernel
theorem dX3_changeBase_4 : decode cX3_changeBase 4 = .ok (.istore_n 2, 1) := by decide +kernel
theorem dX3_changeBase_5 : decode cX3_changeBase 5 = .ok (.aload_n 0, 1) := by decide +kernel
theorem dX3_changeBase_6 : decode cX3_changeBase 6 = .ok (.iload_n 1, 1) := by decide +kernel
theorem dX3_changeBase_7 : decode cX3_changeBase 7 = .ok (.putfield 38, 3) := by decide +kernel
theorem dX3_changeBase_10 : decode cX3_changeBase 10 = .ok (.iload_n 2, 1) := by decide +kernel
theorem dX3_changeBase_11 : decode cX3_changeBase 11 = .ok (.ireturn, 1) := by decide +kernel
theorem dX3_changeSteadyAsked_0 : decode cX3_changeSteadyAsked 0 = .ok (.aload_n 0, 1) := by decide +kernel
theorem dX3_changeSteadyAsked_1 : decode cX3_changeSteadyAsked 1 = .ok (.getfield 41, 3) := by decide +kernel
theorem dX3_changeSteadyAsked_4 : decode cX3_changeSteadyAsked 4 = .ok (.istore_n 2, 1) := by decide +kernel
theorem dX3_changeSteadyAsked_5 : decode cX3_changeSteadyAsked 5 = .ok (.aload_n 0, 1) := by decide +kernel
theorem dX3_changeSteadyAsked_6 : decode cX3_changeSteadyAsked 6 = .ok (.iload_n 1, 1) := by decide +kernel
theorem dX3_changeSteadyAsked_7 : decode cX3_changeSteadyAsked 7 = .ok (.putfield 41, 3) := by decide +kernel
theorem dX3_changeSteadyAsked_10 : decode cX3_changeSteadyAsked 10 = .ok (.iload_n 2, 1) := by decide +kernel
theorem dX3_changeSteadyAsked_11 : decode cX3_changeSteadyAsked 11 = .ok (.ireturn, 1) := by decide +kernel
set_option maxRecDepth 20000 in
theorem ggX3_connected_X3_reached : GoodIn wsX3_connected wsX3_reached := goodIn_r _ [5] (by decide +kernel) (by decide +kernel)
set_option maxRecDepth 20000 in
theorem gX3_connected_X3_reached : GoodIn wsX3_connected (va_wsS RX3 45 yX3_reached wsX3_reached) := goodIn_app (goodIn_of _ (by decide +kernel)) ggX3_connected_X3_reached
theorem dX3_connected_0 : decode cX3_connected 0 = .ok (.iload_n 1, 1) := by decide +kernel
theorem dX3_connected_1 : decode cX3_connected 1 = .ok (.iload_n 1, 1) := by decide +kernel
theorem dX3_connected_2 : decode cX3_connected 2 = .ok (.ineg, 1) := by decide +kernel
theorem dX3_connected_3 : decode cX3_connected 3 = .ok (.iand, 1) := by decide +kernel
theorem dX3_connected_4 : decode cX3_connected 4 = .ok (.istore_n 2, 1) := by decide +kernel
theorem dX3_connected_5 : decode cX3_connected 5 = .ok (.iload_n 1, 1) := by decide +kernel
theorem dX3_connected_6 : decode cX3_connected 6 = .ok (.ifCond .eq 21, 3) := by decide +kernel
theorem dX3_connected_9 : decode cX3_connected 9 = .ok (.aload_n 0, 1) := by decide +kernel
theorem dX3_connected_10 : decode cX3_connected 10 = .ok (.getfield 15, 3) := by decide +kernel
theorem dX3_connected_13 : decode cX3_connected 13 = .ok (.iconst 0, 1) := by decide +kernel
theorem dX3_connected_14 : decode cX3_connected 14 = .ok (.iload_n 2, 1) := by decide +kernel
theorem dX3_connected_15 : decode cX3_connected 15 = .ok (.iload_n 1, 1) := by decide +kernel
theorem dX3_connected_16 : decode cX3_connected 16 = .ok (.invokestatic 45, 3) := by decide +kernel
theorem dX3_connected_19 : decode cX3_connected 19 = .ok (.iload_n 1, 1) := by decide +kernel
theorem dX3_connected_20 : decode cX3_connected 20 = .ok (.if_icmp .ne 7, 3) := by decide +kernel
theorem dX3_connected_23 : decode cX3_connected 23 = .ok (.iconst 1, 1) := by decide +kernel
theorem dX3_connected_24 : decode cX3_connected 24 = .ok (.goto 4, 3) := by decide +kernel
theorem dX3_connected_27 : decode cX3_connected 27 = .ok (.iconst 0, 1) := by decide +kernel
theorem dX3_connected_28 : decode cX3_connected 28 = .ok (.ireturn, 1) := by decide +kernel
set_option maxRecDepth 20000 in
theorem ggX3_steady_X3_reached : GoodIn wsX3_steady wsX3_reached := goodIn_r _ [6] (by decide +kernel) (by decide +kernel)
set_option maxRecDepth 20000 in
theorem gX3_steady_X3_reached : GoodIn wsX3_steady (va_wsS RX3 45 yX3_reached wsX3_reached) := goodIn_app (goodIn_of _ (by decide +kernel)) ggX3_steady_X3_reached
theorem dX3_steady_0 : decode cX3_steady 0 = .ok (.aload_n 0, 1) := by decide +kernel
theorem dX3_steady_1 : decode cX3_steady 1 = .ok (.getfield 18, 3) := by decide +kernel
theorem dX3_steady_4 : decode cX3_steady 4 = .ok (.bipush 32, 2) := by decide +kernel
theorem dX3_steady_6 : decode cX3_steady 6 = .ok (.iload_n 1, 1) := by decide +kernel
theorem dX3_steady_7 : decode cX3_steady 7 = .ok (.iconst 1, 1) := by decide +kernel
theorem dX3_steady_8 : decode cX3_steady 8 = .ok (.aload_n 0, 1) := by decide +kernel
theorem dX3_steady_9 : decode cX3_steady 9 = .ok (.getfield 38, 3) := by decide +kernel
theorem dX3_steady_12 : decode cX3_steady 12 = .ok (.ishl, 1) := by decide +kernel
theorem dX3_steady_13 : decode cX3_steady 13 = .ok (.iand, 1) := by decide +kernel
theorem dX3_steady_14 : decode cX3_steady 14 = .ok (.iload_n 1, 1) := by decide +kernel
theorem dX3_steady_15 : decode cX3_steady 15 = .ok (.invokestatic 45, 3) := by decide +kernel
theorem dX3_steady_18 : decode cX3_steady 18 = .ok (.iload_n 1, 1) := by decide +kernel
theorem dX3_steady_19 : decode cX3_steady 19 = .ok (.if_icmp .ne 7, 3) := by decide +kernel
theorem dX3_steady_22 : decode cX3_steady 22 = .ok (.iconst 1, 1) := by decide +kernel
theorem dX3_steady_23 : decode cX3_steady 23 = .ok (.goto 4, 3) := by decide +kernel
theorem dX3_steady_26 : decode cX3_steady 26 = .ok (.iconst 0, 1) := by decide +kernel
theorem dX3_steady_27 : decode cX3_steady 27 = .ok (.ireturn, 1) := by decide +kernel
set_option maxRecDepth 20000 in
theorem ggX3_sound_X3_connected : GoodIn wsX3_sound wsX3_connected := goodIn_r _ [6, 7, 8, 9, 5, 10, 17, 18, 19, 20, 21, 22] (by decide +kernel) (by decide +kernel)
set_option maxRecDepth 20000 in
theorem gX3_sound_X3_connected : GoodIn wsX3_sound (wsV RX3 49 RX3 yX3_connected wsX3_connected) := goodIn_app (goodIn_of _ (by decide +kernel)) ggX3_sound_X3_connected
set_option maxRecDepth 20000 in
theorem ggX3_sound_X3_steady : GoodIn wsX3_sound wsX3_steady := goodIn_r _ [14, 15, 16, 8, 9, 5, 10, 17, 18, 19, 20, 21, 22] (by decide +kernel) (by decide +kernel)
set_option maxRecDepth 20000 in
theorem gX3_sound_X3_steady : GoodIn wsX3_sound (wsV RX3 53 RX3 yX3_steady wsX3_steady) := goodIn_app (goodIn_of _ (by decide +kernel)) ggX3_sound_X3_steady
theorem dX3_sound_0 : decode cX3_sound 0 = .ok (.iload_n 1, 1) := by decide +kernel
theorem dX3_sound_1 : decode cX3_sound 1 = .ok (.ifCond .eq 26, 3) := by decide +kernel
theorem dX3_sound_4 : decode cX3_sound 4 = .ok (.aload_n 0, 1) := by decide +kernel
theorem dX3_sound_5 : decode cX3_sound 5 = .ok (.iload_n 1, 1) := by decide +kernel
theorem dX3_sound_6 : decode cX3_sound 6 = .ok (.invokevirtual 49, 3) := by decide +kernel
theorem dX3_sound_9 : decode cX3_sound 9 = .ok (.ifCond .eq 22, 3) := by decide +kernel
theorem dX3_sound_12 : decode cX3_sound 12 = .ok (.aload_n 0, 1) := by decide +kernel
theorem dX3_sound_13 : decode cX3_sound 13 = .ok (.getfield 41, 3) := by decide +kernel
theorem dX3_sound_16 : decode cX3_sound 16 = .ok (.ifCond .eq 11, 3) := by decide +kernel
theorem dX3_sound_19 : decode cX3_sound 19 = .ok (.aload_n 0, 1) := by decide +kernel
theorem dX3_sound_20 : decode cX3_sound 20 = .ok (.iload_n 1, 1) := by decide +kernel
theorem dX3_sound_21 : decode cX3_sound 21 = .ok (.invokevirtual 53, 3) := by decide +kernel
theorem dX3_sound_24 : decode cX3_sound 24 = .ok (.ifCond .eq 7, 3) := by decide +kernel
theorem dX3_sound_27 : decode cX3_sound 27 = .ok (.iconst 1, 1) := by decide +kernel
theorem dX3_sound_28 : decode cX3_sound 28 = .ok (.goto 4, 3) := by decide +kernel
theorem dX3_sound_31 : decode cX3_sound 31 = .ok (.iconst 0, 1) := by decide +kernel
theorem dX3_sound_32 : decode cX3_sound 32 = .ok (.ireturn, 1) := by decide +kernel
theorem dX3_freeDirections_0 : decode cX3_freeDirections 0 = .ok (.iconst 0, 1) := by decide +kernel
theorem dX3_freeDirections_1 : decode cX3_freeDirections 1 = .ok (.istore_n 3, 1) := by decide +kernel
theorem dX3_freeDirections_2 : decode cX3_freeDirections 2 = .ok (.iconst 0, 1) := by decide +kernel
theorem dX3_freeDirections_3 : decode cX3_freeDirections 3 = .ok (.istore 4, 2) := by decide +kernel
theorem dX3_freeDirections_5 : decode cX3_freeDirections 5 = .ok (.iload 4, 2) := by decide +kernel
theorem dX3_freeDirections_7 : decode cX3_freeDirections 7 = .ok (.bipush 6, 2) := by decide +kernel
theorem dX3_freeDirections_9 : decode cX3_freeDirections 9 = .ok (.if_icmp .ge 33, 3) := by decide +kernel
theorem dX3_freeDirections_12 : decode cX3_freeDirections 12 = .ok (.aload_n 0, 1) := by decide +kernel
theorem dX3_freeDirections_13 : decode cX3_freeDirections 13 = .ok (.getfield 18, 3) := by decide +kernel
theorem dX3_freeDirections_16 : decode cX3_freeDirections 16 = .ok (.iload 4, 2) := by decide +kernel
theorem dX3_freeDirections_18 : decode cX3_freeDirections 18 = .ok (.bipush 8, 2) := by decide +kernel
theorem dX3_freeDirections_20 : decode cX3_freeDirections 20 = .ok (.imul, 1) := by decide +kernel
theorem dX3_freeDirections_21 : decode cX3_freeDirections 21 = .ok (.iload_n 2, 1) := by decide +kernel
theorem dX3_freeDirections_22 : decode cX3_freeDirections 22 = .ok (.iadd, 1) := by decide +kernel
theorem dX3_freeDirections_23 : decode cX3_freeDirections 23 = .ok (.iaload, 1) := by decide +kernel
theorem dX3_freeDirections_24 : decode cX3_freeDirections 24 = .ok (.iload_n 1, 1) := by decide +kernel
theorem dX3_freeDirections_25 : decode cX3_freeDirections 25 = .ok (.iand, 1) := by decide +kernel
theorem dX3_freeDirections_26 : decode cX3_freeDirections 26 = .ok (.ifCond .ne 10, 3) := by decide +kernel
theorem dX3_freeDirections_29 : decode cX3_freeDirections 29 = .ok (.iload_n 3, 1) := by decide +kernel
theorem dX3_freeDirections_30 : decode cX3_freeDirections 30 = .ok (.iconst 1, 1) := by decide +kernel
theorem dX3_freeDirections_31 : decode cX3_freeDirections 31 = .ok (.iload 4, 2) := by decide +kernel
theorem dX3_freeDirections_33 : decode cX3_freeDirections 33 = .ok (.ishl, 1) := by decide +kernel
theorem dX3_freeDirections_34 : decode cX3_freeDirections 34 = .ok (.ior, 1) := by decide +kernel
theorem dX3_freeDirections_35 : decode cX3_freeDirections 35 = .ok (.istore_n 3, 1) := by decide +kernel
theorem dX3_freeDirections_36 : decode cX3_freeDirections 36 = .ok (.iinc 4 1, 3) := by decide +kernel
theorem dX3_freeDirections_39 : decode cX3_freeDirections 39 = .ok (.goto (-34), 3) := by decide +kernel
theorem dX3_freeDirections_42 : decode cX3_freeDirections 42 = .ok (.iload_n 3, 1) := by decide +kernel
theorem dX3_freeDirections_43 : decode cX3_freeDirections 43 = .ok (.ireturn, 1) := by decide +kernel
set_option maxRecDepth 20000 in
theorem ggX3_takeable_X3_sound : GoodIn wsX3_takeable wsX3_sound := goodIn_r _ [5, 6, 7, 8, 9, 4, 10, 11, 12, 13, 14, 15, 16, 17, 18, 19, 20, 25, 26, 27, 28, 29, 30] (by decide +kernel) (by decide +kernel)
set_option maxRecDepth 20000 in
theorem gX3_takeable_X3_sound : GoodIn wsX3_takeable (wsV RX3 56 RX3 yX3_sound wsX3_sound) := goodIn_app (goodIn_of _ (by decide +kernel)) ggX3_takeable_X3_sound
set_option maxRecDepth 20000 in
theorem ggX3_takeable_X3_freeDirections : GoodIn wsX3_takeable wsX3_freeDirections := goodIn_r _ [24, 19, 25, 26, 27, 28, 29, 30] (by decide +kernel) (by decide +kernel)
set_option maxRecDepth 20000 in
theorem gX3_takeable_X3_freeDirections : GoodIn wsX3_takeable (wsV RX3 59 RX3 yX3_freeDirections wsX3_freeDirections) := goodIn_app (goodIn_of _ (by decide +kernel)) ggX3_takeable_X3_freeDirections
theorem dX3_takeable_0 : decode cX3_takeable 0 = .ok (.aload_n 0, 1) := by decide +kernel
theorem dX3_takeable_1 : decode cX3_takeable 1 = .ok (.iload_n 1, 1) := by decide +kernel
theorem dX3_takeable_2 : decode cX3_takeable 2 = .ok (.invokevirtual 56, 3) := by decide +kernel
theorem dX3_takeable_5 : decode cX3_takeable 5 = .ok (.ifCond .eq 30, 3) := by decide +kernel
theorem dX3_takeable_8 : decode cX3_takeable 8 = .ok (.aload_n 0, 1) := by decide +kernel
theorem dX3_takeable_9 : decode cX3_takeable 9 = .ok (.iload_n 1, 1) := by decide +kernel
theorem dX3_takeable_10 : decode cX3_takeable 10 = .ok (.iload_n 2, 1) := by decide +kernel
theorem dX3_takeable_11 : decode cX3_takeable 11 = .ok (.invokevirtual 59, 3) := by decide +kernel
theorem dX3_takeable_14 : decode cX3_takeable 14 = .ok (.ifCond .eq 21, 3) := by decide +kernel
theorem dX3_takeable_17 : decode cX3_takeable 17 = .ok (.aload_n 0, 1) := by decide +kernel
theorem dX3_takeable_18 : decode cX3_takeable 18 = .ok (.iload_n 1, 1) := by decide +kernel
theorem dX3_takeable_19 : decode cX3_takeable 19 = .ok (.iconst 1, 1) := by decide +kernel
theorem dX3_takeable_20 : decode cX3_takeable 20 = .ok (.iload_n 2, 1) := by decide +kernel
theorem dX3_takeable_21 : decode cX3_takeable 21 = .ok (.ishl, 1) := by decide +kernel
theorem dX3_takeable_22 : decode cX3_takeable 22 = .ok (.iconst (-1), 1) := by decide +kernel
theorem dX3_takeable_23 : decode cX3_takeable 23 = .ok (.ixor, 1) := by decide +kernel
theorem dX3_takeable_24 : decode cX3_takeable 24 = .ok (.iand, 1) := by decide +kernel
theorem dX3_takeable_25 : decode cX3_takeable 25 = .ok (.invokevirtual 56, 3) := by decide +kernel
theorem dX3_takeable_28 : decode cX3_takeable 28 = .ok (.ifCond .eq 7, 3) := by decide +kernel
theorem dX3_takeable_31 : decode cX3_takeable 31 = .ok (.iconst 1, 1) := by decide +kernel
theorem dX3_takeable_32 : decode cX3_takeable 32 = .ok (.goto 4, 3) := by decide +kernel
theorem dX3_takeable_35 : decode cX3_takeable 35 = .ok (.iconst 0, 1) := by decide +kernel
theorem dX3_takeable_36 : decode cX3_takeable 36 = .ok (.ireturn, 1) := by decide +kernel
set_option maxRecDepth 20000 in
theorem ggX3_movingWith_X3_all : GoodIn wsX3_movingWith wsX3_all := goodIn_r _ [6, 7, 11, 12, 13, 14, 15, 16] (by decide +kernel) (by decide +kernel)
set_option maxRecDepth 20000 in
theorem gX3_movingWith_X3_all : GoodIn wsX3_movingWith (wsV RX3 63 RX3 yX3_all wsX3_all) := goodIn_app (goodIn_of _ (by decide +kernel)) ggX3_movingWith_X3_all
set_option maxRecDepth 20000 in
theorem ggX3_movingWith_X3_reached : GoodIn wsX3_movingWith wsX3_reached := goodIn_r _ [10] (by decide +kernel) (by decide +kernel)
set_option maxRecDepth 20000 in
theorem gX3_movingWith_X3_reached : GoodIn wsX3_movingWith (va_wsS RX3 45 yX3_reached wsX3_reached) := goodIn_app (goodIn_of _ (by decide +kernel)) ggX3_movingWith_X3_reached
theorem dX3_movingWith_0 : decode cX3_movingWith 0 = .ok (.aload_n 0, 1) := by decide +kernel
theorem dX3_movingWith_1 : decode cX3_movingWith 1 = .ok (.getfield 18, 3) := by decide +kernel
theorem dX3_movingWith_4 : decode cX3_movingWith 4 = .ok (.iload_n 2, 1) := by decide +kernel
theorem dX3_movingWith_5 : decode cX3_movingWith 5 = .ok (.bipush 8, 2) := by decide +kernel
theorem dX3_movingWith_7 : decode cX3_movingWith 7 = .ok (.imul, 1) := by decide +kernel
theorem dX3_movingWith_8 : decode cX3_movingWith 8 = .ok (.iconst 1, 1) := by decide +kernel
theorem dX3_movingWith_9 : decode cX3_movingWith 9 = .ok (.iload_n 1, 1) := by decide +kernel
theorem dX3_movingWith_10 : decode cX3_movingWith 10 = .ok (.ishl, 1) := by decide +kernel
theorem dX3_movingWith_11 : decode cX3_movingWith 11 = .ok (.aload_n 0, 1) := by decide +kernel
theorem dX3_movingWith_12 : decode cX3_movingWith 12 = .ok (.invokevirtual 63, 3) := by decide +kernel
theorem dX3_movingWith_15 : decode cX3_movingWith 15 = .ok (.invokestatic 45, 3) := by decide +kernel
theorem dX3_movingWith_18 : decode cX3_movingWith 18 = .ok (.ireturn, 1) := by decide +kernel
set_option maxRecDepth 20000 in
theorem ggX3_boundWith_X3_movingWith : GoodIn wsX3_boundWith wsX3_movingWith := goodIn_r _ [5, 6, 7, 8, 9, 4, 10, 11, 12, 13, 14, 18, 19, 20, 21, 22, 23] (by decide +kernel) (by decide +kernel)
set_option maxRecDepth 20000 in
theorem gX3_boundWith_X3_movingWith : GoodIn wsX3_boundWith (wsV RX3 67 RX3 yX3_movingWith wsX3_movingWith) := goodIn_app (goodIn_of _ (by decide +kernel)) ggX3_boundWith_X3_movingWith
set_option maxRecDepth 20000 in
theorem ggX3_boundWith_X3_opposite : GoodIn wsX3_boundWith wsX3_opposite := goodIn_r _ [17] (by decide +kernel) (by decide +kernel)
set_option maxRecDepth 20000 in
theorem gX3_boundWith_X3_opposite : GoodIn wsX3_boundWith (va_wsS RX3 35 yX3_opposite wsX3_opposite) := goodIn_app (goodIn_of _ (by decide +kernel)) ggX3_boundWith_X3_opposite
theorem dX3_boundWith_0 : decode cX3_boundWith 0 = .ok (.aload_n 0, 1) := by decide +kernel
theorem dX3_boundWith_1 : decode cX3_boundWith 1 = .ok (.iload_n 1, 1) := by decide +kernel
theorem dX3_boundWith_2 : decode cX3_boundWith 2 = .ok (.iload_n 2, 1) := by decide +kernel
theorem dX3_boundWith_3 : decode cX3_boundWith 3 = .ok (.invokevirtual 67, 3) := by decide +kernel
theorem dX3_boundWith_6 : decode cX3_boundWith 6 = .ok (.aload_n 0, 1) := by decide +kernel
theorem dX3_boundWith_7 : decode cX3_boundWith 7 = .ok (.iload_n 1, 1) := by decide +kernel
theorem dX3_boundWith_8 : decode cX3_boundWith 8 = .ok (.iload_n 2, 1) := by decide +kernel
theorem dX3_boundWith_9 : decode cX3_boundWith 9 = .ok (.invokestatic 35, 3) := by decide +kernel
theorem dX3_boundWith_12 : decode cX3_boundWith 12 = .ok (.invokevirtual 67, 3) := by decide +kernel
theorem dX3_boundWith_15 : decode cX3_boundWith 15 = .ok (.iand, 1) := by decide +kernel
theorem dX3_boundWith_16 : decode cX3_boundWith 16 = .ok (.ireturn, 1) := by decide +kernel
set_option maxRecDepth 20000 in
theorem ggX3_boundGroups_X3_boundWith : GoodIn wsX3_boundGroups wsX3_boundWith := goodIn_r _ [6, 7, 8, 9, 5, 10, 11, 12, 13, 14, 15, 1, 16, 17, 18, 19, 20, 21, 22, 23, 24, 25, 26, 27] (by decide +kernel) (by decide +kernel)
set_option maxRecDepth 20000 in
theorem gX3_boundGroups_X3_boundWith : GoodIn wsX3_boundGroups (wsV RX3 70 RX3 yX3_boundWith wsX3_boundWith) := goodIn_app (goodIn_of _ (by decide +kernel)) ggX3_boundGroups_X3_boundWith
theorem dX3_boundGroups_0 : decode cX3_boundGroups 0 = .ok (.iconst 0, 1) := by decide +kernel
theorem dX3_boundGroups_1 : decode cX3_boundGroups 1 = .ok (.istore_n 2, 1) := by decide +kernel
theorem dX3_boundGroups_2 : decode cX3_boundGroups 2 = .ok (.iconst 0, 1) := by decide +kernel
theorem dX3_boundGroups_3 : decode cX3_boundGroups 3 = .ok (.istore_n 3, 1) := by decide +kernel
theorem dX3_boundGroups_4 : decode cX3_boundGroups 4 = .ok (.iload_n 3, 1) := by decide +kernel
theorem dX3_boundGroups_5 : decode cX3_boundGroups 5 = .ok (.aload_n 0, 1) := by decide +kernel
theorem dX3_boundGroups_6 : decode cX3_boundGroups 6 = .ok (.getfield 21, 3) := by decide +kernel
theorem dX3_boundGroups_9 : decode cX3_boundGroups 9 = .ok (.if_icmp .ge 31, 3) := by decide +kernel
theorem dX3_boundGroups_12 : decode cX3_boundGroups 12 = .ok (.iconst 1, 1) := by decide +kernel
theorem dX3_boundGroups_13 : decode cX3_boundGroups 13 = .ok (.iload_n 3, 1) := by decide +kernel
theorem dX3_boundGroups_14 : decode cX3_boundGroups 14 = .ok (.ishl, 1) := by decide +kernel
theorem dX3_boundGroups_15 : decode cX3_boundGroups 15 = .ok (.iconst 1, 1) := by decide +kernel
theorem dX3_boundGroups_16 : decode cX3_boundGroups 16 = .ok (.isub, 1) := by decide +kernel
theorem dX3_boundGroups_17 : decode cX3_boundGroups 17 = .ok (.istore 4, 2) := by decide +kernel
theorem dX3_boundGroups_19 : decode cX3_boundGroups 19 = .ok (.aload_n 0, 1) := by decide +kernel
theorem dX3_boundGroups_20 : decode cX3_boundGroups 20 = .ok (.iload_n 3, 1) := by decide +kernel
theorem dX3_boundGroups_21 : decode cX3_boundGroups 21 = .ok (.iload_n 1, 1) := by decide +kernel
theorem dX3_boundGroups_22 : decode cX3_boundGroups 22 = .ok (.invokevirtual 70, 3) := by decide +kernel
theorem dX3_boundGroups_25 : decode cX3_boundGroups 25 = .ok (.iload 4, 2) := by decide +kernel
theorem dX3_boundGroups_27 : decode cX3_boundGroups 27 = .ok (.iand, 1) := by decide +kernel
theorem dX3_boundGroups_28 : decode cX3_boundGroups 28 = .ok (.ifCond .ne 6, 3) := by decide +kernel
theorem dX3_boundGroups_31 : decode cX3_boundGroups 31 = .ok (.iinc 2 1, 3) := by decide +kernel
theorem dX3_boundGroups_34 : decode cX3_boundGroups 34 = .ok (.iinc 3 1, 3) := by decide +kernel
theorem dX3_boundGroups_37 : decode cX3_boundGroups 37 = .ok (.goto (-33), 3) := by decide +kernel
theorem dX3_boundGroups_40 : decode cX3_boundGroups 40 = .ok (.iload_n 2, 1) := by decide +kernel
theorem dX3_boundGroups_41 : decode cX3_boundGroups 41 = .ok (.ireturn, 1) := by decide +kernel
set_option maxRecDepth 20000 in
theorem ggX3_separable_X3_hindered : GoodIn wsX3_separable wsX3_hindered := goodIn_r _ [5, 6, 7, 8, 9, 10, 11, 12, 13] (by decide +kernel) (by decide +kernel)
set_option maxRecDepth 20000 in
theorem gX3_separable_X3_hindered : GoodIn wsX3_separable (wsV RX3 73 RX3 yX3_hindered wsX3_hindered) := goodIn_app (goodIn_of _ (by decide +kernel)) ggX3_separable_X3_hindered
theorem dX3_separable_0 : decode cX3_separable 0 = .ok (.iconst 0, 1) := by decide +kernel
theorem dX3_separable_1 : decode cX3_separable 1 = .ok (.istore_n 3, 1) := by decide +kernel
theorem dX3_separable_2 : decode cX3_separable 2 = .ok (.iload_n 3, 1) := by decide +kernel
theorem dX3_separable_3 : decode cX3_separable 3 = .ok (.bipush 6, 2) := by decide +kernel
theorem dX3_separable_5 : decode cX3_separable 5 = .ok (.if_icmp .ge 21, 3) := by decide +kernel
theorem dX3_separable_8 : decode cX3_separable 8 = .ok (.aload_n 0, 1) := by decide +kernel
theorem dX3_separable_9 : decode cX3_separable 9 = .ok (.iload_n 1, 1) := by decide +kernel
theorem dX3_separable_10 : decode cX3_separable 10 = .ok (.iload_n 3, 1) := by decide +kernel
theorem dX3_separable_11 : decode cX3_separable 11 = .ok (.iload_n 2, 1) := by decide +kernel
theorem dX3_separable_12 : decode cX3_separable 12 = .ok (.invokevirtual 73, 3) := by decide +kernel
theorem dX3_separable_15 : decode cX3_separable 15 = .ok (.ifCond .ne 5, 3) := by decide +kernel
theorem dX3_separable_18 : decode cX3_separable 18 = .ok (.iconst 1, 1) := by decide +kernel
theorem dX3_separable_19 : decode cX3_separable 19 = .ok (.ireturn, 1) := by decide +kernel
theorem dX3_separable_20 : decode cX3_separable 20 = .ok (.iinc 3 1, 3) := by decide +kernel
theorem dX3_separable_23 : decode cX3_separable 23 = .ok (.goto (-21), 3) := by decide +kernel
theorem dX3_separable_26 : decode cX3_separable 26 = .ok (.iconst 0, 1) := by decide +kernel
theorem dX3_separable_27 : decode cX3_separable 27 = .ok (.ireturn, 1) := by decide +kernel
theorem dX3_hindered_0 : decode cX3_hindered 0 = .ok (.iconst 0, 1) := by decide +kernel
theorem dX3_hindered_1 : decode cX3_hindered 1 = .ok (.istore 4, 2) := by decide +kernel
theorem dX3_hindered_3 : decode cX3_hindered 3 = .ok (.iload 4, 2) := by decide +kernel
theorem dX3_hindered_5 : decode cX3_hindered 5 = .ok (.aload_n 0, 1) := by decide +kernel
theorem dX3_hindered_6 : decode cX3_hindered 6 = .ok (.getfield 21, 3) := by decide +kernel
theorem dX3_hindered_9 : decode cX3_hindered 9 = .ok (.if_icmp .ge 37, 3) := by decide +kernel
theorem dX3_hindered_12 : decode cX3_hindered 12 = .ok (.iload_n 1, 1) := by decide +kernel
theorem dX3_hindered_13 : decode cX3_hindered 13 = .ok (.iconst 1, 1) := by decide +kernel
theorem dX3_hindered_14 : decode cX3_hindered 14 = .ok (.iload 4, 2) := by decide +kernel
theorem dX3_hindered_16 : decode cX3_hindered 16 = .ok (.ishl, 1) := by decide +kernel
theorem dX3_hindered_17 : decode cX3_hindered 17 = .ok (.iand, 1) := by decide +kernel
theorem dX3_hindered_18 : decode cX3_hindered 18 = .ok (.ifCond .eq 22, 3) := by decide +kernel
theorem dX3_hindered_21 : decode cX3_hindered 21 = .ok (.aload_n 0, 1) := by decide +kernel
theorem dX3_hindered_22 : decode cX3_hindered 22 = .ok (.getfield 18, 3) := by decide +kernel
theorem dX3_hindered_25 : decode cX3_hindered 25 = .ok (.iload_n 2, 1) := by decide +kernel
theorem dX3_hindered_26 : decode cX3_hindered 26 = .ok (.bipush 8, 2) := by decide +kernel
theorem dX3_hindered_28 : decode cX3_hindered 28 = .ok (.imul, 1) := by decide +kernel
theorem dX3_hindered_29 : decode cX3_hindered 29 = .ok (.iload 4, 2) := by decide +kernel
theorem dX3_hindered_31 : decode cX3_hindered 31 = .ok (.iadd, 1) := by decide +kernel
theorem dX3_hindered_32 : decode cX3_hindered 32 = .ok (.iaload, 1) := by decide +kernel
theorem dX3_hindered_33 : decode cX3_hindered 33 = .ok (.iload_n 3, 1) := by decide +kernel
theorem dX3_hindered_34 : decode cX3_hindered 34 = .ok (.iand, 1) := by decide +kernel
theorem dX3_hindered_35 : decode cX3_hindered 35 = .ok (.ifCond .eq 5, 3) := by decide +kernel
theorem dX3_hindered_38 : decode cX3_hindered 38 = .ok (.iconst 1, 1) := by decide +kernel
theorem dX3_hindered_39 : decode cX3_hindered 39 = .ok (.ireturn, 1) := by decide +kernel
theorem dX3_hindered_40 : decode cX3_hindered 40 = .ok (.iinc 4 1, 3) := by decide +kernel
theorem dX3_hindered_43 : decode cX3_hindered 43 = .ok (.goto (-40), 3) := by decide +kernel
theorem dX3_hindered_46 : decode cX3_hindered 46 = .ok (.iconst 0, 1) := by decide +kernel
theorem dX3_hindered_47 : decode cX3_hindered 47 = .ok (.ireturn, 1) := by decide +kernel
theorem dX3_opposite_0 : decode cX3_opposite 0 = .ok (.iload_n 0, 1) := by decide +kernel
theorem dX3_opposite_1 : decode cX3_opposite 1 = .ok (.iconst 1, 1) := by decide +kernel
theorem dX3_opposite_2 : decode cX3_opposite 2 = .ok (.ixor, 1) := by decide +kernel
theorem dX3_opposite_3 : decode cX3_opposite 3 = .ok (.ireturn, 1) := by decide +kernel
theorem dX3_changed_0 : decode cX3_changed 0 = .ok (.iload_n 2, 1) := by decide +kernel
theorem dX3_changed_1 : decode cX3_changed 1 = .ok (.ifCond .eq 11, 3) := by decide +kernel
theorem dX3_changed_4 : decode cX3_changed 4 = .ok (.iload_n 0, 1) := by decide +kernel
theorem dX3_changed_5 : decode cX3_changed 5 = .ok (.iconst 1, 1) := by decide +kernel
theorem dX3_changed_6 : decode cX3_changed 6 = .ok (.iload_n 1, 1) := by decide +kernel
theorem dX3_changed_7 : decode cX3_changed 7 = .ok (.ishl, 1) := by decide +kernel
theorem dX3_changed_8 : decode cX3_changed 8 = .ok (.ior, 1) := by decide +kernel
theorem dX3_changed_9 : decode cX3_changed 9 = .ok (.goto 10, 3) := by decide +kernel
theorem dX3_changed_12 : decode cX3_changed 12 = .ok (.iload_n 0, 1) := by decide +kernel
theorem dX3_changed_13 : decode cX3_changed 13 = .ok (.iconst 1, 1) := by decide +kernel
theorem dX3_changed_14 : decode cX3_changed 14 = .ok (.iload_n 1, 1) := by decide +kernel
theorem dX3_changed_15 : decode cX3_changed 15 = .ok (.ishl, 1) := by decide +kernel
theorem dX3_changed_16 : decode cX3_changed 16 = .ok (.iconst (-1), 1) := by decide +kernel
theorem dX3_changed_17 : decode cX3_changed 17 = .ok (.ixor, 1) := by decide +kernel
theorem dX3_changed_18 : decode cX3_changed 18 = .ok (.iand, 1) := by decide +kernel
theorem dX3_changed_19 : decode cX3_changed 19 = .ok (.ireturn, 1) := by decide +kernel
theorem dX3_reached_0 : decode cX3_reached 0 = .ok (.iload_n 2, 1) := by decide +kernel
theorem dX3_reached_1 : decode cX3_reached 1 = .ok (.istore 4, 2) := by decide +kernel
theorem dX3_reached_3 : decode cX3_reached 3 = .ok (.iconst 1, 1) := by decide +kernel
theorem dX3_reached_4 : decode cX3_reached 4 = .ok (.istore 5, 2) := by decide +kernel
theorem dX3_reached_6 : decode cX3_reached 6 = .ok (.iload 5, 2) := by decide +kernel
theorem dX3_reached_8 : decode cX3_reached 8 = .ok (.bipush 8, 2) := by decide +kernel
theorem dX3_reached_10 : decode cX3_reached 10 = .ok (.if_icmp .ge 48, 3) := by decide +kernel
theorem dX3_reached_13 : decode cX3_reached 13 = .ok (.iconst 0, 1) := by decide +kernel
theorem dX3_reached_14 : decode cX3_reached 14 = .ok (.istore 6, 2) := by decide +kernel
theorem dX3_reached_16 : decode cX3_reached 16 = .ok (.iload 6, 2) := by decide +kernel
theorem dX3_reached_18 : decode cX3_reached 18 = .ok (.bipush 8, 2) := by decide +kernel
theorem dX3_reached_20 : decode cX3_reached 20 = .ok (.if_icmp .ge 32, 3) := by decide +kernel
theorem dX3_reached_23 : decode cX3_reached 23 = .ok (.iload 4, 2) := by decide +kernel
theorem dX3_reached_25 : decode cX3_reached 25 = .ok (.iconst 1, 1) := by decide +kernel
theorem dX3_reached_26 : decode cX3_reached 26 = .ok (.iload 6, 2) := by decide +kernel
theorem dX3_reached_28 : decode cX3_reached 28 = .ok (.ishl, 1) := by decide +kernel
theorem dX3_reached_29 : decode cX3_reached 29 = .ok (.iand, 1) := by decide +kernel
theorem dX3_reached_30 : decode cX3_reached 30 = .ok (.ifCond .eq 16, 3) := by decide +kernel
theorem dX3_reached_33 : decode cX3_reached 33 = .ok (.iload 4, 2) := by decide +kernel
theorem dX3_reached_35 : decode cX3_reached 35 = .ok (.aload_n 0, 1) := by decide +kernel
theorem dX3_reached_36 : decode cX3_reached 36 = .ok (.iload_n 1, 1) := by decide +kernel
theorem dX3_reached_37 : decode cX3_reached 37 = .ok (.iload 6, 2) := by decide +kernel
theorem dX3_reached_39 : decode cX3_reached 39 = .ok (.iadd, 1) := by decide +kernel
theorem dX3_reached_40 : decode cX3_reached 40 = .ok (.iaload, 1) := by decide +kernel
theorem dX3_reached_41 : decode cX3_reached 41 = .ok (.iload_n 3, 1) := by decide +kernel
theorem dX3_reached_42 : decode cX3_reached 42 = .ok (.iand, 1) := by decide +kernel
theorem dX3_reached_43 : decode cX3_reached 43 = .ok (.ior, 1) := by decide +kernel
theorem dX3_reached_44 : decode cX3_reached 44 = .ok (.istore 4, 2) := by decide +kernel
theorem dX3_reached_46 : decode cX3_reached 46 = .ok (.iinc 6 1, 3) := by decide +kernel
theorem dX3_reached_49 : decode cX3_reached 49 = .ok (.goto (-33), 3) := by decide +kernel
theorem dX3_reached_52 : decode cX3_reached 52 = .ok (.iinc 5 1, 3) := by decide +kernel
theorem dX3_reached_55 : decode cX3_reached 55 = .ok (.goto (-49), 3) := by decide +kernel
theorem dX3_reached_58 : decode cX3_reached 58 = .ok (.iload 4, 2) := by decide +kernel
theorem dX3_reached_60 : decode cX3_reached 60 = .ok (.ireturn, 1) := by decide +kernel
