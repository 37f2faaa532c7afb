theorem dX5_isSplit_0 : decode cX5_isSplit 0 = .ok (.iload_n 1, 1) := by decide +kernel
theorem dX5_isSplit_1 : decode cX5_isSplit 1 = .ok (.iload_n 2, 1) := by decide +kernel
theorem dX5_isSplit_2 : decode cX5_isSplit 2 = .ok (.iconst (-1), 1) := by decide +kernel
theorem dX5_isSplit_3 : decode cX5_isSplit 3 = .ok (.ixor, 1) := by decide +kernel
theorem dX5_isSplit_4 : decode cX5_isSplit 4 = .ok (.iand, 1) := by decide +kernel
theorem dX5_isSplit_5 : decode cX5_isSplit 5 = .ok (.istore_n 3, 1) := by decide +kernel
theorem dX5_isSplit_6 : decode cX5_isSplit 6 = .ok (.iload_n 2, 1) := by decide +kernel
theorem dX5_isSplit_7 : decode cX5_isSplit 7 = .ok (.iload_n 1, 1) := by decide +kernel
theorem dX5_isSplit_8 : decode cX5_isSplit 8 = .ok (.iconst (-1), 1) := by decide +kernel
theorem dX5_isSplit_9 : decode cX5_isSplit 9 = .ok (.ixor, 1) := by decide +kernel
theorem dX5_isSplit_10 : decode cX5_isSplit 10 = .ok (.iand, 1) := by decide +kernel
theorem dX5_isSplit_11 : decode cX5_isSplit 11 = .ok (.ifCond .ne 20, 3) := by decide +kernel
theorem dX5_isSplit_14 : decode cX5_isSplit 14 = .ok (.iload_n 3, 1) := by decide +kernel
theorem dX5_isSplit_15 : decode cX5_isSplit 15 = .ok (.ifCond .eq 16, 3) := by decide +kernel
theorem dX5_isSplit_18 : decode cX5_isSplit 18 = .ok (.iload_n 2, 1) := by decide +kernel
theorem dX5_isSplit_19 : decode cX5_isSplit 19 = .ok (.iload_n 1, 1) := by decide +kernel
theorem dX5_isSplit_20 : decode cX5_isSplit 20 = .ok (.iand, 1) := by decide +kernel
theorem dX5_isSplit_21 : decode cX5_isSplit 21 = .ok (.iload_n 1, 1) := by decide +kernel
theorem dX5_isSplit_22 : decode cX5_isSplit 22 = .ok (.ineg, 1) := by decide +kernel
theorem dX5_isSplit_23 : decode cX5_isSplit 23 = .ok (.iand, 1) := by decide +kernel
theorem dX5_isSplit_24 : decode cX5_isSplit 24 = .ok (.ifCond .eq 7, 3) := by decide +kernel
theorem dX5_isSplit_27 : decode cX5_isSplit 27 = .ok (.iconst 1, 1) := by decide +kernel
theorem dX5_isSplit_28 : decode cX5_isSplit 28 = .ok (.goto 4, 3) := by decide +kernel
theorem dX5_isSplit_31 : decode cX5_isSplit 31 = .ok (.iconst 0, 1) := by decide +kernel
theorem dX5_isSplit_32 : decode cX5_isSplit 32 = .ok (.istore 4, 2) := by decide +kernel
theorem dX5_isSplit_34 : decode cX5_isSplit 34 = .ok (.iload 4, 2) := by decide +kernel
theorem dX5_isSplit_36 : decode cX5_isSplit 36 = .ok (.ifCond .eq 32, 3) := by decide +kernel
theorem dX5_isSplit_39 : decode cX5_isSplit 39 = .ok (.aload_n 0, 1) := by decide +kernel
theorem dX5_isSplit_40 : decode cX5_isSplit 40 = .ok (.iload_n 2, 1) := by decide +kernel
theorem dX5_isSplit_41 : decode cX5_isSplit 41 = .ok (.invokevirtual 82, 3) := by decide +kernel
theorem dX5_isSplit_44 : decode cX5_isSplit 44 = .ok (.ifCond .eq 24, 3) := by decide +kernel
theorem dX5_isSplit_47 : decode cX5_isSplit 47 = .ok (.aload_n 0, 1) := by decide +kernel
theorem dX5_isSplit_48 : decode cX5_isSplit 48 = .ok (.iload_n 3, 1) := by decide +kernel
theorem dX5_isSplit_49 : decode cX5_isSplit 49 = .ok (.invokevirtual 82, 3) := by decide +kernel
theorem dX5_isSplit_52 : decode cX5_isSplit 52 = .ok (.ifCond .eq 16, 3) := by decide +kernel
theorem dX5_isSplit_55 : decode cX5_isSplit 55 = .ok (.aload_n 0, 1) := by decide +kernel
theorem dX5_isSplit_56 : decode cX5_isSplit 56 = .ok (.iload_n 2, 1) := by decide +kernel
theorem dX5_isSplit_57 : decode cX5_isSplit 57 = .ok (.iload_n 3, 1) := by decide +kernel
theorem dX5_isSplit_58 : decode cX5_isSplit 58 = .ok (.invokevirtual 107, 3) := by decide +kernel
theorem dX5_isSplit_61 : decode cX5_isSplit 61 = .ok (.ifCond .eq 7, 3) := by decide +kernel
theorem dX5_isSplit_64 : decode cX5_isSplit 64 = .ok (.iconst 1, 1) := by decide +kernel
theorem dX5_isSplit_65 : decode cX5_isSplit 65 = .ok (.goto 4, 3) := by decide +kernel
theorem dX5_isSplit_68 : decode cX5_isSplit 68 = .ok (.iconst 0, 1) := by decide +kernel
theorem dX5_isSplit_69 : decode cX5_isSplit 69 = .ok (.ireturn, 1) := by decide +kernel
set_option maxRecDepth 20000 in
theorem ggX5_splits_X5_isSet : GoodIn wsX5_splits wsX5_isSet := goodIn_r _ [5, 6, 7, 8, 4, 9, 10, 34, 35, 36, 37, 38, 39, 40, 41, 42, 43, 44, 45, 46, 47, 48, 49, 50, 51, 52] (by decide +kernel) (by decide +kernel)
set_option maxRecDepth 20000 in
theorem gX5_splits_X5_isSet : GoodIn wsX5_splits (wsV RX5 88 RX5 yX5_isSet wsX5_isSet) := goodIn_app (goodIn_of _ (by decide +kernel)) ggX5_splits_X5_isSet
set_option maxRecDepth 20000 in
theorem ggX5_splits_X5_holds : GoodIn wsX5_splits wsX5_holds := goodIn_r _ [14, 15, 34, 35, 36, 37, 38, 39, 40, 41, 42, 43, 44, 45, 46, 47, 48, 49, 50, 51, 52] (by decide +kernel) (by decide +kernel)
set_option maxRecDepth 20000 in
theorem gX5_splits_X5_holds : GoodIn wsX5_splits (wsV RX5 51 RX5 yX5_holds wsX5_holds) := goodIn_app (goodIn_of _ (by decide +kernel)) ggX5_splits_X5_holds
set_option maxRecDepth 20000 in
theorem ggX5_splits_X5_hangsTogether : GoodIn wsX5_splits wsX5_hangsTogether := goodIn_r _ [19, 20, 21, 22, 4, 23, 10, 24, 34, 35, 36, 37, 38, 39, 40, 41, 42, 43, 44, 45, 46, 47, 48, 49, 50, 51, 52] (by decide +kernel) (by decide +kernel)
set_option maxRecDepth 20000 in
theorem gX5_splits_X5_hangsTogether : GoodIn wsX5_splits (wsV RX5 82 RX5 yX5_hangsTogether wsX5_hangsTogether) := goodIn_app (goodIn_of _ (by decide +kernel)) ggX5_splits_X5_hangsTogether
set_option maxRecDepth 20000 in
theorem ggX5_splits_X5_isSplit : GoodIn wsX5_splits wsX5_isSplit := goodIn_r _ [28, 16, 17, 18, 4, 19, 20, 21, 22, 23, 10, 24, 29, 30, 31, 32, 33, 34, 35, 36, 37, 38, 39, 40, 41, 42, 43, 44, 45, 46, 47, 48, 49, 50, 51, 52] (by decide +kernel) (by decide +kernel)
set_option maxRecDepth 20000 in
theorem gX5_splits_X5_isSplit : GoodIn wsX5_splits (wsV RX5 110 RX5 yX5_isSplit wsX5_isSplit) := goodIn_app (goodIn_of _ (by decide +kernel)) ggX5_splits_X5_isSplit
theorem dX5_splits_0 : decode cX5_splits 0 = .ok (.aload_n 0, 1) := by decide +kernel
theorem dX5_splits_1 : decode cX5_splits 1 = .ok (.aload_n 0, 1) := by decide +kernel
theorem dX5_splits_2 : decode cX5_splits 2 = .ok (.iload_n 1, 1) := by decide +kernel
theorem dX5_splits_3 : decode cX5_splits 3 = .ok (.invokevirtual 88, 3) := by decide +kernel
theorem dX5_splits_6 : decode cX5_splits 6 = .ok (.ifCond .eq 7, 3) := by decide +kernel
theorem dX5_splits_9 : decode cX5_splits 9 = .ok (.iconst 0, 1) := by decide +kernel
theorem dX5_splits_10 : decode cX5_splits 10 = .ok (.goto 4, 3) := by decide +kernel
theorem dX5_splits_13 : decode cX5_splits 13 = .ok (.iconst 1, 1) := by decide +kernel
theorem dX5_splits_14 : decode cX5_splits 14 = .ok (.invokevirtual 51, 3) := by decide +kernel
theorem dX5_splits_17 : decode cX5_splits 17 = .ok (.ifCond .ne 5, 3) := by decide +kernel
theorem dX5_splits_20 : decode cX5_splits 20 = .ok (.iconst 0, 1) := by decide +kernel
theorem dX5_splits_21 : decode cX5_splits 21 = .ok (.ireturn, 1) := by decide +kernel
theorem dX5_splits_22 : decode cX5_splits 22 = .ok (.iconst 0, 1) := by decide +kernel
theorem dX5_splits_23 : decode cX5_splits 23 = .ok (.istore_n 2, 1) := by decide +kernel
theorem dX5_splits_24 : decode cX5_splits 24 = .ok (.iconst 1, 1) := by decide +kernel
theorem dX5_splits_25 : decode cX5_splits 25 = .ok (.istore_n 3, 1) := by decide +kernel
theorem dX5_splits_26 : decode cX5_splits 26 = .ok (.iload_n 3, 1) := by decide +kernel
theorem dX5_splits_27 : decode cX5_splits 27 = .ok (.iload_n 1, 1) := by decide +kernel
theorem dX5_splits_28 : decode cX5_splits 28 = .ok (.if_icmp .ge 34, 3) := by decide +kernel
theorem dX5_splits_31 : decode cX5_splits 31 = .ok (.aload_n 0, 1) := by decide +kernel
theorem dX5_splits_32 : decode cX5_splits 32 = .ok (.iload_n 1, 1) := by decide +kernel
theorem dX5_splits_33 : decode cX5_splits 33 = .ok (.invokevirtual 82, 3) := by decide +kernel
theorem dX5_splits_36 : decode cX5_splits 36 = .ok (.ifCond .eq 26, 3) := by decide +kernel
theorem dX5_splits_39 : decode cX5_splits 39 = .ok (.iload_n 2, 1) := by decide +kernel
theorem dX5_splits_40 : decode cX5_splits 40 = .ok (.aload_n 0, 1) := by decide +kernel
theorem dX5_splits_41 : decode cX5_splits 41 = .ok (.iload_n 1, 1) := by decide +kernel
theorem dX5_splits_42 : decode cX5_splits 42 = .ok (.iload_n 3, 1) := by decide +kernel
theorem dX5_splits_43 : decode cX5_splits 43 = .ok (.invokevirtual 110, 3) := by decide +kernel
theorem dX5_splits_46 : decode cX5_splits 46 = .ok (.ifCond .eq 7, 3) := by decide +kernel
theorem dX5_splits_49 : decode cX5_splits 49 = .ok (.iconst 1, 1) := by decide +kernel
theorem dX5_splits_50 : decode cX5_splits 50 = .ok (.goto 4, 3) := by decide +kernel
theorem dX5_splits_53 : decode cX5_splits 53 = .ok (.iconst 0, 1) := by decide +kernel
theorem dX5_splits_54 : decode cX5_splits 54 = .ok (.iadd, 1) := by decide +kernel
theorem dX5_splits_55 : decode cX5_splits 55 = .ok (.istore_n 2, 1) := by decide +kernel
theorem dX5_splits_56 : decode cX5_splits 56 = .ok (.iinc 3 1, 3) := by decide +kernel
theorem dX5_splits_59 : decode cX5_splits 59 = .ok (.goto (-33), 3) := by decide +kernel
theorem dX5_splits_62 : decode cX5_splits 62 = .ok (.iload_n 2, 1) := by decide +kernel
theorem dX5_splits_63 : decode cX5_splits 63 = .ok (.ireturn, 1) := by decide +kernel
set_option maxRecDepth 20000 in
theorem ggX5_comesApart_X5_whole : GoodIn wsX5_comesApart wsX5_whole := goodIn_r _ [7, 8, 27, 28, 29, 30, 31, 32, 33, 34, 35, 36, 37, 38, 39, 40, 41, 42, 43, 44, 45] (by decide +kernel) (by decide +kernel)
set_option maxRecDepth 20000 in
theorem gX5_comesApart_X5_whole : GoodIn wsX5_comesApart (wsV RX5 74 RX5 yX5_whole wsX5_whole) := goodIn_app (goodIn_of _ (by decide +kernel)) ggX5_comesApart_X5_whole
set_option maxRecDepth 20000 in
theorem ggX5_comesApart_X5_hangsTogether : GoodIn wsX5_comesApart wsX5_hangsTogether := goodIn_r _ [12, 13, 14, 15, 6, 16, 8, 17, 27, 28, 29, 30, 31, 32, 33, 34, 35, 36, 37, 38, 39, 40, 41, 42, 43, 44, 45] (by decide +kernel) (by decide +kernel)
set_option maxRecDepth 20000 in
theorem gX5_comesApart_X5_hangsTogether : GoodIn wsX5_comesApart (wsV RX5 82 RX5 yX5_hangsTogether wsX5_hangsTogether) := goodIn_app (goodIn_of _ (by decide +kernel)) ggX5_comesApart_X5_hangsTogether
set_option maxRecDepth 20000 in
theorem ggX5_comesApart_X5_isSplit : GoodIn wsX5_comesApart wsX5_isSplit := goodIn_r _ [21, 9, 10, 11, 6, 12, 13, 14, 15, 16, 8, 17, 22, 23, 24, 25, 26, 27, 28, 29, 30, 31, 32, 33, 34, 35, 36, 37, 38, 39, 40, 41, 42, 43, 44, 45] (by decide +kernel) (by decide +kernel)
set_option maxRecDepth 20000 in
theorem gX5_comesApart_X5_isSplit : GoodIn wsX5_comesApart (wsV RX5 110 RX5 yX5_isSplit wsX5_isSplit) := goodIn_app (goodIn_of _ (by decide +kernel)) ggX5_comesApart_X5_isSplit
theorem dX5_comesApart_0 : decode cX5_comesApart 0 = .ok (.iconst 1, 1) := by decide +kernel
theorem dX5_comesApart_1 : decode cX5_comesApart 1 = .ok (.istore_n 1, 1) := by decide +kernel
theorem dX5_comesApart_2 : decode cX5_comesApart 2 = .ok (.iload_n 1, 1) := by decide +kernel
theorem dX5_comesApart_3 : decode cX5_comesApart 3 = .ok (.aload_n 0, 1) := by decide +kernel
theorem dX5_comesApart_4 : decode cX5_comesApart 4 = .ok (.invokevirtual 74, 3) := by decide +kernel
theorem dX5_comesApart_7 : decode cX5_comesApart 7 = .ok (.if_icmp .gt 181, 3) := by decide +kernel
theorem dX5_comesApart_10 : decode cX5_comesApart 10 = .ok (.iload_n 1, 1) := by decide +kernel
theorem dX5_comesApart_11 : decode cX5_comesApart 11 = .ok (.iload_n 1, 1) := by decide +kernel
theorem dX5_comesApart_12 : decode cX5_comesApart 12 = .ok (.iconst 1, 1) := by decide +kernel
theorem dX5_comesApart_13 : decode cX5_comesApart 13 = .ok (.isub, 1) := by decide +kernel
theorem dX5_comesApart_14 : decode cX5_comesApart 14 = .ok (.iand, 1) := by decide +kernel
theorem dX5_comesApart_15 : decode cX5_comesApart 15 = .ok (.ifCond .ne 7, 3) := by decide +kernel
theorem dX5_comesApart_18 : decode cX5_comesApart 18 = .ok (.iconst 1, 1) := by decide +kernel
theorem dX5_comesApart_19 : decode cX5_comesApart 19 = .ok (.goto 4, 3) := by decide +kernel
theorem dX5_comesApart_22 : decode cX5_comesApart 22 = .ok (.iconst 0, 1) := by decide +kernel
theorem dX5_comesApart_23 : decode cX5_comesApart 23 = .ok (.istore_n 2, 1) := by decide +kernel
theorem dX5_comesApart_24 : decode cX5_comesApart 24 = .ok (.aload_n 0, 1) := by decide +kernel
theorem dX5_comesApart_25 : decode cX5_comesApart 25 = .ok (.getfield 25, 3) := by decide +kernel
theorem dX5_comesApart_28 : decode cX5_comesApart 28 = .ok (.iload_n 1, 1) := by decide +kernel
theorem dX5_comesApart_29 : decode cX5_comesApart 29 = .ok (.iload_n 2, 1) := by decide +kernel
theorem dX5_comesApart_30 : decode cX5_comesApart 30 = .ok (.ifCond .eq 7, 3) := by decide +kernel
theorem dX5_comesApart_33 : decode cX5_comesApart 33 = .ok (.iconst 1, 1) := by decide +kernel
theorem dX5_comesApart_34 : decode cX5_comesApart 34 = .ok (.goto 4, 3) := by decide +kernel
theorem dX5_comesApart_37 : decode cX5_comesApart 37 = .ok (.iconst 0, 1) := by decide +kernel
theorem dX5_comesApart_38 : decode cX5_comesApart 38 = .ok (.iastore, 1) := by decide +kernel
theorem dX5_comesApart_39 : decode cX5_comesApart 39 = .ok (.aload_n 0, 1) := by decide +kernel
theorem dX5_comesApart_40 : decode cX5_comesApart 40 = .ok (.getfield 28, 3) := by decide +kernel
theorem dX5_comesApart_43 : decode cX5_comesApart 43 = .ok (.iload_n 1, 1) := by decide +kernel
theorem dX5_comesApart_44 : decode cX5_comesApart 44 = .ok (.iload_n 2, 1) := by decide +kernel
theorem dX5_comesApart_45 : decode cX5_comesApart 45 = .ok (.ifCond .eq 7, 3) := by decide +kernel
theorem dX5_comesApart_48 : decode cX5_comesApart 48 = .ok (.iconst 0, 1) := by decide +kernel
theorem dX5_comesApart_49 : decode cX5_comesApart 49 = .ok (.goto 6, 3) := by decide +kernel
theorem dX5_comesApart_52 : decode cX5_comesApart 52 = .ok (.sipush 1000, 3) := by decide +kernel
theorem dX5_comesApart_55 : decode cX5_comesApart 55 = .ok (.iastore, 1) := by decide +kernel
theorem dX5_comesApart_56 : decode cX5_comesApart 56 = .ok (.iconst 1, 1) := by decide +kernel
theorem dX5_comesApart_57 : decode cX5_comesApart 57 = .ok (.istore_n 3, 1) := by decide +kernel
theorem dX5_comesApart_58 : decode cX5_comesApart 58 = .ok (.iload_n 3, 1) := by decide +kernel
theorem dX5_comesApart_59 : decode cX5_comesApart 59 = .ok (.iload_n 1, 1) := by decide +kernel
theorem dX5_comesApart_60 : decode cX5_comesApart 60 = .ok (.if_icmp .ge 122, 3) := by decide +kernel
theorem dX5_comesApart_63 : decode cX5_comesApart 63 = .ok (.aload_n 0, 1) := by decide +kernel
theorem dX5_comesApart_64 : decode cX5_comesApart 64 = .ok (.iload_n 1, 1) := by decide +kernel
theorem dX5_comesApart_65 : decode cX5_comesApart 65 = .ok (.invokevirtual 82, 3) := by decide +kernel
theorem dX5_comesApart_68 : decode cX5_comesApart 68 = .ok (.ifCond .eq 114, 3) := by decide +kernel
theorem dX5_comesApart_71 : decode cX5_comesApart 71 = .ok (.aload_n 0, 1) := by decide +kernel
theorem dX5_comesApart_72 : decode cX5_comesApart 72 = .ok (.iload_n 1, 1) := by decide +kernel
theorem dX5_comesApart_73 : decode cX5_comesApart 73 = .ok (.iload_n 3, 1) := by decide +kernel
theorem dX5_comesApart_74 : decode cX5_comesApart 74 = .ok (.invokevirtual 110, 3) := by decide +kernel
theorem dX5_comesApart_77 : decode cX5_comesApart 77 = .ok (.ifCond .eq 99, 3) := by decide +kernel
theorem dX5_comesApart_80 : decode cX5_comesApart 80 = .ok (.iload_n 1, 1) := by decide +kernel
theorem dX5_comesApart_81 : decode cX5_comesApart 81 = .ok (.iload_n 3, 1) := by decide +kernel
theorem dX5_comesApart_82 : decode cX5_comesApart 82 = .ok (.iconst (-1), 1) := by decide +kernel
theorem dX5_comesApart_83 : decode cX5_comesApart 83 = .ok (.ixor, 1) := by decide +kernel
theorem dX5_comesApart_84 : decode cX5_comesApart 84 = .ok (.iand, 1) := by decide +kernel
theorem dX5_comesApart_85 : decode cX5_comesApart 85 = .ok (.istore 4, 2) := by decide +kernel
theorem dX5_comesApart_87 : decode cX5_comesApart 87 = .ok (.aload_n 0, 1) := by decide +kernel
theorem dX5_comesApart_88 : decode cX5_comesApart 88 = .ok (.getfield 28, 3) := by decide +kernel
theorem dX5_comesApart_91 : decode cX5_comesApart 91 = .ok (.iload_n 3, 1) := by decide +kernel
theorem dX5_comesApart_92 : decode cX5_comesApart 92 = .ok (.iaload, 1) := by decide +kernel
theorem dX5_comesApart_93 : decode cX5_comesApart 93 = .ok (.aload_n 0, 1) := by decide +kernel
theorem dX5_comesApart_94 : decode cX5_comesApart 94 = .ok (.getfield 28, 3) := by decide +kernel
theorem dX5_comesApart_97 : decode cX5_comesApart 97 = .ok (.iload 4, 2) := by decide +kernel
theorem dX5_comesApart_99 : decode cX5_comesApart 99 = .ok (.iaload, 1) := by decide +kernel
theorem dX5_comesApart_100 : decode cX5_comesApart 100 = .ok (.if_icmp .le 12, 3) := by decide +kernel
theorem dX5_comesApart_103 : decode cX5_comesApart 103 = .ok (.aload_n 0, 1) := by decide +kernel
theorem dX5_comesApart_104 : decode cX5_comesApart 104 = .ok (.getfield 28, 3) := by decide +kernel
theorem dX5_comesApart_107 : decode cX5_comesApart 107 = .ok (.iload_n 3, 1) := by decide +kernel
theorem dX5_comesApart_108 : decode cX5_comesApart 108 = .ok (.iaload, 1) := by decide +kernel
theorem dX5_comesApart_109 : decode cX5_comesApart 109 = .ok (.goto 10, 3) := by decide +kernel
theorem dX5_comesApart_112 : decode cX5_comesApart 112 = .ok (.aload_n 0, 1) := by decide +kernel
theorem dX5_comesApart_113 : decode cX5_comesApart 113 = .ok (.getfield 28, 3) := by decide +kernel
theorem dX5_comesApart_116 : decode cX5_comesApart 116 = .ok (.iload 4, 2) := by decide +kernel
theorem dX5_comesApart_118 : decode cX5_comesApart 118 = .ok (.iaload, 1) := by decide +kernel
theorem dX5_comesApart_119 : decode cX5_comesApart 119 = .ok (.istore 5, 2) := by decide +kernel
theorem dX5_comesApart_121 : decode cX5_comesApart 121 = .ok (.aload_n 0, 1) := by decide +kernel
theorem dX5_comesApart_122 : decode cX5_comesApart 122 = .ok (.getfield 25, 3) := by decide +kernel
theorem dX5_comesApart_125 : decode cX5_comesApart 125 = .ok (.iload_n 1, 1) := by decide +kernel
theorem dX5_comesApart_126 : decode cX5_comesApart 126 = .ok (.dup2, 1) := by decide +kernel
theorem dX5_comesApart_127 : decode cX5_comesApart 127 = .ok (.iaload, 1) := by decide +kernel
theorem dX5_comesApart_128 : decode cX5_comesApart 128 = .ok (.aload_n 0, 1) := by decide +kernel
theorem dX5_comesApart_129 : decode cX5_comesApart 129 = .ok (.getfield 25, 3) := by decide +kernel
theorem dX5_comesApart_132 : decode cX5_comesApart 132 = .ok (.iload_n 3, 1) := by decide +kernel
theorem dX5_comesApart_133 : decode cX5_comesApart 133 = .ok (.iaload, 1) := by decide +kernel
theorem dX5_comesApart_134 : decode cX5_comesApart 134 = .ok (.aload_n 0, 1) := by decide +kernel
theorem dX5_comesApart_135 : decode cX5_comesApart 135 = .ok (.getfield 25, 3) := by decide +kernel
theorem dX5_comesApart_138 : decode cX5_comesApart 138 = .ok (.iload 4, 2) := by decide +kernel
theorem dX5_comesApart_140 : decode cX5_comesApart 140 = .ok (.iaload, 1) := by decide +kernel
theorem dX5_comesApart_141 : decode cX5_comesApart 141 = .ok (.imul, 1) := by decide +kernel
theorem dX5_comesApart_142 : decode cX5_comesApart 142 = .ok (.iadd, 1) := by decide +kernel
theorem dX5_comesApart_143 : decode cX5_comesApart 143 = .ok (.iastore, 1) := by decide +kernel
theorem dX5_comesApart_144 : decode cX5_comesApart 144 = .ok (.aload_n 0, 1) := by decide +kernel
theorem dX5_comesApart_145 : decode cX5_comesApart 145 = .ok (.getfield 28, 3) := by decide +kernel
theorem dX5_comesApart_148 : decode cX5_comesApart 148 = .ok (.iload_n 1, 1) := by decide +kernel
theorem dX5_comesApart_149 : decode cX5_comesApart 149 = .ok (.iload 5, 2) := by decide +kernel
theorem dX5_comesApart_151 : decode cX5_comesApart 151 = .ok (.iconst 1, 1) := by decide +kernel
theorem dX5_comesApart_152 : decode cX5_comesApart 152 = .ok (.iadd, 1) := by decide +kernel
theorem dX5_comesApart_153 : decode cX5_comesApart 153 = .ok (.aload_n 0, 1) := by decide +kernel
theorem dX5_comesApart_154 : decode cX5_comesApart 154 = .ok (.getfield 28, 3) := by decide +kernel
theorem dX5_comesApart_157 : decode cX5_comesApart 157 = .ok (.iload_n 1, 1) := by decide +kernel
theorem dX5_comesApart_158 : decode cX5_comesApart 158 = .ok (.iaload, 1) := by decide +kernel
theorem dX5_comesApart_159 : decode cX5_comesApart 159 = .ok (.if_icmp .ge 10, 3) := by decide +kernel
theorem dX5_comesApart_162 : decode cX5_comesApart 162 = .ok (.iload 5, 2) := by decide +kernel
theorem dX5_comesApart_164 : decode cX5_comesApart 164 = .ok (.iconst 1, 1) := by decide +kernel
theorem dX5_comesApart_165 : decode cX5_comesApart 165 = .ok (.iadd, 1) := by decide +kernel
theorem dX5_comesApart_166 : decode cX5_comesApart 166 = .ok (.goto 9, 3) := by decide +kernel
theorem dX5_comesApart_169 : decode cX5_comesApart 169 = .ok (.aload_n 0, 1) := by decide +kernel
theorem dX5_comesApart_170 : decode cX5_comesApart 170 = .ok (.getfield 28, 3) := by decide +kernel
theorem dX5_comesApart_173 : decode cX5_comesApart 173 = .ok (.iload_n 1, 1) := by decide +kernel
theorem dX5_comesApart_174 : decode cX5_comesApart 174 = .ok (.iaload, 1) := by decide +kernel
theorem dX5_comesApart_175 : decode cX5_comesApart 175 = .ok (.iastore, 1) := by decide +kernel
theorem dX5_comesApart_176 : decode cX5_comesApart 176 = .ok (.iinc 3 1, 3) := by decide +kernel
theorem dX5_comesApart_179 : decode cX5_comesApart 179 = .ok (.goto (-121), 3) := by decide +kernel
theorem dX5_comesApart_182 : decode cX5_comesApart 182 = .ok (.iinc 1 1, 3) := by decide +kernel
theorem dX5_comesApart_185 : decode cX5_comesApart 185 = .ok (.goto (-183), 3) := by decide +kernel
theorem dX5_comesApart_188 : decode cX5_comesApart 188 = .ok (.return_, 1) := by decide +kernel
set_option maxRecDepth 20000 in
theorem ggX5_ways_X5_holds : GoodIn wsX5_ways wsX5_holds := goodIn_r _ [7, 8, 36, 37, 38, 39, 40, 41, 42, 43, 44, 45, 46, 47, 48, 49, 50, 51, 52, 53, 54] (by decide +kernel) (by decide +kernel)
set_option maxRecDepth 20000 in
theorem gX5_ways_X5_holds : GoodIn wsX5_ways (wsV RX5 51 RX5 yX5_holds wsX5_holds) := goodIn_app (goodIn_of _ (by decide +kernel)) ggX5_ways_X5_holds
set_option maxRecDepth 20000 in
theorem ggX5_ways_X5_comesApart : GoodIn wsX5_ways wsX5_comesApart := goodIn_r _ [12, 2, 13, 14, 15, 16, 6, 17, 1, 18, 19, 20, 21, 22, 23, 24, 25, 26, 27, 28, 29, 30, 31, 32, 33, 34, 35, 36, 37, 38, 39, 40, 41, 42, 43, 44, 45, 46, 47, 48, 49, 50, 51, 52, 53, 54] (by decide +kernel) (by decide +kernel)
set_option maxRecDepth 20000 in
theorem gX5_ways_X5_comesApart : GoodIn wsX5_ways (wsV RX5 113 RX5 yX5_comesApart wsX5_comesApart) := goodIn_app (goodIn_of _ (by decide +kernel)) ggX5_ways_X5_comesApart
set_option maxRecDepth 20000 in
theorem ggX5_ways_X5_whole : GoodIn wsX5_ways wsX5_whole := goodIn_r _ [17, 1, 36, 37, 38, 39, 40, 41, 42, 43, 44, 45, 46, 47, 48, 49, 50, 51, 52, 53, 54] (by decide +kernel) (by decide +kernel)
set_option maxRecDepth 20000 in
theorem gX5_ways_X5_whole : GoodIn wsX5_ways (wsV RX5 74 RX5 yX5_whole wsX5_whole) := goodIn_app (goodIn_of _ (by decide +kernel)) ggX5_ways_X5_whole
theorem dX5_ways_0 : decode cX5_ways 0 = .ok (.aload_n 0, 1) := by decide +kernel
theorem dX5_ways_1 : decode cX5_ways 1 = .ok (.aload_n 0, 1) := by decide +kernel
theorem dX5_ways_2 : decode cX5_ways 2 = .ok (.getfield 44, 3) := by decide +kernel
theorem dX5_ways_5 : decode cX5_ways 5 = .ok (.ifCond .ne 7, 3) := by decide +kernel
theorem dX5_ways_8 : decode cX5_ways 8 = .ok (.iconst 1, 1) := by decide +kernel
theorem dX5_ways_9 : decode cX5_ways 9 = .ok (.goto 4, 3) := by decide +kernel
theorem dX5_ways_12 : decode cX5_ways 12 = .ok (.iconst 0, 1) := by decide +kernel
theorem dX5_ways_13 : decode cX5_ways 13 = .ok (.invokevirtual 51, 3) := by decide +kernel
theorem dX5_ways_16 : decode cX5_ways 16 = .ok (.ifCond .ne 5, 3) := by decide +kernel
theorem dX5_ways_19 : decode cX5_ways 19 = .ok (.iconst 0, 1) := by decide +kernel
theorem dX5_ways_20 : decode cX5_ways 20 = .ok (.ireturn, 1) := by decide +kernel
theorem dX5_ways_21 : decode cX5_ways 21 = .ok (.aload_n 0, 1) := by decide +kernel
theorem dX5_ways_22 : decode cX5_ways 22 = .ok (.invokevirtual 113, 3) := by decide +kernel
theorem dX5_ways_25 : decode cX5_ways 25 = .ok (.aload_n 0, 1) := by decide +kernel
theorem dX5_ways_26 : decode cX5_ways 26 = .ok (.getfield 25, 3) := by decide +kernel
theorem dX5_ways_29 : decode cX5_ways 29 = .ok (.aload_n 0, 1) := by decide +kernel
theorem dX5_ways_30 : decode cX5_ways 30 = .ok (.invokevirtual 74, 3) := by decide +kernel
theorem dX5_ways_33 : decode cX5_ways 33 = .ok (.iaload, 1) := by decide +kernel
theorem dX5_ways_34 : decode cX5_ways 34 = .ok (.ireturn, 1) := by decide +kernel
set_option maxRecDepth 20000 in
theorem ggX5_leastDepth_X5_holds : GoodIn wsX5_leastDepth wsX5_holds := goodIn_r _ [7, 8, 36, 37, 38, 39, 40, 41, 42, 43, 44, 45, 46, 47, 48, 49, 50, 51, 52, 53, 54] (by decide +kernel) (by decide +kernel)
set_option maxRecDepth 20000 in
theorem gX5_leastDepth_X5_holds : GoodIn wsX5_leastDepth (wsV RX5 51 RX5 yX5_holds wsX5_holds) := goodIn_app (goodIn_of _ (by decide +kernel)) ggX5_leastDepth_X5_holds
set_option maxRecDepth 20000 in
theorem ggX5_leastDepth_X5_comesApart : GoodIn wsX5_leastDepth wsX5_comesApart := goodIn_r _ [12, 13, 2, 14, 15, 16, 6, 17, 1, 18, 19, 20, 21, 22, 23, 24, 25, 26, 27, 28, 29, 30, 31, 32, 33, 34, 35, 36, 37, 38, 39, 40, 41, 42, 43, 44, 45, 46, 47, 48, 49, 50, 51, 52, 53, 54] (by decide +kernel) (by decide +kernel)
set_option maxRecDepth 20000 in
theorem gX5_leastDepth_X5_comesApart : GoodIn wsX5_leastDepth (wsV RX5 113 RX5 yX5_comesApart wsX5_comesApart) := goodIn_app (goodIn_of _ (by decide +kernel)) ggX5_leastDepth_X5_comesApart
set_option maxRecDepth 20000 in
theorem ggX5_leastDepth_X5_whole : GoodIn wsX5_leastDepth wsX5_whole := goodIn_r _ [17, 1, 36, 37, 38, 39, 40, 41, 42, 43, 44, 45, 46, 47, 48, 49, 50, 51, 52, 53, 54] (by decide +kernel) (by decide +kernel)
set_option maxRecDepth 20000 in
theorem gX5_leastDepth_X5_whole : GoodIn wsX5_leastDepth (wsV RX5 74 RX5 yX5_whole wsX5_whole) := goodIn_app (goodIn_of _ (by decide +kernel)) ggX5_leastDepth_X5_whole
theorem dX5_leastDepth_0 : decode cX5_leastDepth 0 = .ok (.aload_n 0, 1) := by decide +kernel
theorem dX5_leastDepth_1 : decode cX5_leastDepth 1 = .ok (.aload_n 0, 1) := by decide +kernel
theorem dX5_leastDepth_2 : decode cX5_leastDepth 2 = .ok (.getfield 44, 3) := by decide +kernel
theorem dX5_leastDepth_5 : decode cX5_leastDepth 5 = .ok (.ifCond .ne 7, 3) := by decide +kernel
theorem dX5_leastDepth_8 : decode cX5_leastDepth 8 = .ok (.iconst 1, 1) := by decide +kernel
theorem dX5_leastDepth_9 : decode cX5_leastDepth 9 = .ok (.goto 4, 3) := by decide +kernel
theorem dX5_leastDepth_12 : decode cX5_leastDepth 12 = .ok (.iconst 0, 1) := by decide +kernel
theorem dX5_leastDepth_13 : decode cX5_leastDepth 13 = .ok (.invokevirtual 51, 3) := by decide +kernel
theorem dX5_leastDepth_16 : decode cX5_leastDepth 16 = .ok (.ifCond .ne 5, 3) := by decide +kernel
theorem dX5_leastDepth_19 : decode cX5_leastDepth 19 = .ok (.iconst 0, 1) := by decide +kernel
theorem dX5_leastDepth_20 : decode cX5_leastDepth 20 = .ok (.ireturn, 1) := by decide +kernel
theorem dX5_leastDepth_21 : decode cX5_leastDepth 21 = .ok (.aload_n 0, 1) := by decide +kernel
theorem dX5_leastDepth_22 : decode cX5_leastDepth 22 = .ok (.invokevirtual 113, 3) := by decide +kernel
theorem dX5_leastDepth_25 : decode cX5_leastDepth 25 = .ok (.aload_n 0, 1) := by decide +kernel
theorem dX5_leastDepth_26 : decode cX5_leastDepth 26 = .ok (.getfield 28, 3) := by decide +kernel
theorem dX5_leastDepth_29 : decode cX5_leastDepth 29 = .ok (.aload_n 0, 1) := by decide +kernel
theorem dX5_leastDepth_30 : decode cX5_leastDepth 30 = .ok (.invokevirtual 74, 3) := by decide +kernel
theorem dX5_leastDepth_33 : decode cX5_leastDepth 33 = .ok (.iaload, 1) := by decide +kernel
theorem dX5_leastDepth_34 : decode cX5_leastDepth 34 = .ok (.sipush 1000, 3) := by decide +kernel
theorem dX5_leastDepth_37 : decode cX5_leastDepth 37 = .ok (.if_icmp .ge 15, 3) := by decide +kernel
theorem dX5_leastDepth_40 : decode cX5_leastDepth 40 = .ok (.aload_n 0, 1) := by decide +kernel
theorem dX5_leastDepth_41 : decode cX5_leastDepth 41 = .ok (.getfield 28, 3) := by decide +kernel
theorem dX5_leastDepth_44 : decode cX5_leastDepth 44 = .ok (.aload_n 0, 1) := by decide +kernel
theorem dX5_leastDepth_45 : decode cX5_leastDepth 45 = .ok (.invokevirtual 74, 3) := by decide +kernel
theorem dX5_leastDepth_48 : decode cX5_leastDepth 48 = .ok (.iaload, 1) := by decide +kernel
theorem dX5_leastDepth_49 : decode cX5_leastDepth 49 = .ok (.goto 4, 3) := by decide +kernel
theorem dX5_leastDepth_52 : decode cX5_leastDepth 52 = .ok (.iconst (-1), 1) := by decide +kernel
theorem dX5_leastDepth_53 : decode cX5_leastDepth 53 = .ok (.ireturn, 1) := by decide +kernel
set_option maxRecDepth 20000 in
theorem ggX5_canAdd_X5_isSound : GoodIn wsX5_canAdd wsX5_isSound := goodIn_r _ [5, 6, 7, 8, 9, 4, 10, 11, 12, 13, 14, 15, 16, 17, 18, 19, 20, 21, 22, 27, 28, 29, 30, 31, 32, 33, 34, 35, 36, 37, 38, 39, 40, 41, 42, 43, 44, 45] (by decide +kernel) (by decide +kernel)
set_option maxRecDepth 20000 in
theorem gX5_canAdd_X5_isSound : GoodIn wsX5_canAdd (wsV RX5 98 RX5 yX5_isSound wsX5_isSound) := goodIn_app (goodIn_of _ (by decide +kernel)) ggX5_canAdd_X5_isSound
set_option maxRecDepth 20000 in
theorem ggX5_canAdd_X5_freeOf : GoodIn wsX5_canAdd wsX5_freeOf := goodIn_r _ [26, 22, 27, 28, 29, 30, 31, 32, 33, 34, 35, 36, 37, 38, 39, 40, 41, 42, 43, 44, 45] (by decide +kernel) (by decide +kernel)
set_option maxRecDepth 20000 in
theorem gX5_canAdd_X5_freeOf : GoodIn wsX5_canAdd (wsV RX5 95 RX5 yX5_freeOf wsX5_freeOf) := goodIn_app (goodIn_of _ (by decide +kernel)) ggX5_canAdd_X5_freeOf
theorem dX5_canAdd_0 : decode cX5_canAdd 0 = .ok (.iload_n 1, 1) := by decide +kernel
theorem dX5_canAdd_1 : decode cX5_canAdd 1 = .ok (.iconst 1, 1) := by decide +kernel
theorem dX5_canAdd_2 : decode cX5_canAdd 2 = .ok (.iload_n 2, 1) := by decide +kernel
theorem dX5_canAdd_3 : decode cX5_canAdd 3 = .ok (.ishl, 1) := by decide +kernel
theorem dX5_canAdd_4 : decode cX5_canAdd 4 = .ok (.ior, 1) := by decide +kernel
theorem dX5_canAdd_5 : decode cX5_canAdd 5 = .ok (.istore_n 3, 1) := by decide +kernel
theorem dX5_canAdd_6 : decode cX5_canAdd 6 = .ok (.iload_n 3, 1) := by decide +kernel
theorem dX5_canAdd_7 : decode cX5_canAdd 7 = .ok (.iload_n 1, 1) := by decide +kernel
theorem dX5_canAdd_8 : decode cX5_canAdd 8 = .ok (.if_icmp .eq 32, 3) := by decide +kernel
theorem dX5_canAdd_11 : decode cX5_canAdd 11 = .ok (.aload_n 0, 1) := by decide +kernel
theorem dX5_canAdd_12 : decode cX5_canAdd 12 = .ok (.iload_n 1, 1) := by decide +kernel
theorem dX5_canAdd_13 : decode cX5_canAdd 13 = .ok (.invokevirtual 98, 3) := by decide +kernel
theorem dX5_canAdd_16 : decode cX5_canAdd 16 = .ok (.ifCond .eq 24, 3) := by decide +kernel
theorem dX5_canAdd_19 : decode cX5_canAdd 19 = .ok (.aload_n 0, 1) := by decide +kernel
theorem dX5_canAdd_20 : decode cX5_canAdd 20 = .ok (.iload_n 3, 1) := by decide +kernel
theorem dX5_canAdd_21 : decode cX5_canAdd 21 = .ok (.invokevirtual 98, 3) := by decide +kernel
theorem dX5_canAdd_24 : decode cX5_canAdd 24 = .ok (.ifCond .eq 16, 3) := by decide +kernel
theorem dX5_canAdd_27 : decode cX5_canAdd 27 = .ok (.aload_n 0, 1) := by decide +kernel
theorem dX5_canAdd_28 : decode cX5_canAdd 28 = .ok (.iload_n 3, 1) := by decide +kernel
theorem dX5_canAdd_29 : decode cX5_canAdd 29 = .ok (.iload_n 2, 1) := by decide +kernel
theorem dX5_canAdd_30 : decode cX5_canAdd 30 = .ok (.invokevirtual 95, 3) := by decide +kernel
theorem dX5_canAdd_33 : decode cX5_canAdd 33 = .ok (.ifCond .eq 7, 3) := by decide +kernel
theorem dX5_canAdd_36 : decode cX5_canAdd 36 = .ok (.iconst 1, 1) := by decide +kernel
theorem dX5_canAdd_37 : decode cX5_canAdd 37 = .ok (.goto 4, 3) := by decide +kernel
theorem dX5_canAdd_40 : decode cX5_canAdd 40 = .ok (.iconst 0, 1) := by decide +kernel
theorem dX5_canAdd_41 : decode cX5_canAdd 41 = .ok (.ireturn, 1) := by decide +kernel
set_option maxRecDepth 20000 in
theorem ggX5_orders_X5_holds : GoodIn wsX5_orders wsX5_holds := goodIn_r _ [7, 8, 41, 42, 43, 44, 45, 46, 47, 48, 49, 50, 51, 52, 53, 54, 55, 56, 57, 58, 59] (by decide +kernel) (by decide +kernel)
set_option maxRecDepth 20000 in
theorem gX5_orders_X5_holds : GoodIn wsX5_orders (wsV RX5 51 RX5 yX5_holds wsX5_holds) := goodIn_app (goodIn_of _ (by decide +kernel)) ggX5_orders_X5_holds
set_option maxRecDepth 20000 in
theorem ggX5_orders_X5_whole : GoodIn wsX5_orders wsX5_whole := goodIn_r _ [12, 1, 41, 42, 43, 44, 45, 46, 47, 48, 49, 50, 51, 52, 53, 54, 55, 56, 57, 58, 59] (by decide +kernel) (by decide +kernel)
set_option maxRecDepth 20000 in
theorem gX5_orders_X5_whole : GoodIn wsX5_orders (wsV RX5 74 RX5 yX5_whole wsX5_whole) := goodIn_app (goodIn_of _ (by decide +kernel)) ggX5_orders_X5_whole
set_option maxRecDepth 20000 in
theorem ggX5_orders_X5_canAdd : GoodIn wsX5_orders wsX5_canAdd := goodIn_r _ [16, 17, 18, 19, 6, 20, 21, 22, 23, 24, 25, 26, 27, 28, 29, 1, 30, 31, 32, 33, 34, 35, 36, 37, 38, 39, 40, 41, 42, 43, 44, 45, 46, 47, 48, 49, 50, 51, 52, 53, 54, 55, 56, 57, 58, 59] (by decide +kernel) (by decide +kernel)
set_option maxRecDepth 20000 in
theorem gX5_orders_X5_canAdd : GoodIn wsX5_orders (wsV RX5 116 RX5 yX5_canAdd wsX5_canAdd) := goodIn_app (goodIn_of _ (by decide +kernel)) ggX5_orders_X5_canAdd
theorem dX5_orders_0 : decode cX5_orders 0 = .ok (.aload_n 0, 1) := by decide +kernel
theorem dX5_orders_1 : decode cX5_orders 1 = .ok (.aload_n 0, 1) := by decide +kernel
theorem dX5_orders_2 : decode cX5_orders 2 = .ok (.getfield 44, 3) := by decide +kernel
theorem dX5_orders_5 : decode cX5_orders 5 = .ok (.ifCond .ne 7, 3) := by decide +kernel
theorem dX5_orders_8 : decode cX5_orders 8 = .ok (.iconst 1, 1) := by decide +kernel
theorem dX5_orders_9 : decode cX5_orders 9 = .ok (.goto 4, 3) := by decide +kernel
theorem dX5_orders_12 : decode cX5_orders 12 = .ok (.iconst 0, 1) := by decide +kernel
theorem dX5_orders_13 : decode cX5_orders 13 = .ok (.invokevirtual 51, 3) := by decide +kernel
theorem dX5_orders_16 : decode cX5_orders 16 = .ok (.ifCond .ne 5, 3) := by decide +kernel
theorem dX5_orders_19 : decode cX5_orders 19 = .ok (.iconst 0, 1) := by decide +kernel
theorem dX5_orders_20 : decode cX5_orders 20 = .ok (.ireturn, 1) := by decide +kernel
theorem dX5_orders_21 : decode cX5_orders 21 = .ok (.iconst 0, 1) := by decide +kernel
theorem dX5_orders_22 : decode cX5_orders 22 = .ok (.istore_n 1, 1) := by decide +kernel
theorem dX5_orders_23 : decode cX5_orders 23 = .ok (.iload_n 1, 1) := by decide +kernel
theorem dX5_orders_24 : decode cX5_orders 24 = .ok (.aload_n 0, 1) := by decide +kernel
theorem dX5_orders_25 : decode cX5_orders 25 = .ok (.invokevirtual 74, 3) := by decide +kernel
theorem dX5_orders_28 : decode cX5_orders 28 = .ok (.if_icmp .gt 81, 3) := by decide +kernel
theorem dX5_orders_31 : decode cX5_orders 31 = .ok (.aload_n 0, 1) := by decide +kernel
theorem dX5_orders_32 : decode cX5_orders 32 = .ok (.getfield 31, 3) := by decide +kernel
theorem dX5_orders_35 : decode cX5_orders 35 = .ok (.iload_n 1, 1) := by decide +kernel
theorem dX5_orders_36 : decode cX5_orders 36 = .ok (.iload_n 1, 1) := by decide +kernel
theorem dX5_orders_37 : decode cX5_orders 37 = .ok (.ifCond .ne 7, 3) := by decide +kernel
theorem dX5_orders_40 : decode cX5_orders 40 = .ok (.iconst 1, 1) := by decide +kernel
theorem dX5_orders_41 : decode cX5_orders 41 = .ok (.goto 4, 3) := by decide +kernel
theorem dX5_orders_44 : decode cX5_orders 44 = .ok (.iconst 0, 1) := by decide +kernel
theorem dX5_orders_45 : decode cX5_orders 45 = .ok (.iastore, 1) := by decide +kernel
theorem dX5_orders_46 : decode cX5_orders 46 = .ok (.iconst 0, 1) := by decide +kernel
theorem dX5_orders_47 : decode cX5_orders 47 = .ok (.istore_n 2, 1) := by decide +kernel
theorem dX5_orders_48 : decode cX5_orders 48 = .ok (.iload_n 2, 1) := by decide +kernel
theorem dX5_orders_49 : decode cX5_orders 49 = .ok (.aload_n 0, 1) := by decide +kernel
theorem dX5_orders_50 : decode cX5_orders 50 = .ok (.getfield 44, 3) := by decide +kernel
theorem dX5_orders_53 : decode cX5_orders 53 = .ok (.if_icmp .ge 50, 3) := by decide +kernel
theorem dX5_orders_56 : decode cX5_orders 56 = .ok (.iload_n 1, 1) := by decide +kernel
theorem dX5_orders_57 : decode cX5_orders 57 = .ok (.iconst 1, 1) := by decide +kernel
theorem dX5_orders_58 : decode cX5_orders 58 = .ok (.iload_n 2, 1) := by decide +kernel
theorem dX5_orders_59 : decode cX5_orders 59 = .ok (.ishl, 1) := by decide +kernel
theorem dX5_orders_60 : decode cX5_orders 60 = .ok (.iconst (-1), 1) := by decide +kernel
theorem dX5_orders_61 : decode cX5_orders 61 = .ok (.ixor, 1) := by decide +kernel
theorem dX5_orders_62 : decode cX5_orders 62 = .ok (.iand, 1) := by decide +kernel
theorem dX5_orders_63 : decode cX5_orders 63 = .ok (.istore_n 3, 1) := by decide +kernel
theorem dX5_orders_64 : decode cX5_orders 64 = .ok (.aload_n 0, 1) := by decide +kernel
theorem dX5_orders_65 : decode cX5_orders 65 = .ok (.getfield 31, 3) := by decide +kernel
theorem dX5_orders_68 : decode cX5_orders 68 = .ok (.iload_n 1, 1) := by decide +kernel
theorem dX5_orders_69 : decode cX5_orders 69 = .ok (.dup2, 1) := by decide +kernel
theorem dX5_orders_70 : decode cX5_orders 70 = .ok (.iaload, 1) := by decide +kernel
theorem dX5_orders_71 : decode cX5_orders 71 = .ok (.iload_n 3, 1) := by decide +kernel
theorem dX5_orders_72 : decode cX5_orders 72 = .ok (.iload_n 1, 1) := by decide +kernel
theorem dX5_orders_73 : decode cX5_orders 73 = .ok (.if_icmp .eq 21, 3) := by decide +kernel
theorem dX5_orders_76 : decode cX5_orders 76 = .ok (.aload_n 0, 1) := by decide +kernel
theorem dX5_orders_77 : decode cX5_orders 77 = .ok (.iload_n 3, 1) := by decide +kernel
theorem dX5_orders_78 : decode cX5_orders 78 = .ok (.iload_n 2, 1) := by decide +kernel
theorem dX5_orders_79 : decode cX5_orders 79 = .ok (.invokevirtual 116, 3) := by decide +kernel
theorem dX5_orders_82 : decode cX5_orders 82 = .ok (.ifCond .eq 12, 3) := by decide +kernel
theorem dX5_orders_85 : decode cX5_orders 85 = .ok (.aload_n 0, 1) := by decide +kernel
theorem dX5_orders_86 : decode cX5_orders 86 = .ok (.getfield 31, 3) := by decide +kernel
theorem dX5_orders_89 : decode cX5_orders 89 = .ok (.iload_n 3, 1) := by decide +kernel
theorem dX5_orders_90 : decode cX5_orders 90 = .ok (.iaload, 1) := by decide +kernel
theorem dX5_orders_91 : decode cX5_orders 91 = .ok (.goto 4, 3) := by decide +kernel
theorem dX5_orders_94 : decode cX5_orders 94 = .ok (.iconst 0, 1) := by decide +kernel
theorem dX5_orders_95 : decode cX5_orders 95 = .ok (.iadd, 1) := by decide +kernel
theorem dX5_orders_96 : decode cX5_orders 96 = .ok (.iastore, 1) := by decide +kernel
theorem dX5_orders_97 : decode cX5_orders 97 = .ok (.iinc 2 1, 3) := by decide +kernel
theorem dX5_orders_100 : decode cX5_orders 100 = .ok (.goto (-52), 3) := by decide +kernel
theorem dX5_orders_103 : decode cX5_orders 103 = .ok (.iinc 1 1, 3) := by decide +kernel
theorem dX5_orders_106 : decode cX5_orders 106 = .ok (.goto (-83), 3) := by decide +kernel
theorem dX5_orders_109 : decode cX5_orders 109 = .ok (.aload_n 0, 1) := by decide +kernel
theorem dX5_orders_110 : decode cX5_orders 110 = .ok (.getfield 31, 3) := by decide +kernel
theorem dX5_orders_113 : decode cX5_orders 113 = .ok (.aload_n 0, 1) := by decide +kernel
theorem dX5_orders_114 : decode cX5_orders 114 = .ok (.invokevirtual 74, 3) := by decide +kernel
theorem dX5_orders_117 : decode cX5_orders 117 = .ok (.iaload, 1) := by decide +kernel
theorem dX5_orders_118 : decode cX5_orders 118 = .ok (.ireturn, 1) := by decide +kernel
set_option maxRecDepth 20000 in
theorem ggX5_laysChanges_X5_whole : GoodIn wsX5_laysChanges wsX5_whole := goodIn_r _ [8, 1, 37, 38, 39, 40, 41, 42, 43, 44, 45, 46, 47, 48, 49, 50, 51, 52, 53, 54, 55] (by decide +kernel) (by decide +kernel)
set_option maxRecDepth 20000 in
theorem gX5_laysChanges_X5_whole : GoodIn wsX5_laysChanges (wsV RX5 74 RX5 yX5_whole wsX5_whole) := goodIn_app (goodIn_of _ (by decide +kernel)) ggX5_laysChanges_X5_whole
set_option maxRecDepth 20000 in
theorem ggX5_laysChanges_X5_canAdd : GoodIn wsX5_laysChanges wsX5_canAdd := goodIn_r _ [12, 13, 14, 15, 7, 16, 17, 18, 19, 20, 21, 22, 23, 24, 25, 1, 26, 27, 28, 29, 30, 31, 32, 33, 34, 35, 36, 37, 38, 39, 40, 41, 42, 43, 44, 45, 46, 47, 48, 49, 50, 51, 52, 53, 54, 55] (by decide +kernel) (by decide +kernel)
set_option maxRecDepth 20000 in
theorem gX5_laysChanges_X5_canAdd : GoodIn wsX5_laysChanges (wsV RX5 116 RX5 yX5_canAdd wsX5_canAdd) := goodIn_app (goodIn_of _ (by decide +kernel)) ggX5_laysChanges_X5_canAdd
theorem dX5_laysChanges_0 : decode cX5_laysChanges 0 = .ok (.aload_n 0, 1) := by decide +kernel
theorem dX5_laysChanges_1 : decode cX5_laysChanges 1 = .ok (.invokevirtual 74, 3) := by decide +kernel
theorem dX5_laysChanges_4 : decode cX5_laysChanges 4 = .ok (.istore_n 1, 1) := by decide +kernel
theorem dX5_laysChanges_5 : decode cX5_laysChanges 5 = .ok (.iload_n 1, 1) := by decide +kernel
theorem dX5_laysChanges_6 : decode cX5_laysChanges 6 = .ok (.ifCond .le 206, 3) := by decide +kernel
theorem dX5_laysChanges_9 : decode cX5_laysChanges 9 = .ok (.iconst 0, 1) := by decide +kernel
theorem dX5_laysChanges_10 : decode cX5_laysChanges 10 = .ok (.istore_n 2, 1) := by decide +kernel
theorem dX5_laysChanges_11 : decode cX5_laysChanges 11 = .ok (.iload_n 2, 1) := by decide +kernel
theorem dX5_laysChanges_12 : decode cX5_laysChanges 12 = .ok (.aload_n 0, 1) := by decide +kernel
theorem dX5_laysChanges_13 : decode cX5_laysChanges 13 = .ok (.getfield 44, 3) := by decide +kernel
theorem dX5_laysChanges_16 : decode cX5_laysChanges 16 = .ok (.if_icmp .ge 190, 3) := by decide +kernel
theorem dX5_laysChanges_19 : decode cX5_laysChanges 19 = .ok (.iload_n 1, 1) := by decide +kernel
theorem dX5_laysChanges_20 : decode cX5_laysChanges 20 = .ok (.iload_n 2, 1) := by decide +kernel
theorem dX5_laysChanges_21 : decode cX5_laysChanges 21 = .ok (.ishr, 1) := by decide +kernel
theorem dX5_laysChanges_22 : decode cX5_laysChanges 22 = .ok (.iconst 1, 1) := by decide +kernel
theorem dX5_laysChanges_23 : decode cX5_laysChanges 23 = .ok (.iand, 1) := by decide +kernel
theorem dX5_laysChanges_24 : decode cX5_laysChanges 24 = .ok (.iconst 1, 1) := by decide +kernel
theorem dX5_laysChanges_25 : decode cX5_laysChanges 25 = .ok (.if_icmp .ne 22, 3) := by decide +kernel
theorem dX5_laysChanges_28 : decode cX5_laysChanges 28 = .ok (.aload_n 0, 1) := by decide +kernel
theorem dX5_laysChanges_29 : decode cX5_laysChanges 29 = .ok (.iload_n 1, 1) := by decide +kernel
theorem dX5_laysChanges_30 : decode cX5_laysChanges 30 = .ok (.iconst 1, 1) := by decide +kernel
theorem dX5_laysChanges_31 : decode cX5_laysChanges 31 = .ok (.iload_n 2, 1) := by decide +kernel
theorem dX5_laysChanges_32 : decode cX5_laysChanges 32 = .ok (.ishl, 1) := by decide +kernel
theorem dX5_laysChanges_33 : decode cX5_laysChanges 33 = .ok (.iconst (-1), 1) := by decide +kernel
theorem dX5_laysChanges_34 : decode cX5_laysChanges 34 = .ok (.ixor, 1) := by decide +kernel
theorem dX5_laysChanges_35 : decode cX5_laysChanges 35 = .ok (.iand, 1) := by decide +kernel
theorem dX5_laysChanges_36 : decode cX5_laysChanges 36 = .ok (.iload_n 2, 1) := by decide +kernel
theorem dX5_laysChanges_37 : decode cX5_laysChanges 37 = .ok (.invokevirtual 116, 3) := by decide +kernel
theorem dX5_laysChanges_40 : decode cX5_laysChanges 40 = .ok (.ifCond .eq 7, 3) := by decide +kernel
theorem dX5_laysChanges_43 : decode cX5_laysChanges 43 = .ok (.iconst 1, 1) := by decide +kernel
theorem dX5_laysChanges_44 : decode cX5_laysChanges 44 = .ok (.goto 4, 3) := by decide +kernel
theorem dX5_laysChanges_47 : decode cX5_laysChanges 47 = .ok (.iconst 0, 1) := by decide +kernel
theorem dX5_laysChanges_48 : decode cX5_laysChanges 48 = .ok (.istore_n 3, 1) := by decide +kernel
theorem dX5_laysChanges_49 : decode cX5_laysChanges 49 = .ok (.aload_n 0, 1) := by decide +kernel
theorem dX5_laysChanges_50 : decode cX5_laysChanges 50 = .ok (.getfield 34, 3) := by decide +kernel
theorem dX5_laysChanges_53 : decode cX5_laysChanges 53 = .ok (.bipush 8, 2) := by decide +kernel
theorem dX5_laysChanges_55 : decode cX5_laysChanges 55 = .ok (.iload_n 1, 1) := by decide +kernel
theorem dX5_laysChanges_56 : decode cX5_laysChanges 56 = .ok (.imul, 1) := by decide +kernel
theorem dX5_laysChanges_57 : decode cX5_laysChanges 57 = .ok (.iload_n 2, 1) := by decide +kernel
theorem dX5_laysChanges_58 : decode cX5_laysChanges 58 = .ok (.iadd, 1) := by decide +kernel
theorem dX5_laysChanges_59 : decode cX5_laysChanges 59 = .ok (.iload_n 3, 1) := by decide +kernel
theorem dX5_laysChanges_60 : decode cX5_laysChanges 60 = .ok (.ifCond .ne 9, 3) := by decide +kernel
theorem dX5_laysChanges_63 : decode cX5_laysChanges 63 = .ok (.sipush 1000, 3) := by decide +kernel
theorem dX5_laysChanges_66 : decode cX5_laysChanges 66 = .ok (.goto 18, 3) := by decide +kernel
theorem dX5_laysChanges_69 : decode cX5_laysChanges 69 = .ok (.iload_n 1, 1) := by decide +kernel
theorem dX5_laysChanges_70 : decode cX5_laysChanges 70 = .ok (.aload_n 0, 1) := by decide +kernel
theorem dX5_laysChanges_71 : decode cX5_laysChanges 71 = .ok (.invokevirtual 74, 3) := by decide +kernel
theorem dX5_laysChanges_74 : decode cX5_laysChanges 74 = .ok (.if_icmp .ne 7, 3) := by decide +kernel
theorem dX5_laysChanges_77 : decode cX5_laysChanges 77 = .ok (.iconst 0, 1) := by decide +kernel
theorem dX5_laysChanges_78 : decode cX5_laysChanges 78 = .ok (.goto 6, 3) := by decide +kernel
theorem dX5_laysChanges_81 : decode cX5_laysChanges 81 = .ok (.sipush 1000, 3) := by decide +kernel
theorem dX5_laysChanges_84 : decode cX5_laysChanges 84 = .ok (.iastore, 1) := by decide +kernel
theorem dX5_laysChanges_85 : decode cX5_laysChanges 85 = .ok (.iconst 0, 1) := by decide +kernel
theorem dX5_laysChanges_86 : decode cX5_laysChanges 86 = .ok (.istore 4, 2) := by decide +kernel
theorem dX5_laysChanges_88 : decode cX5_laysChanges 88 = .ok (.iload 4, 2) := by decide +kernel
theorem dX5_laysChanges_90 : decode cX5_laysChanges 90 = .ok (.aload_n 0, 1) := by decide +kernel
theorem dX5_laysChanges_91 : decode cX5_laysChanges 91 = .ok (.getfield 44, 3) := by decide +kernel
theorem dX5_laysChanges_94 : decode cX5_laysChanges 94 = .ok (.if_icmp .ge 106, 3) := by decide +kernel
theorem dX5_laysChanges_97 : decode cX5_laysChanges 97 = .ok (.iload_n 3, 1) := by decide +kernel
theorem dX5_laysChanges_98 : decode cX5_laysChanges 98 = .ok (.ifCond .eq 102, 3) := by decide +kernel
theorem dX5_laysChanges_101 : decode cX5_laysChanges 101 = .ok (.iload_n 1, 1) := by decide +kernel
theorem dX5_laysChanges_102 : decode cX5_laysChanges 102 = .ok (.iload 4, 2) := by decide +kernel
theorem dX5_laysChanges_104 : decode cX5_laysChanges 104 = .ok (.ishr, 1) := by decide +kernel
theorem dX5_laysChanges_105 : decode cX5_laysChanges 105 = .ok (.iconst 1, 1) := by decide +kernel
theorem dX5_laysChanges_106 : decode cX5_laysChanges 106 = .ok (.iand, 1) := by decide +kernel
theorem dX5_laysChanges_107 : decode cX5_laysChanges 107 = .ok (.ifCond .ne 87, 3) := by decide +kernel
theorem dX5_laysChanges_110 : decode cX5_laysChanges 110 = .ok (.aload_n 0, 1) := by decide +kernel
theorem dX5_laysChanges_111 : decode cX5_laysChanges 111 = .ok (.getfield 34, 3) := by decide +kernel
theorem dX5_laysChanges_114 : decode cX5_laysChanges 114 = .ok (.bipush 8, 2) := by decide +kernel
theorem dX5_laysChanges_116 : decode cX5_laysChanges 116 = .ok (.iload_n 1, 1) := by decide +kernel
theorem dX5_laysChanges_117 : decode cX5_laysChanges 117 = .ok (.iconst 1, 1) := by decide +kernel
theorem dX5_laysChanges_118 : decode cX5_laysChanges 118 = .ok (.iload 4, 2) := by decide +kernel
theorem dX5_laysChanges_120 : decode cX5_laysChanges 120 = .ok (.ishl, 1) := by decide +kernel
theorem dX5_laysChanges_121 : decode cX5_laysChanges 121 = .ok (.ior, 1) := by decide +kernel
theorem dX5_laysChanges_122 : decode cX5_laysChanges 122 = .ok (.imul, 1) := by decide +kernel
theorem dX5_laysChanges_123 : decode cX5_laysChanges 123 = .ok (.iload 4, 2) := by decide +kernel
theorem dX5_laysChanges_125 : decode cX5_laysChanges 125 = .ok (.iadd, 1) := by decide +kernel
theorem dX5_laysChanges_126 : decode cX5_laysChanges 126 = .ok (.iaload, 1) := by decide +kernel
theorem dX5_laysChanges_127 : decode cX5_laysChanges 127 = .ok (.aload_n 0, 1) := by decide +kernel
theorem dX5_laysChanges_128 : decode cX5_laysChanges 128 = .ok (.getfield 7, 3) := by decide +kernel
theorem dX5_laysChanges_131 : decode cX5_laysChanges 131 = .ok (.iload 4, 2) := by decide +kernel
theorem dX5_laysChanges_133 : decode cX5_laysChanges 133 = .ok (.iaload, 1) := by decide +kernel
theorem dX5_laysChanges_134 : decode cX5_laysChanges 134 = .ok (.aload_n 0, 1) := by decide +kernel
theorem dX5_laysChanges_135 : decode cX5_laysChanges 135 = .ok (.getfield 7, 3) := by decide +kernel
theorem dX5_laysChanges_138 : decode cX5_laysChanges 138 = .ok (.iload_n 2, 1) := by decide +kernel
theorem dX5_laysChanges_139 : decode cX5_laysChanges 139 = .ok (.iaload, 1) := by decide +kernel
theorem dX5_laysChanges_140 : decode cX5_laysChanges 140 = .ok (.if_icmp .ne 7, 3) := by decide +kernel
theorem dX5_laysChanges_143 : decode cX5_laysChanges 143 = .ok (.iconst 0, 1) := by decide +kernel
theorem dX5_laysChanges_144 : decode cX5_laysChanges 144 = .ok (.goto 4, 3) := by decide +kernel
theorem dX5_laysChanges_147 : decode cX5_laysChanges 147 = .ok (.iconst 1, 1) := by decide +kernel
theorem dX5_laysChanges_148 : decode cX5_laysChanges 148 = .ok (.iadd, 1) := by decide +kernel
theorem dX5_laysChanges_149 : decode cX5_laysChanges 149 = .ok (.istore 5, 2) := by decide +kernel
theorem dX5_laysChanges_151 : decode cX5_laysChanges 151 = .ok (.aload_n 0, 1) := by decide +kernel
theorem dX5_laysChanges_152 : decode cX5_laysChanges 152 = .ok (.getfield 34, 3) := by decide +kernel
theorem dX5_laysChanges_155 : decode cX5_laysChanges 155 = .ok (.bipush 8, 2) := by decide +kernel
theorem dX5_laysChanges_157 : decode cX5_laysChanges 157 = .ok (.iload_n 1, 1) := by decide +kernel
theorem dX5_laysChanges_158 : decode cX5_laysChanges 158 = .ok (.imul, 1) := by decide +kernel
theorem dX5_laysChanges_159 : decode cX5_laysChanges 159 = .ok (.iload_n 2, 1) := by decide +kernel
theorem dX5_laysChanges_160 : decode cX5_laysChanges 160 = .ok (.iadd, 1) := by decide +kernel
theorem dX5_laysChanges_161 : decode cX5_laysChanges 161 = .ok (.iload 5, 2) := by decide +kernel
theorem dX5_laysChanges_163 : decode cX5_laysChanges 163 = .ok (.aload_n 0, 1) := by decide +kernel
theorem dX5_laysChanges_164 : decode cX5_laysChanges 164 = .ok (.getfield 34, 3) := by decide +kernel
theorem dX5_laysChanges_167 : decode cX5_laysChanges 167 = .ok (.bipush 8, 2) := by decide +kernel
theorem dX5_laysChanges_169 : decode cX5_laysChanges 169 = .ok (.iload_n 1, 1) := by decide +kernel
theorem dX5_laysChanges_170 : decode cX5_laysChanges 170 = .ok (.imul, 1) := by decide +kernel
theorem dX5_laysChanges_171 : decode cX5_laysChanges 171 = .ok (.iload_n 2, 1) := by decide +kernel
theorem dX5_laysChanges_172 : decode cX5_laysChanges 172 = .ok (.iadd, 1) := by decide +kernel
theorem dX5_laysChanges_173 : decode cX5_laysChanges 173 = .ok (.iaload, 1) := by decide +kernel
theorem dX5_laysChanges_174 : decode cX5_laysChanges 174 = .ok (.if_icmp .ge 8, 3) := by decide +kernel
theorem dX5_laysChanges_177 : decode cX5_laysChanges 177 = .ok (.iload 5, 2) := by decide +kernel
theorem dX5_laysChanges_179 : decode cX5_laysChanges 179 = .ok (.goto 14, 3) := by decide +kernel
theorem dX5_laysChanges_182 : decode cX5_laysChanges 182 = .ok (.aload_n 0, 1) := by decide +kernel
theorem dX5_laysChanges_183 : decode cX5_laysChanges 183 = .ok (.getfield 34, 3) := by decide +kernel
theorem dX5_laysChanges_186 : decode cX5_laysChanges 186 = .ok (.bipush 8, 2) := by decide +kernel
theorem dX5_laysChanges_188 : decode cX5_laysChanges 188 = .ok (.iload_n 1, 1) := by decide +kernel
theorem dX5_laysChanges_189 : decode cX5_laysChanges 189 = .ok (.imul, 1) := by decide +kernel
theorem dX5_laysChanges_190 : decode cX5_laysChanges 190 = .ok (.iload_n 2, 1) := by decide +kernel
theorem dX5_laysChanges_191 : decode cX5_laysChanges 191 = .ok (.iadd, 1) := by decide +kernel
theorem dX5_laysChanges_192 : decode cX5_laysChanges 192 = .ok (.iaload, 1) := by decide +kernel
theorem dX5_laysChanges_193 : decode cX5_laysChanges 193 = .ok (.iastore, 1) := by decide +kernel
theorem dX5_laysChanges_194 : decode cX5_laysChanges 194 = .ok (.iinc 4 1, 3) := by decide +kernel
theorem dX5_laysChanges_197 : decode cX5_laysChanges 197 = .ok (.goto (-109), 3) := by decide +kernel
theorem dX5_laysChanges_200 : decode cX5_laysChanges 200 = .ok (.iinc 2 1, 3) := by decide +kernel
theorem dX5_laysChanges_203 : decode cX5_laysChanges 203 = .ok (.goto (-192), 3) := by decide +kernel
theorem dX5_laysChanges_206 : decode cX5_laysChanges 206 = .ok (.iinc 1 (-1), 3) := by decide +kernel
theorem dX5_laysChanges_209 : decode cX5_laysChanges 209 = .ok (.goto (-204), 3) := by decide +kernel
theorem dX5_laysChanges_212 : decode cX5_laysChanges 212 = .ok (.return_, 1) := by decide +kernel
set_option maxRecDepth 20000 in
theorem ggX5_best_X5_laysChanges : GoodIn wsX5_best wsX5_laysChanges := goodIn_r _ [9, 1, 2, 3, 10, 11, 12, 8, 13, 14, 15, 16, 17, 18, 19, 20, 21, 22, 23, 24, 25, 26, 27, 28, 29, 30, 31, 32, 33, 34, 35, 36, 37, 38, 39, 40, 41, 42, 43, 44, 45, 46, 47, 48, 49, 50, 51, 52, 53, 54, 55, 56, 57, 58, 59, 60] (by decide +kernel) (by decide +kernel)
set_option maxRecDepth 20000 in
theorem gX5_best_X5_laysChanges : GoodIn wsX5_best (wsV RX5 119 RX5 yX5_laysChanges wsX5_laysChanges) := goodIn_app (goodIn_of _ (by decide +kernel)) ggX5_best_X5_laysChanges
theorem dX5_best_0 : decode cX5_best 0 = .ok (.aload_n 0, 1) := by decide +kernel
theorem dX5_best_1 : decode cX5_best 1 = .ok (.invokevirtual 119, 3) := by decide +kernel
theorem dX5_best_4 : decode cX5_best 4 = .ok (.sipush 1000, 3) := by decide +kernel
theorem dX5_best_7 : decode cX5_best 7 = .ok (.istore_n 1, 1) := by decide +kernel
theorem dX5_best_8 : decode cX5_best 8 = .ok (.iconst 0, 1) := by decide +kernel
theorem dX5_best_9 : decode cX5_best 9 = .ok (.istore_n 2, 1) := by decide +kernel
theorem dX5_best_10 : decode cX5_best 10 = .ok (.iload_n 2, 1) := by decide +kernel
theorem dX5_best_11 : decode cX5_best 11 = .ok (.aload_n 0, 1) := by decide +kernel
theorem dX5_best_12 : decode cX5_best 12 = .ok (.getfield 44, 3) := by decide +kernel
theorem dX5_best_15 : decode cX5_best 15 = .ok (.if_icmp .ge 40, 3) := by decide +kernel
theorem dX5_best_18 : decode cX5_best 18 = .ok (.aload_n 0, 1) := by decide +kernel
theorem dX5_best_19 : decode cX5_best 19 = .ok (.getfield 34, 3) := by decide +kernel
theorem dX5_best_22 : decode cX5_best 22 = .ok (.bipush 8, 2) := by decide +kernel
theorem dX5_best_24 : decode cX5_best 24 = .ok (.iload_n 2, 1) := by decide +kernel
theorem dX5_best_25 : decode cX5_best 25 = .ok (.ishl, 1) := by decide +kernel
theorem dX5_best_26 : decode cX5_best 26 = .ok (.iload_n 2, 1) := by decide +kernel
theorem dX5_best_27 : decode cX5_best 27 = .ok (.ior, 1) := by decide +kernel
theorem dX5_best_28 : decode cX5_best 28 = .ok (.iaload, 1) := by decide +kernel
theorem dX5_best_29 : decode cX5_best 29 = .ok (.iload_n 1, 1) := by decide +kernel
theorem dX5_best_30 : decode cX5_best 30 = .ok (.if_icmp .ge 17, 3) := by decide +kernel
theorem dX5_best_33 : decode cX5_best 33 = .ok (.aload_n 0, 1) := by decide +kernel
theorem dX5_best_34 : decode cX5_best 34 = .ok (.getfield 34, 3) := by decide +kernel
theorem dX5_best_37 : decode cX5_best 37 = .ok (.bipush 8, 2) := by decide +kernel
theorem dX5_best_39 : decode cX5_best 39 = .ok (.iload_n 2, 1) := by decide +kernel
theorem dX5_best_40 : decode cX5_best 40 = .ok (.ishl, 1) := by decide +kernel
theorem dX5_best_41 : decode cX5_best 41 = .ok (.iload_n 2, 1) := by decide +kernel
theorem dX5_best_42 : decode cX5_best 42 = .ok (.ior, 1) := by decide +kernel
theorem dX5_best_43 : decode cX5_best 43 = .ok (.iaload, 1) := by decide +kernel
theorem dX5_best_44 : decode cX5_best 44 = .ok (.goto 4, 3) := by decide +kernel
theorem dX5_best_47 : decode cX5_best 47 = .ok (.iload_n 1, 1) := by decide +kernel
theorem dX5_best_48 : decode cX5_best 48 = .ok (.istore_n 1, 1) := by decide +kernel
theorem dX5_best_49 : decode cX5_best 49 = .ok (.iinc 2 1, 3) := by decide +kernel
theorem dX5_best_52 : decode cX5_best 52 = .ok (.goto (-42), 3) := by decide +kernel
theorem dX5_best_55 : decode cX5_best 55 = .ok (.iload_n 1, 1) := by decide +kernel
theorem dX5_best_56 : decode cX5_best 56 = .ok (.sipush 1000, 3) := by decide +kernel
theorem dX5_best_59 : decode cX5_best 59 = .ok (.if_icmp .lt 5, 3) := by decide +kernel
theorem dX5_best_62 : decode cX5_best 62 = .ok (.iconst (-1), 1) := by decide +kernel
theorem dX5_best_63 : decode cX5_best 63 = .ok (.ireturn, 1) := by decide +kernel
theorem dX5_best_64 : decode cX5_best 64 = .ok (.iconst 0, 1) := by decide +kernel
theorem dX5_best_65 : decode cX5_best 65 = .ok (.istore_n 2, 1) := by decide +kernel
theorem dX5_best_66 : decode cX5_best 66 = .ok (.iload_n 1, 1) := by decide +kernel
theorem dX5_best_67 : decode cX5_best 67 = .ok (.istore_n 3, 1) := by decide +kernel
theorem dX5_best_68 : decode cX5_best 68 = .ok (.iconst 0, 1) := by decide +kernel
theorem dX5_best_69 : decode cX5_best 69 = .ok (.istore 4, 2) := by decide +kernel
theorem dX5_best_71 : decode cX5_best 71 = .ok (.iload 4, 2) := by decide +kernel
theorem dX5_best_73 : decode cX5_best 73 = .ok (.aload_n 0, 1) := by decide +kernel
theorem dX5_best_74 : decode cX5_best 74 = .ok (.getfield 44, 3) := by decide +kernel
theorem dX5_best_77 : decode cX5_best 77 = .ok (.if_icmp .ge 155, 3) := by decide +kernel
theorem dX5_best_80 : decode cX5_best 80 = .ok (.iconst (-1), 1) := by decide +kernel
theorem dX5_best_81 : decode cX5_best 81 = .ok (.istore 5, 2) := by decide +kernel
theorem dX5_best_83 : decode cX5_best 83 = .ok (.aload_n 0, 1) := by decide +kernel
theorem dX5_best_84 : decode cX5_best 84 = .ok (.getfield 44, 3) := by decide +kernel
theorem dX5_best_87 : decode cX5_best 87 = .ok (.iconst 1, 1) := by decide +kernel
theorem dX5_best_88 : decode cX5_best 88 = .ok (.isub, 1) := by decide +kernel
theorem dX5_best_89 : decode cX5_best 89 = .ok (.istore 6, 2) := by decide +kernel
theorem dX5_best_91 : decode cX5_best 91 = .ok (.iload 6, 2) := by decide +kernel
theorem dX5_best_93 : decode cX5_best 93 = .ok (.ifCond .lt 99, 3) := by decide +kernel
theorem dX5_best_96 : decode cX5_best 96 = .ok (.iload 4, 2) := by decide +kernel
theorem dX5_best_98 : decode cX5_best 98 = .ok (.ifCond .le 31, 3) := by decide +kernel
theorem dX5_best_101 : decode cX5_best 101 = .ok (.aload_n 0, 1) := by decide +kernel
theorem dX5_best_102 : decode cX5_best 102 = .ok (.getfield 7, 3) := by decide +kernel
theorem dX5_best_105 : decode cX5_best 105 = .ok (.aload_n 0, 1) := by decide +kernel
theorem dX5_best_106 : decode cX5_best 106 = .ok (.getfield 37, 3) := by decide +kernel
theorem dX5_best_109 : decode cX5_best 109 = .ok (.iload 4, 2) := by decide +kernel
theorem dX5_best_111 : decode cX5_best 111 = .ok (.iconst 1, 1) := by decide +kernel
theorem dX5_best_112 : decode cX5_best 112 = .ok (.isub, 1) := by decide +kernel
theorem dX5_best_113 : decode cX5_best 113 = .ok (.iaload, 1) := by decide +kernel
theorem dX5_best_114 : decode cX5_best 114 = .ok (.iaload, 1) := by decide +kernel
theorem dX5_best_115 : decode cX5_best 115 = .ok (.aload_n 0, 1) := by decide +kernel
theorem dX5_best_116 : decode cX5_best 116 = .ok (.getfield 7, 3) := by decide +kernel
theorem dX5_best_119 : decode cX5_best 119 = .ok (.iload 6, 2) := by decide +kernel
theorem dX5_best_121 : decode cX5_best 121 = .ok (.iaload, 1) := by decide +kernel
theorem dX5_best_122 : decode cX5_best 122 = .ok (.if_icmp .eq 7, 3) := by decide +kernel
theorem dX5_best_125 : decode cX5_best 125 = .ok (.iconst 1, 1) := by decide +kernel
theorem dX5_best_126 : decode cX5_best 126 = .ok (.goto 4, 3) := by decide +kernel
theorem dX5_best_129 : decode cX5_best 129 = .ok (.iconst 0, 1) := by decide +kernel
theorem dX5_best_130 : decode cX5_best 130 = .ok (.istore 7, 2) := by decide +kernel
theorem dX5_best_132 : decode cX5_best 132 = .ok (.iload_n 2, 1) := by decide +kernel
theorem dX5_best_133 : decode cX5_best 133 = .ok (.iload 6, 2) := by decide +kernel
theorem dX5_best_135 : decode cX5_best 135 = .ok (.ishr, 1) := by decide +kernel
theorem dX5_best_136 : decode cX5_best 136 = .ok (.iconst 1, 1) := by decide +kernel
theorem dX5_best_137 : decode cX5_best 137 = .ok (.iand, 1) := by decide +kernel
theorem dX5_best_138 : decode cX5_best 138 = .ok (.ifCond .ne 31, 3) := by decide +kernel
theorem dX5_best_141 : decode cX5_best 141 = .ok (.aload_n 0, 1) := by decide +kernel
theorem dX5_best_142 : decode cX5_best 142 = .ok (.getfield 34, 3) := by decide +kernel
theorem dX5_best_145 : decode cX5_best 145 = .ok (.bipush 8, 2) := by decide +kernel
theorem dX5_best_147 : decode cX5_best 147 = .ok (.iload_n 2, 1) := by decide +kernel
theorem dX5_best_148 : decode cX5_best 148 = .ok (.iconst 1, 1) := by decide +kernel
theorem dX5_best_149 : decode cX5_best 149 = .ok (.iload 6, 2) := by decide +kernel
theorem dX5_best_151 : decode cX5_best 151 = .ok (.ishl, 1) := by decide +kernel
theorem dX5_best_152 : decode cX5_best 152 = .ok (.ior, 1) := by decide +kernel
theorem dX5_best_153 : decode cX5_best 153 = .ok (.imul, 1) := by decide +kernel
theorem dX5_best_154 : decode cX5_best 154 = .ok (.iload 6, 2) := by decide +kernel
theorem dX5_best_156 : decode cX5_best 156 = .ok (.iadd, 1) := by decide +kernel
theorem dX5_best_157 : decode cX5_best 157 = .ok (.iaload, 1) := by decide +kernel
theorem dX5_best_158 : decode cX5_best 158 = .ok (.iload 7, 2) := by decide +kernel
theorem dX5_best_160 : decode cX5_best 160 = .ok (.iadd, 1) := by decide +kernel
theorem dX5_best_161 : decode cX5_best 161 = .ok (.iload_n 3, 1) := by decide +kernel
theorem dX5_best_162 : decode cX5_best 162 = .ok (.if_icmp .ne 7, 3) := by decide +kernel
theorem dX5_best_165 : decode cX5_best 165 = .ok (.iconst 1, 1) := by decide +kernel
theorem dX5_best_166 : decode cX5_best 166 = .ok (.goto 4, 3) := by decide +kernel
theorem dX5_best_169 : decode cX5_best 169 = .ok (.iconst 0, 1) := by decide +kernel
theorem dX5_best_170 : decode cX5_best 170 = .ok (.istore 8, 2) := by decide +kernel
theorem dX5_best_172 : decode cX5_best 172 = .ok (.iload 8, 2) := by decide +kernel
theorem dX5_best_174 : decode cX5_best 174 = .ok (.ifCond .eq 8, 3) := by decide +kernel
theorem dX5_best_177 : decode cX5_best 177 = .ok (.iload 6, 2) := by decide +kernel
theorem dX5_best_179 : decode cX5_best 179 = .ok (.goto 5, 3) := by decide +kernel
theorem dX5_best_182 : decode cX5_best 182 = .ok (.iload 5, 2) := by decide +kernel
theorem dX5_best_184 : decode cX5_best 184 = .ok (.istore 5, 2) := by decide +kernel
theorem dX5_best_186 : decode cX5_best 186 = .ok (.iinc 6 (-1), 3) := by decide +kernel
theorem dX5_best_189 : decode cX5_best 189 = .ok (.goto (-98), 3) := by decide +kernel
theorem dX5_best_192 : decode cX5_best 192 = .ok (.aload_n 0, 1) := by decide +kernel
theorem dX5_best_193 : decode cX5_best 193 = .ok (.getfield 34, 3) := by decide +kernel
theorem dX5_best_196 : decode cX5_best 196 = .ok (.bipush 8, 2) := by decide +kernel
theorem dX5_best_198 : decode cX5_best 198 = .ok (.iload_n 2, 1) := by decide +kernel
theorem dX5_best_199 : decode cX5_best 199 = .ok (.iconst 1, 1) := by decide +kernel
theorem dX5_best_200 : decode cX5_best 200 = .ok (.iload 5, 2) := by decide +kernel
theorem dX5_best_202 : decode cX5_best 202 = .ok (.ishl, 1) := by decide +kernel
theorem dX5_best_203 : decode cX5_best 203 = .ok (.ior, 1) := by decide +kernel
theorem dX5_best_204 : decode cX5_best 204 = .ok (.imul, 1) := by decide +kernel
theorem dX5_best_205 : decode cX5_best 205 = .ok (.iload 5, 2) := by decide +kernel
theorem dX5_best_207 : decode cX5_best 207 = .ok (.iadd, 1) := by decide +kernel
theorem dX5_best_208 : decode cX5_best 208 = .ok (.iaload, 1) := by decide +kernel
theorem dX5_best_209 : decode cX5_best 209 = .ok (.istore_n 3, 1) := by decide +kernel
theorem dX5_best_210 : decode cX5_best 210 = .ok (.iload_n 2, 1) := by decide +kernel
theorem dX5_best_211 : decode cX5_best 211 = .ok (.iconst 1, 1) := by decide +kernel
theorem dX5_best_212 : decode cX5_best 212 = .ok (.iload 5, 2) := by decide +kernel
theorem dX5_best_214 : decode cX5_best 214 = .ok (.ishl, 1) := by decide +kernel
theorem dX5_best_215 : decode cX5_best 215 = .ok (.ior, 1) := by decide +kernel
theorem dX5_best_216 : decode cX5_best 216 = .ok (.istore_n 2, 1) := by decide +kernel
theorem dX5_best_217 : decode cX5_best 217 = .ok (.aload_n 0, 1) := by decide +kernel
theorem dX5_best_218 : decode cX5_best 218 = .ok (.getfield 37, 3) := by decide +kernel
theorem dX5_best_221 : decode cX5_best 221 = .ok (.iload 4, 2) := by decide +kernel
theorem dX5_best_223 : decode cX5_best 223 = .ok (.iload 5, 2) := by decide +kernel
theorem dX5_best_225 : decode cX5_best 225 = .ok (.iastore, 1) := by decide +kernel
theorem dX5_best_226 : decode cX5_best 226 = .ok (.iinc 4 1, 3) := by decide +kernel
theorem dX5_best_229 : decode cX5_best 229 = .ok (.goto (-158), 3) := by decide +kernel
theorem dX5_best_232 : decode cX5_best 232 = .ok (.iload_n 1, 1) := by decide +kernel
theorem dX5_best_233 : decode cX5_best 233 = .ok (.ireturn, 1) := by decide +kernel
set_option maxRecDepth 20000 in
theorem ggX5_fewestChanges_X5_holds : GoodIn wsX5_fewestChanges wsX5_holds := goodIn_r _ [6, 7, 51, 52, 53, 54, 55, 56, 57, 58, 59, 60, 61, 62, 63, 64, 65, 66, 67, 68, 69] (by decide +kernel) (by decide +kernel)
set_option maxRecDepth 20000 in
theorem gX5_fewestChanges_X5_holds : GoodIn wsX5_fewestChanges (wsV RX5 51 RX5 yX5_holds wsX5_holds) := goodIn_app (goodIn_of _ (by decide +kernel)) ggX5_fewestChanges_X5_holds
set_option maxRecDepth 20000 in
theorem ggX5_fewestChanges_X5_best : GoodIn wsX5_fewestChanges wsX5_best := goodIn_r _ [11, 1, 12, 13, 14, 15, 16, 17, 5, 18, 19, 20, 21, 22, 23, 24, 25, 26, 27, 28, 29, 30, 31, 32, 33, 34, 35, 36, 37, 38, 39, 40, 41, 42, 43, 44, 45, 46, 47, 48, 49, 50, 51, 52, 53, 54, 55, 56, 57, 58, 59, 60, 61, 62, 63, 64, 65, 66, 67, 68, 69] (by decide +kernel) (by decide +kernel)
set_option maxRecDepth 20000 in
theorem gX5_fewestChanges_X5_best : GoodIn wsX5_fewestChanges (wsV RX5 122 RX5 yX5_best wsX5_best) := goodIn_app (goodIn_of _ (by decide +kernel)) ggX5_fewestChanges_X5_best
theorem dX5_fewestChanges_0 : decode cX5_fewestChanges 0 = .ok (.aload_n 0, 1) := by decide +kernel
theorem dX5_fewestChanges_1 : decode cX5_fewestChanges 1 = .ok (.aload_n 0, 1) := by decide +kernel
theorem dX5_fewestChanges_2 : decode cX5_fewestChanges 2 = .ok (.getfield 44, 3) := by decide +kernel
theorem dX5_fewestChanges_5 : decode cX5_fewestChanges 5 = .ok (.ifCond .ne 7, 3) := by decide +kernel
theorem dX5_fewestChanges_8 : decode cX5_fewestChanges 8 = .ok (.iconst 1, 1) := by decide +kernel
theorem dX5_fewestChanges_9 : decode cX5_fewestChanges 9 = .ok (.goto 4, 3) := by decide +kernel
theorem dX5_fewestChanges_12 : decode cX5_fewestChanges 12 = .ok (.iconst 0, 1) := by decide +kernel
theorem dX5_fewestChanges_13 : decode cX5_fewestChanges 13 = .ok (.invokevirtual 51, 3) := by decide +kernel
theorem dX5_fewestChanges_16 : decode cX5_fewestChanges 16 = .ok (.ifCond .eq 10, 3) := by decide +kernel
theorem dX5_fewestChanges_19 : decode cX5_fewestChanges 19 = .ok (.aload_n 0, 1) := by decide +kernel
theorem dX5_fewestChanges_20 : decode cX5_fewestChanges 20 = .ok (.invokevirtual 122, 3) := by decide +kernel
theorem dX5_fewestChanges_23 : decode cX5_fewestChanges 23 = .ok (.goto 4, 3) := by decide +kernel
theorem dX5_fewestChanges_26 : decode cX5_fewestChanges 26 = .ok (.iconst 0, 1) := by decide +kernel
theorem dX5_fewestChanges_27 : decode cX5_fewestChanges 27 = .ok (.ireturn, 1) := by decide +kernel
set_option maxRecDepth 20000 in
theorem ggX5_fewestByListing_X5_holds : GoodIn wsX5_fewestByListing wsX5_holds := goodIn_r _ [6, 7, 51, 52, 53, 54, 55, 56, 57, 58, 59, 60, 61, 62, 63, 64, 65, 66, 67, 68, 69] (by decide +kernel) (by decide +kernel)
set_option maxRecDepth 20000 in
theorem gX5_fewestByListing_X5_holds : GoodIn wsX5_fewestByListing (wsV RX5 51 RX5 yX5_holds wsX5_holds) := goodIn_app (goodIn_of _ (by decide +kernel)) ggX5_fewestByListing_X5_holds
set_option maxRecDepth 20000 in
theorem ggX5_fewestByListing_X5_best : GoodIn wsX5_fewestByListing wsX5_best := goodIn_r _ [11, 1, 12, 13, 14, 15, 16, 17, 5, 18, 19, 20, 21, 22, 23, 24, 25, 26, 27, 28, 29, 30, 31, 32, 33, 34, 35, 36, 37, 38, 39, 40, 41, 42, 43, 44, 45, 46, 47, 48, 49, 50, 51, 52, 53, 54, 55, 56, 57, 58, 59, 60, 61, 62, 63, 64, 65, 66, 67, 68, 69] (by decide +kernel) (by decide +kernel)
set_option maxRecDepth 20000 in
theorem gX5_fewestByListing_X5_best : GoodIn wsX5_fewestByListing (wsV RX5 122 RX5 yX5_best wsX5_best) := goodIn_app (goodIn_of _ (by decide +kernel)) ggX5_fewestByListing_X5_best
theorem dX5_fewestByListing_0 : decode cX5_fewestByListing 0 = .ok (.aload_n 0, 1) := by decide +kernel
theorem dX5_fewestByListing_1 : decode cX5_fewestByListing 1 = .ok (.aload_n 0, 1) := by decide +kernel
theorem dX5_fewestByListing_2 : decode cX5_fewestByListing 2 = .ok (.getfield 44, 3) := by decide +kernel
theorem dX5_fewestByListing_5 : decode cX5_fewestByListing 5 = .ok (.ifCond .eq 12, 3) := by decide +kernel
theorem dX5_fewestByListing_8 : decode cX5_fewestByListing 8 = .ok (.aload_n 0, 1) := by decide +kernel
theorem dX5_fewestByListing_9 : decode cX5_fewestByListing 9 = .ok (.getfield 44, 3) := by decide +kernel
theorem dX5_fewestByListing_12 : decode cX5_fewestByListing 12 = .ok (.bipush 7, 2) := by decide +kernel
theorem dX5_fewestByListing_14 : decode cX5_fewestByListing 14 = .ok (.if_icmp .le 7, 3) := by decide +kernel
theorem dX5_fewestByListing_17 : decode cX5_fewestByListing 17 = .ok (.iconst 1, 1) := by decide +kernel
theorem dX5_fewestByListing_18 : decode cX5_fewestByListing 18 = .ok (.goto 4, 3) := by decide +kernel
theorem dX5_fewestByListing_21 : decode cX5_fewestByListing 21 = .ok (.iconst 0, 1) := by decide +kernel
theorem dX5_fewestByListing_22 : decode cX5_fewestByListing 22 = .ok (.invokevirtual 51, 3) := by decide +kernel
theorem dX5_fewestByListing_25 : decode cX5_fewestByListing 25 = .ok (.ifCond .eq 10, 3) := by decide +kernel
theorem dX5_fewestByListing_28 : decode cX5_fewestByListing 28 = .ok (.aload_n 0, 1) := by decide +kernel
theorem dX5_fewestByListing_29 : decode cX5_fewestByListing 29 = .ok (.invokevirtual 122, 3) := by decide +kernel
theorem dX5_fewestByListing_32 : decode cX5_fewestByListing 32 = .ok (.goto 4, 3) := by decide +kernel
theorem dX5_fewestByListing_35 : decode cX5_fewestByListing 35 = .ok (.iconst 0, 1) := by decide +kernel
theorem dX5_fewestByListing_36 : decode cX5_fewestByListing 36 = .ok (.ireturn, 1) := by decide +kernel
set_option maxRecDepth 20000 in
theorem ggX5_orderAt_X5_best : GoodIn wsX5_orderAt wsX5_best := goodIn_r _ [7, 1, 8, 9, 2, 10, 11, 12, 6, 13, 14, 15, 16, 17, 18, 19, 20, 21, 22, 23, 24, 25, 26, 27, 28, 29, 30, 31, 32, 33, 34, 35, 36, 37, 38, 39, 40, 41, 42, 43, 44, 45, 51, 52, 53, 54, 55, 56, 57, 58, 59, 60, 61, 62, 63, 64, 65, 66, 67, 68, 69] (by decide +kernel) (by decide +kernel)
set_option maxRecDepth 20000 in
theorem gX5_orderAt_X5_best : GoodIn wsX5_orderAt (wsV RX5 122 RX5 yX5_best wsX5_best) := goodIn_app (goodIn_of _ (by decide +kernel)) ggX5_orderAt_X5_best
set_option maxRecDepth 20000 in
theorem ggX5_orderAt_X5_holds : GoodIn wsX5_orderAt wsX5_holds := goodIn_r _ [49, 50, 51, 52, 53, 54, 55, 56, 57, 58, 59, 60, 61, 62, 63, 64, 65, 66, 67, 68, 69] (by decide +kernel) (by decide +kernel)
set_option maxRecDepth 20000 in
theorem gX5_orderAt_X5_holds : GoodIn wsX5_orderAt (wsV RX5 51 RX5 yX5_holds wsX5_holds) := goodIn_app (goodIn_of _ (by decide +kernel)) ggX5_orderAt_X5_holds
theorem dX5_orderAt_0 : decode cX5_orderAt 0 = .ok (.iload_n 1, 1) := by decide +kernel
theorem dX5_orderAt_1 : decode cX5_orderAt 1 = .ok (.ifCond .lt 23, 3) := by decide +kernel
theorem dX5_orderAt_4 : decode cX5_orderAt 4 = .ok (.iload_n 1, 1) := by decide +kernel
theorem dX5_orderAt_5 : decode cX5_orderAt 5 = .ok (.aload_n 0, 1) := by decide +kernel
theorem dX5_orderAt_6 : decode cX5_orderAt 6 = .ok (.getfield 44, 3) := by decide +kernel
theorem dX5_orderAt_9 : decode cX5_orderAt 9 = .ok (.if_icmp .ge 15, 3) := by decide +kernel
theorem dX5_orderAt_12 : decode cX5_orderAt 12 = .ok (.aload_n 0, 1) := by decide +kernel
theorem dX5_orderAt_13 : decode cX5_orderAt 13 = .ok (.invokevirtual 122, 3) := by decide +kernel
theorem dX5_orderAt_16 : decode cX5_orderAt 16 = .ok (.iconst (-1), 1) := by decide +kernel
theorem dX5_orderAt_17 : decode cX5_orderAt 17 = .ok (.if_icmp .eq 7, 3) := by decide +kernel
theorem dX5_orderAt_20 : decode cX5_orderAt 20 = .ok (.iconst 1, 1) := by decide +kernel
theorem dX5_orderAt_21 : decode cX5_orderAt 21 = .ok (.goto 4, 3) := by decide +kernel
theorem dX5_orderAt_24 : decode cX5_orderAt 24 = .ok (.iconst 0, 1) := by decide +kernel
theorem dX5_orderAt_25 : decode cX5_orderAt 25 = .ok (.istore_n 2, 1) := by decide +kernel
theorem dX5_orderAt_26 : decode cX5_orderAt 26 = .ok (.aload_n 0, 1) := by decide +kernel
theorem dX5_orderAt_27 : decode cX5_orderAt 27 = .ok (.iload_n 2, 1) := by decide +kernel
theorem dX5_orderAt_28 : decode cX5_orderAt 28 = .ok (.ifCond .eq 7, 3) := by decide +kernel
theorem dX5_orderAt_31 : decode cX5_orderAt 31 = .ok (.iconst 0, 1) := by decide +kernel
theorem dX5_orderAt_32 : decode cX5_orderAt 32 = .ok (.goto 4, 3) := by decide +kernel
theorem dX5_orderAt_35 : decode cX5_orderAt 35 = .ok (.iconst 1, 1) := by decide +kernel
theorem dX5_orderAt_36 : decode cX5_orderAt 36 = .ok (.invokevirtual 51, 3) := by decide +kernel
theorem dX5_orderAt_39 : decode cX5_orderAt 39 = .ok (.ifCond .eq 12, 3) := by decide +kernel
theorem dX5_orderAt_42 : decode cX5_orderAt 42 = .ok (.aload_n 0, 1) := by decide +kernel
theorem dX5_orderAt_43 : decode cX5_orderAt 43 = .ok (.getfield 37, 3) := by decide +kernel
theorem dX5_orderAt_46 : decode cX5_orderAt 46 = .ok (.iload_n 1, 1) := by decide +kernel
theorem dX5_orderAt_47 : decode cX5_orderAt 47 = .ok (.iaload, 1) := by decide +kernel
theorem dX5_orderAt_48 : decode cX5_orderAt 48 = .ok (.goto 4, 3) := by decide +kernel
theorem dX5_orderAt_51 : decode cX5_orderAt 51 = .ok (.iconst 0, 1) := by decide +kernel
theorem dX5_orderAt_52 : decode cX5_orderAt 52 = .ok (.ireturn, 1) := by decide +kernel
set_option maxRecDepth 20000 in
theorem ggX5_setJams_X5_isPart : GoodIn wsX5_setJams wsX5_isPart := goodIn_r _ [6, 7, 13, 14, 15, 16, 17, 18, 19, 20, 21, 22, 23, 24, 25, 26, 27, 28, 29, 30, 31] (by decide +kernel) (by decide +kernel)
set_option maxRecDepth 20000 in
theorem gX5_setJams_X5_isPart : GoodIn wsX5_setJams (wsV RX5 58 RX5 yX5_isPart wsX5_isPart) := goodIn_app (goodIn_of _ (by decide +kernel)) ggX5_setJams_X5_isPart
set_option maxRecDepth 20000 in
theorem ggX5_setJams_X5_holds : GoodIn wsX5_setJams wsX5_holds := goodIn_r _ [11, 12, 13, 14, 15, 16, 17, 18, 19, 20, 21, 22, 23, 24, 25, 26, 27, 28, 29, 30, 31] (by decide +kernel) (by decide +kernel)
set_option maxRecDepth 20000 in
theorem gX5_setJams_X5_holds : GoodIn wsX5_setJams (wsV RX5 51 RX5 yX5_holds wsX5_holds) := goodIn_app (goodIn_of _ (by decide +kernel)) ggX5_setJams_X5_holds
theorem dX5_setJams_0 : decode cX5_setJams 0 = .ok (.aload_n 0, 1) := by decide +kernel
theorem dX5_setJams_1 : decode cX5_setJams 1 = .ok (.aload_n 0, 1) := by decide +kernel
theorem dX5_setJams_2 : decode cX5_setJams 2 = .ok (.iload_n 1, 1) := by decide +kernel
theorem dX5_setJams_3 : decode cX5_setJams 3 = .ok (.invokevirtual 58, 3) := by decide +kernel
theorem dX5_setJams_6 : decode cX5_setJams 6 = .ok (.ifCond .ne 7, 3) := by decide +kernel
theorem dX5_setJams_9 : decode cX5_setJams 9 = .ok (.iconst 1, 1) := by decide +kernel
theorem dX5_setJams_10 : decode cX5_setJams 10 = .ok (.goto 17, 3) := by decide +kernel
theorem dX5_setJams_13 : decode cX5_setJams 13 = .ok (.iload_n 2, 1) := by decide +kernel
theorem dX5_setJams_14 : decode cX5_setJams 14 = .ok (.ifCond .lt 8, 3) := by decide +kernel
theorem dX5_setJams_17 : decode cX5_setJams 17 = .ok (.iload_n 2, 1) := by decide +kernel
theorem dX5_setJams_18 : decode cX5_setJams 18 = .ok (.iconst 5, 1) := by decide +kernel
theorem dX5_setJams_19 : decode cX5_setJams 19 = .ok (.if_icmp .le 7, 3) := by decide +kernel
theorem dX5_setJams_22 : decode cX5_setJams 22 = .ok (.iconst 2, 1) := by decide +kernel
theorem dX5_setJams_23 : decode cX5_setJams 23 = .ok (.goto 4, 3) := by decide +kernel
theorem dX5_setJams_26 : decode cX5_setJams 26 = .ok (.iconst 0, 1) := by decide +kernel
theorem dX5_setJams_27 : decode cX5_setJams 27 = .ok (.invokevirtual 51, 3) := by decide +kernel
theorem dX5_setJams_30 : decode cX5_setJams 30 = .ok (.ifCond .ne 5, 3) := by decide +kernel
theorem dX5_setJams_33 : decode cX5_setJams 33 = .ok (.iconst 0, 1) := by decide +kernel
theorem dX5_setJams_34 : decode cX5_setJams 34 = .ok (.ireturn, 1) := by decide +kernel
theorem dX5_setJams_35 : decode cX5_setJams 35 = .ok (.aload_n 0, 1) := by decide +kernel
theorem dX5_setJams_36 : decode cX5_setJams 36 = .ok (.getfield 19, 3) := by decide +kernel
theorem dX5_setJams_39 : decode cX5_setJams 39 = .ok (.iload_n 1, 1) := by decide +kernel
theorem dX5_setJams_40 : decode cX5_setJams 40 = .ok (.iaload, 1) := by decide +kernel
theorem dX5_setJams_41 : decode cX5_setJams 41 = .ok (.istore_n 3, 1) := by decide +kernel
theorem dX5_setJams_42 : decode cX5_setJams 42 = .ok (.aload_n 0, 1) := by decide +kernel
theorem dX5_setJams_43 : decode cX5_setJams 43 = .ok (.getfield 19, 3) := by decide +kernel
theorem dX5_setJams_46 : decode cX5_setJams 46 = .ok (.iload_n 1, 1) := by decide +kernel
theorem dX5_setJams_47 : decode cX5_setJams 47 = .ok (.iload_n 2, 1) := by decide +kernel
theorem dX5_setJams_48 : decode cX5_setJams 48 = .ok (.iastore, 1) := by decide +kernel
theorem dX5_setJams_49 : decode cX5_setJams 49 = .ok (.iload_n 3, 1) := by decide +kernel
theorem dX5_setJams_50 : decode cX5_setJams 50 = .ok (.ireturn, 1) := by decide +kernel
set_option maxRecDepth 20000 in
theorem ggX5_begin_X5_best : GoodIn wsX5_begin wsX5_best := goodIn_r _ [12, 1, 13, 14, 15, 16, 17, 18, 11, 19, 20, 21, 22, 23, 24, 25, 26, 27, 28, 29, 30, 31, 32, 33, 34, 35, 36, 37, 38, 39, 40, 41, 42, 43, 44, 45, 46, 47, 48, 49, 50, 51, 57, 58, 59, 60, 61, 62, 63, 64, 65, 66, 67, 68, 69, 70, 71, 72, 73, 74, 75] (by decide +kernel) (by decide +kernel)
set_option maxRecDepth 20000 in
theorem gX5_begin_X5_best : GoodIn wsX5_begin (wsV RX5 122 RX5 yX5_best wsX5_best) := goodIn_app (goodIn_of _ (by decide +kernel)) ggX5_begin_X5_best
set_option maxRecDepth 20000 in
theorem ggX5_begin_X5_holds : GoodIn wsX5_begin wsX5_holds := goodIn_r _ [55, 56, 57, 58, 59, 60, 61, 62, 63, 64, 65, 66, 67, 68, 69, 70, 71, 72, 73, 74, 75] (by decide +kernel) (by decide +kernel)
set_option maxRecDepth 20000 in
theorem gX5_begin_X5_holds : GoodIn wsX5_begin (wsV RX5 51 RX5 yX5_holds wsX5_holds) := goodIn_app (goodIn_of _ (by decide +kernel)) ggX5_begin_X5_holds
theorem dX5_begin_0 : decode cX5_begin 0 = .ok (.aload_n 0, 1) := by decide +kernel
theorem dX5_begin_1 : decode cX5_begin 1 = .ok (.aload_n 0, 1) := by decide +kernel
theorem dX5_begin_2 : decode cX5_begin 2 = .ok (.getfield 44, 3) := by decide +kernel
theorem dX5_begin_5 : decode cX5_begin 5 = .ok (.ifCond .eq 11, 3) := by decide +kernel
theorem dX5_begin_8 : decode cX5_begin 8 = .ok (.aload_n 0, 1) := by decide +kernel
theorem dX5_begin_9 : decode cX5_begin 9 = .ok (.invokevirtual 122, 3) := by decide +kernel
theorem dX5_begin_12 : decode cX5_begin 12 = .ok (.iconst (-1), 1) := by decide +kernel
theorem dX5_begin_13 : decode cX5_begin 13 = .ok (.if_icmp .ne 7, 3) := by decide +kernel
theorem dX5_begin_16 : decode cX5_begin 16 = .ok (.iconst 1, 1) := by decide +kernel
theorem dX5_begin_17 : decode cX5_begin 17 = .ok (.goto 4, 3) := by decide +kernel
theorem dX5_begin_20 : decode cX5_begin 20 = .ok (.iconst 0, 1) := by decide +kernel
theorem dX5_begin_21 : decode cX5_begin 21 = .ok (.invokevirtual 51, 3) := by decide +kernel
theorem dX5_begin_24 : decode cX5_begin 24 = .ok (.ifCond .ne 5, 3) := by decide +kernel
theorem dX5_begin_27 : decode cX5_begin 27 = .ok (.iconst 0, 1) := by decide +kernel
theorem dX5_begin_28 : decode cX5_begin 28 = .ok (.ireturn, 1) := by decide +kernel
theorem dX5_begin_29 : decode cX5_begin 29 = .ok (.aload_n 0, 1) := by decide +kernel
theorem dX5_begin_30 : decode cX5_begin 30 = .ok (.iconst 1, 1) := by decide +kernel
theorem dX5_begin_31 : decode cX5_begin 31 = .ok (.putfield 54, 3) := by decide +kernel
theorem dX5_begin_34 : decode cX5_begin 34 = .ok (.aload_n 0, 1) := by decide +kernel
theorem dX5_begin_35 : decode cX5_begin 35 = .ok (.iconst 0, 1) := by decide +kernel
theorem dX5_begin_36 : decode cX5_begin 36 = .ok (.putfield 125, 3) := by decide +kernel
theorem dX5_begin_39 : decode cX5_begin 39 = .ok (.aload_n 0, 1) := by decide +kernel
theorem dX5_begin_40 : decode cX5_begin 40 = .ok (.iconst 0, 1) := by decide +kernel
theorem dX5_begin_41 : decode cX5_begin 41 = .ok (.putfield 128, 3) := by decide +kernel
theorem dX5_begin_44 : decode cX5_begin 44 = .ok (.aload_n 0, 1) := by decide +kernel
theorem dX5_begin_45 : decode cX5_begin 45 = .ok (.iconst 0, 1) := by decide +kernel
theorem dX5_begin_46 : decode cX5_begin 46 = .ok (.putfield 131, 3) := by decide +kernel
theorem dX5_begin_49 : decode cX5_begin 49 = .ok (.aload_n 0, 1) := by decide +kernel
theorem dX5_begin_50 : decode cX5_begin 50 = .ok (.iconst (-1), 1) := by decide +kernel
theorem dX5_begin_51 : decode cX5_begin 51 = .ok (.putfield 134, 3) := by decide +kernel
theorem dX5_begin_54 : decode cX5_begin 54 = .ok (.iconst 0, 1) := by decide +kernel
theorem dX5_begin_55 : decode cX5_begin 55 = .ok (.istore_n 1, 1) := by decide +kernel
theorem dX5_begin_56 : decode cX5_begin 56 = .ok (.iload_n 1, 1) := by decide +kernel
theorem dX5_begin_57 : decode cX5_begin 57 = .ok (.bipush 8, 2) := by decide +kernel
theorem dX5_begin_59 : decode cX5_begin 59 = .ok (.if_icmp .ge 16, 3) := by decide +kernel
theorem dX5_begin_62 : decode cX5_begin 62 = .ok (.aload_n 0, 1) := by decide +kernel
theorem dX5_begin_63 : decode cX5_begin 63 = .ok (.getfield 22, 3) := by decide +kernel
theorem dX5_begin_66 : decode cX5_begin 66 = .ok (.iload_n 1, 1) := by decide +kernel
theorem dX5_begin_67 : decode cX5_begin 67 = .ok (.iconst 0, 1) := by decide +kernel
theorem dX5_begin_68 : decode cX5_begin 68 = .ok (.iastore, 1) := by decide +kernel
theorem dX5_begin_69 : decode cX5_begin 69 = .ok (.iinc 1 1, 3) := by decide +kernel
theorem dX5_begin_72 : decode cX5_begin 72 = .ok (.goto (-16), 3) := by decide +kernel
theorem dX5_begin_75 : decode cX5_begin 75 = .ok (.aload_n 0, 1) := by decide +kernel
theorem dX5_begin_76 : decode cX5_begin 76 = .ok (.getfield 44, 3) := by decide +kernel
theorem dX5_begin_79 : decode cX5_begin 79 = .ok (.ireturn, 1) := by decide +kernel
theorem dX5_isPassed_0 : decode cX5_isPassed 0 = .ok (.aload_n 0, 1) := by decide +kernel
theorem dX5_isPassed_1 : decode cX5_isPassed 1 = .ok (.getfield 22, 3) := by decide +kernel
theorem dX5_isPassed_4 : decode cX5_isPassed 4 = .ok (.iload_n 1, 1) := by decide +kernel
theorem dX5_isPassed_5 : decode cX5_isPassed 5 = .ok (.iaload, 1) := by decide +kernel
theorem dX5_isPassed_6 : decode cX5_isPassed 6 = .ok (.iconst 2, 1) := by decide +kernel
theorem dX5_isPassed_7 : decode cX5_isPassed 7 = .ok (.if_icmp .lt 7, 3) := by decide +kernel
theorem dX5_isPassed_10 : decode cX5_isPassed 10 = .ok (.iconst 1, 1) := by decide +kernel
theorem dX5_isPassed_11 : decode cX5_isPassed 11 = .ok (.goto 4, 3) := by decide +kernel
theorem dX5_isPassed_14 : decode cX5_isPassed 14 = .ok (.iconst 0, 1) := by decide +kernel
theorem dX5_isPassed_15 : decode cX5_isPassed 15 = .ok (.ireturn, 1) := by decide +kernel
set_option maxRecDepth 20000 in
theorem ggX5_step_X5_holds : GoodIn wsX5_step wsX5_holds := goodIn_r _ [16, 17, 62, 63, 64, 65, 66, 67, 68, 69, 70, 71, 72, 73, 74, 75, 76, 77, 78, 79, 80] (by decide +kernel) (by decide +kernel)
set_option maxRecDepth 20000 in
theorem gX5_step_X5_holds : GoodIn wsX5_step (wsV RX5 51 RX5 yX5_holds wsX5_holds) := goodIn_app (goodIn_of _ (by decide +kernel)) ggX5_step_X5_holds
set_option maxRecDepth 20000 in
theorem ggX5_step_X5_best : GoodIn wsX5_step wsX5_best := goodIn_r _ [21, 3, 22, 6, 4, 23, 24, 25, 15, 26, 27, 28, 29, 30, 31, 32, 33, 34, 35, 36, 37, 38, 39, 40, 41, 42, 43, 44, 45, 46, 47, 48, 49, 50, 51, 52, 53, 11, 54, 55, 56, 57, 62, 63, 64, 65, 66, 67, 68, 69, 70, 71, 72, 73, 74, 75, 76, 77, 78, 79, 80] (by decide +kernel) (by decide +kernel)
set_option maxRecDepth 20000 in
theorem gX5_step_X5_best : GoodIn wsX5_step (wsV RX5 122 RX5 yX5_best wsX5_best) := goodIn_app (goodIn_of _ (by decide +kernel)) ggX5_step_X5_best
set_option maxRecDepth 20000 in
theorem ggX5_step_X5_isPassed : GoodIn wsX5_step wsX5_isPassed := goodIn_r _ [61, 9, 62, 63, 64, 65, 66, 67, 68, 69, 70, 71, 72, 73, 74, 75, 76, 77, 78, 79, 80] (by decide +kernel) (by decide +kernel)
set_option maxRecDepth 20000 in
theorem gX5_step_X5_isPassed : GoodIn wsX5_step (wsV RX5 137 RX5 yX5_isPassed wsX5_isPassed) := goodIn_app (goodIn_of _ (by decide +kernel)) ggX5_step_X5_isPassed
theorem dX5_step_0 : decode cX5_step 0 = .ok (.aload_n 0, 1) := by decide +kernel
theorem dX5_step_1 : decode cX5_step 1 = .ok (.aload_n 0, 1) := by decide +kernel
theorem dX5_step_2 : decode cX5_step 2 = .ok (.getfield 54, 3) := by decide +kernel
theorem dX5_step_5 : decode cX5_step 5 = .ok (.ifCond .eq 14, 3) := by decide +kernel
theorem dX5_step_8 : decode cX5_step 8 = .ok (.aload_n 0, 1) := by decide +kernel
theorem dX5_step_9 : decode cX5_step 9 = .ok (.getfield 125, 3) := by decide +kernel
theorem dX5_step_12 : decode cX5_step 12 = .ok (.aload_n 0, 1) := by decide +kernel
theorem dX5_step_13 : decode cX5_step 13 = .ok (.getfield 44, 3) := by decide +kernel
theorem dX5_step_16 : decode cX5_step 16 = .ok (.if_icmp .ne 7, 3) := by decide +kernel
theorem dX5_step_19 : decode cX5_step 19 = .ok (.iconst 1, 1) := by decide +kernel
theorem dX5_step_20 : decode cX5_step 20 = .ok (.goto 4, 3) := by decide +kernel
theorem dX5_step_23 : decode cX5_step 23 = .ok (.iconst 0, 1) := by decide +kernel
theorem dX5_step_24 : decode cX5_step 24 = .ok (.invokevirtual 51, 3) := by decide +kernel
theorem dX5_step_27 : decode cX5_step 27 = .ok (.ifCond .ne 5, 3) := by decide +kernel
theorem dX5_step_30 : decode cX5_step 30 = .ok (.iconst 0, 1) := by decide +kernel
theorem dX5_step_31 : decode cX5_step 31 = .ok (.ireturn, 1) := by decide +kernel
theorem dX5_step_32 : decode cX5_step 32 = .ok (.aload_n 0, 1) := by decide +kernel
theorem dX5_step_33 : decode cX5_step 33 = .ok (.invokevirtual 122, 3) := by decide +kernel
theorem dX5_step_36 : decode cX5_step 36 = .ok (.istore_n 1, 1) := by decide +kernel
theorem dX5_step_37 : decode cX5_step 37 = .ok (.aload_n 0, 1) := by decide +kernel
theorem dX5_step_38 : decode cX5_step 38 = .ok (.getfield 37, 3) := by decide +kernel
theorem dX5_step_41 : decode cX5_step 41 = .ok (.aload_n 0, 1) := by decide +kernel
theorem dX5_step_42 : decode cX5_step 42 = .ok (.getfield 125, 3) := by decide +kernel
theorem dX5_step_45 : decode cX5_step 45 = .ok (.iaload, 1) := by decide +kernel
theorem dX5_step_46 : decode cX5_step 46 = .ok (.istore_n 2, 1) := by decide +kernel
theorem dX5_step_47 : decode cX5_step 47 = .ok (.aload_n 0, 1) := by decide +kernel
theorem dX5_step_48 : decode cX5_step 48 = .ok (.getfield 134, 3) := by decide +kernel
theorem dX5_step_51 : decode cX5_step 51 = .ok (.aload_n 0, 1) := by decide +kernel
theorem dX5_step_52 : decode cX5_step 52 = .ok (.getfield 7, 3) := by decide +kernel
theorem dX5_step_55 : decode cX5_step 55 = .ok (.iload_n 2, 1) := by decide +kernel
theorem dX5_step_56 : decode cX5_step 56 = .ok (.iaload, 1) := by decide +kernel
theorem dX5_step_57 : decode cX5_step 57 = .ok (.if_icmp .eq 23, 3) := by decide +kernel
theorem dX5_step_60 : decode cX5_step 60 = .ok (.aload_n 0, 1) := by decide +kernel
theorem dX5_step_61 : decode cX5_step 61 = .ok (.dup, 1) := by decide +kernel
theorem dX5_step_62 : decode cX5_step 62 = .ok (.getfield 131, 3) := by decide +kernel
theorem dX5_step_65 : decode cX5_step 65 = .ok (.iconst 5, 1) := by decide +kernel
theorem dX5_step_66 : decode cX5_step 66 = .ok (.iadd, 1) := by decide +kernel
theorem dX5_step_67 : decode cX5_step 67 = .ok (.putfield 131, 3) := by decide +kernel
theorem dX5_step_70 : decode cX5_step 70 = .ok (.aload_n 0, 1) := by decide +kernel
theorem dX5_step_71 : decode cX5_step 71 = .ok (.aload_n 0, 1) := by decide +kernel
theorem dX5_step_72 : decode cX5_step 72 = .ok (.getfield 7, 3) := by decide +kernel
theorem dX5_step_75 : decode cX5_step 75 = .ok (.iload_n 2, 1) := by decide +kernel
theorem dX5_step_76 : decode cX5_step 76 = .ok (.iaload, 1) := by decide +kernel
theorem dX5_step_77 : decode cX5_step 77 = .ok (.putfield 134, 3) := by decide +kernel
theorem dX5_step_80 : decode cX5_step 80 = .ok (.aload_n 0, 1) := by decide +kernel
theorem dX5_step_81 : decode cX5_step 81 = .ok (.getfield 19, 3) := by decide +kernel
theorem dX5_step_84 : decode cX5_step 84 = .ok (.iload_n 2, 1) := by decide +kernel
theorem dX5_step_85 : decode cX5_step 85 = .ok (.iaload, 1) := by decide +kernel
theorem dX5_step_86 : decode cX5_step 86 = .ok (.ifCond .le 43, 3) := by decide +kernel
theorem dX5_step_89 : decode cX5_step 89 = .ok (.aload_n 0, 1) := by decide +kernel
theorem dX5_step_90 : decode cX5_step 90 = .ok (.iload_n 2, 1) := by decide +kernel
theorem dX5_step_91 : decode cX5_step 91 = .ok (.invokevirtual 137, 3) := by decide +kernel
theorem dX5_step_94 : decode cX5_step 94 = .ok (.ifCond .ne 35, 3) := by decide +kernel
theorem dX5_step_97 : decode cX5_step 97 = .ok (.aload_n 0, 1) := by decide +kernel
theorem dX5_step_98 : decode cX5_step 98 = .ok (.getfield 19, 3) := by decide +kernel
theorem dX5_step_101 : decode cX5_step 101 = .ok (.iload_n 2, 1) := by decide +kernel
theorem dX5_step_102 : decode cX5_step 102 = .ok (.dup2, 1) := by decide +kernel
theorem dX5_step_103 : decode cX5_step 103 = .ok (.iaload, 1) := by decide +kernel
theorem dX5_step_104 : decode cX5_step 104 = .ok (.iconst 1, 1) := by decide +kernel
theorem dX5_step_105 : decode cX5_step 105 = .ok (.isub, 1) := by decide +kernel
theorem dX5_step_106 : decode cX5_step 106 = .ok (.iastore, 1) := by decide +kernel
theorem dX5_step_107 : decode cX5_step 107 = .ok (.aload_n 0, 1) := by decide +kernel
theorem dX5_step_108 : decode cX5_step 108 = .ok (.getfield 22, 3) := by decide +kernel
theorem dX5_step_111 : decode cX5_step 111 = .ok (.iload_n 2, 1) := by decide +kernel
theorem dX5_step_112 : decode cX5_step 112 = .ok (.dup2, 1) := by decide +kernel
theorem dX5_step_113 : decode cX5_step 113 = .ok (.iaload, 1) := by decide +kernel
theorem dX5_step_114 : decode cX5_step 114 = .ok (.iconst 1, 1) := by decide +kernel
theorem dX5_step_115 : decode cX5_step 115 = .ok (.iadd, 1) := by decide +kernel
theorem dX5_step_116 : decode cX5_step 116 = .ok (.iastore, 1) := by decide +kernel
theorem dX5_step_117 : decode cX5_step 117 = .ok (.aload_n 0, 1) := by decide +kernel
theorem dX5_step_118 : decode cX5_step 118 = .ok (.dup, 1) := by decide +kernel
theorem dX5_step_119 : decode cX5_step 119 = .ok (.getfield 131, 3) := by decide +kernel
theorem dX5_step_122 : decode cX5_step 122 = .ok (.iconst 3, 1) := by decide +kernel
theorem dX5_step_123 : decode cX5_step 123 = .ok (.iadd, 1) := by decide +kernel
theorem dX5_step_124 : decode cX5_step 124 = .ok (.putfield 131, 3) := by decide +kernel
theorem dX5_step_127 : decode cX5_step 127 = .ok (.iconst (-1), 1) := by decide +kernel
theorem dX5_step_128 : decode cX5_step 128 = .ok (.ireturn, 1) := by decide +kernel
theorem dX5_step_129 : decode cX5_step 129 = .ok (.aload_n 0, 1) := by decide +kernel
theorem dX5_step_130 : decode cX5_step 130 = .ok (.dup, 1) := by decide +kernel
theorem dX5_step_131 : decode cX5_step 131 = .ok (.getfield 131, 3) := by decide +kernel
theorem dX5_step_134 : decode cX5_step 134 = .ok (.aload_n 0, 1) := by decide +kernel
theorem dX5_step_135 : decode cX5_step 135 = .ok (.iload_n 2, 1) := by decide +kernel
theorem dX5_step_136 : decode cX5_step 136 = .ok (.invokevirtual 137, 3) := by decide +kernel
theorem dX5_step_139 : decode cX5_step 139 = .ok (.ifCond .eq 7, 3) := by decide +kernel
theorem dX5_step_142 : decode cX5_step 142 = .ok (.iconst 4, 1) := by decide +kernel
theorem dX5_step_143 : decode cX5_step 143 = .ok (.goto 4, 3) := by decide +kernel
theorem dX5_step_146 : decode cX5_step 146 = .ok (.iconst 1, 1) := by decide +kernel
theorem dX5_step_147 : decode cX5_step 147 = .ok (.iadd, 1) := by decide +kernel
theorem dX5_step_148 : decode cX5_step 148 = .ok (.putfield 131, 3) := by decide +kernel
theorem dX5_step_151 : decode cX5_step 151 = .ok (.aload_n 0, 1) := by decide +kernel
theorem dX5_step_152 : decode cX5_step 152 = .ok (.dup, 1) := by decide +kernel
theorem dX5_step_153 : decode cX5_step 153 = .ok (.getfield 128, 3) := by decide +kernel
theorem dX5_step_156 : decode cX5_step 156 = .ok (.iconst 1, 1) := by decide +kernel
theorem dX5_step_157 : decode cX5_step 157 = .ok (.iload_n 2, 1) := by decide +kernel
theorem dX5_step_158 : decode cX5_step 158 = .ok (.ishl, 1) := by decide +kernel
theorem dX5_step_159 : decode cX5_step 159 = .ok (.ior, 1) := by decide +kernel
theorem dX5_step_160 : decode cX5_step 160 = .ok (.putfield 128, 3) := by decide +kernel
theorem dX5_step_163 : decode cX5_step 163 = .ok (.aload_n 0, 1) := by decide +kernel
theorem dX5_step_164 : decode cX5_step 164 = .ok (.dup, 1) := by decide +kernel
theorem dX5_step_165 : decode cX5_step 165 = .ok (.getfield 125, 3) := by decide +kernel
theorem dX5_step_168 : decode cX5_step 168 = .ok (.iconst 1, 1) := by decide +kernel
theorem dX5_step_169 : decode cX5_step 169 = .ok (.iadd, 1) := by decide +kernel
theorem dX5_step_170 : decode cX5_step 170 = .ok (.putfield 125, 3) := by decide +kernel
theorem dX5_step_173 : decode cX5_step 173 = .ok (.aload_n 0, 1) := by decide +kernel
theorem dX5_step_174 : decode cX5_step 174 = .ok (.dup, 1) := by decide +kernel
theorem dX5_step_175 : decode cX5_step 175 = .ok (.getfield 131, 3) := by decide +kernel
theorem dX5_step_178 : decode cX5_step 178 = .ok (.aload_n 0, 1) := by decide +kernel
theorem dX5_step_179 : decode cX5_step 179 = .ok (.getfield 16, 3) := by decide +kernel
theorem dX5_step_182 : decode cX5_step 182 = .ok (.bipush 32, 2) := by decide +kernel
theorem dX5_step_184 : decode cX5_step 184 = .ok (.iload_n 2, 1) := by decide +kernel
theorem dX5_step_185 : decode cX5_step 185 = .ok (.iadd, 1) := by decide +kernel
theorem dX5_step_186 : decode cX5_step 186 = .ok (.iaload, 1) := by decide +kernel
theorem dX5_step_187 : decode cX5_step 187 = .ok (.aload_n 0, 1) := by decide +kernel
theorem dX5_step_188 : decode cX5_step 188 = .ok (.getfield 128, 3) := by decide +kernel
theorem dX5_step_191 : decode cX5_step 191 = .ok (.iand, 1) := by decide +kernel
theorem dX5_step_192 : decode cX5_step 192 = .ok (.ifCond .ne 7, 3) := by decide +kernel
theorem dX5_step_195 : decode cX5_step 195 = .ok (.iconst 1, 1) := by decide +kernel
theorem dX5_step_196 : decode cX5_step 196 = .ok (.goto 4, 3) := by decide +kernel
theorem dX5_step_199 : decode cX5_step 199 = .ok (.iconst 2, 1) := by decide +kernel
theorem dX5_step_200 : decode cX5_step 200 = .ok (.iadd, 1) := by decide +kernel
theorem dX5_step_201 : decode cX5_step 201 = .ok (.putfield 131, 3) := by decide +kernel
theorem dX5_step_204 : decode cX5_step 204 = .ok (.iload_n 2, 1) := by decide +kernel
theorem dX5_step_205 : decode cX5_step 205 = .ok (.ireturn, 1) := by decide +kernel
set_option maxRecDepth 20000 in
theorem ggX5_stepBack_X5_holds : GoodIn wsX5_stepBack wsX5_holds := goodIn_r _ [10, 11, 55, 56, 57, 58, 59, 60, 61, 62, 63, 64, 65, 66, 67, 68, 69, 70, 71, 72, 73] (by decide +kernel) (by decide +kernel)
set_option maxRecDepth 20000 in
theorem gX5_stepBack_X5_holds : GoodIn wsX5_stepBack (wsV RX5 51 RX5 yX5_holds wsX5_holds) := goodIn_app (goodIn_of _ (by decide +kernel)) ggX5_stepBack_X5_holds
set_option maxRecDepth 20000 in
theorem ggX5_stepBack_X5_best : GoodIn wsX5_stepBack wsX5_best := goodIn_r _ [15, 16, 17, 18, 4, 19, 20, 21, 9, 22, 23, 24, 25, 26, 27, 28, 29, 30, 31, 32, 33, 34, 35, 36, 37, 38, 39, 40, 41, 42, 43, 44, 45, 46, 47, 48, 49, 50, 51, 52, 53, 54, 55, 56, 57, 58, 59, 60, 61, 62, 63, 64, 65, 66, 67, 68, 69, 70, 71, 72, 73] (by decide +kernel) (by decide +kernel)
set_option maxRecDepth 20000 in
theorem gX5_stepBack_X5_best : GoodIn wsX5_stepBack (wsV RX5 122 RX5 yX5_best wsX5_best) := goodIn_app (goodIn_of _ (by decide +kernel)) ggX5_stepBack_X5_best
theorem dX5_stepBack_0 : decode cX5_stepBack 0 = .ok (.aload_n 0, 1) := by decide +kernel
theorem dX5_stepBack_1 : decode cX5_stepBack 1 = .ok (.aload_n 0, 1) := by decide +kernel
theorem dX5_stepBack_2 : decode cX5_stepBack 2 = .ok (.getfield 54, 3) := by decide +kernel
theorem dX5_stepBack_5 : decode cX5_stepBack 5 = .ok (.ifCond .eq 10, 3) := by decide +kernel
theorem dX5_stepBack_8 : decode cX5_stepBack 8 = .ok (.aload_n 0, 1) := by decide +kernel
theorem dX5_stepBack_9 : decode cX5_stepBack 9 = .ok (.getfield 125, 3) := by decide +kernel
theorem dX5_stepBack_12 : decode cX5_stepBack 12 = .ok (.ifCond .ne 7, 3) := by decide +kernel
theorem dX5_stepBack_15 : decode cX5_stepBack 15 = .ok (.iconst 1, 1) := by decide +kernel
theorem dX5_stepBack_16 : decode cX5_stepBack 16 = .ok (.goto 4, 3) := by decide +kernel
theorem dX5_stepBack_19 : decode cX5_stepBack 19 = .ok (.iconst 0, 1) := by decide +kernel
theorem dX5_stepBack_20 : decode cX5_stepBack 20 = .ok (.invokevirtual 51, 3) := by decide +kernel
theorem dX5_stepBack_23 : decode cX5_stepBack 23 = .ok (.ifCond .ne 5, 3) := by decide +kernel
theorem dX5_stepBack_26 : decode cX5_stepBack 26 = .ok (.iconst 0, 1) := by decide +kernel
theorem dX5_stepBack_27 : decode cX5_stepBack 27 = .ok (.ireturn, 1) := by decide +kernel
theorem dX5_stepBack_28 : decode cX5_stepBack 28 = .ok (.aload_n 0, 1) := by decide +kernel
theorem dX5_stepBack_29 : decode cX5_stepBack 29 = .ok (.invokevirtual 122, 3) := by decide +kernel
theorem dX5_stepBack_32 : decode cX5_stepBack 32 = .ok (.istore_n 1, 1) := by decide +kernel
theorem dX5_stepBack_33 : decode cX5_stepBack 33 = .ok (.aload_n 0, 1) := by decide +kernel
theorem dX5_stepBack_34 : decode cX5_stepBack 34 = .ok (.dup, 1) := by decide +kernel
theorem dX5_stepBack_35 : decode cX5_stepBack 35 = .ok (.getfield 125, 3) := by decide +kernel
theorem dX5_stepBack_38 : decode cX5_stepBack 38 = .ok (.iconst 1, 1) := by decide +kernel
theorem dX5_stepBack_39 : decode cX5_stepBack 39 = .ok (.isub, 1) := by decide +kernel
theorem dX5_stepBack_40 : decode cX5_stepBack 40 = .ok (.putfield 125, 3) := by decide +kernel
theorem dX5_stepBack_43 : decode cX5_stepBack 43 = .ok (.aload_n 0, 1) := by decide +kernel
theorem dX5_stepBack_44 : decode cX5_stepBack 44 = .ok (.dup, 1) := by decide +kernel
theorem dX5_stepBack_45 : decode cX5_stepBack 45 = .ok (.getfield 128, 3) := by decide +kernel
theorem dX5_stepBack_48 : decode cX5_stepBack 48 = .ok (.iconst 1, 1) := by decide +kernel
theorem dX5_stepBack_49 : decode cX5_stepBack 49 = .ok (.aload_n 0, 1) := by decide +kernel
theorem dX5_stepBack_50 : decode cX5_stepBack 50 = .ok (.getfield 37, 3) := by decide +kernel
theorem dX5_stepBack_53 : decode cX5_stepBack 53 = .ok (.aload_n 0, 1) := by decide +kernel
theorem dX5_stepBack_54 : decode cX5_stepBack 54 = .ok (.getfield 125, 3) := by decide +kernel
theorem dX5_stepBack_57 : decode cX5_stepBack 57 = .ok (.iaload, 1) := by decide +kernel
theorem dX5_stepBack_58 : decode cX5_stepBack 58 = .ok (.ishl, 1) := by decide +kernel
theorem dX5_stepBack_59 : decode cX5_stepBack 59 = .ok (.iconst (-1), 1) := by decide +kernel
theorem dX5_stepBack_60 : decode cX5_stepBack 60 = .ok (.ixor, 1) := by decide +kernel
theorem dX5_stepBack_61 : decode cX5_stepBack 61 = .ok (.iand, 1) := by decide +kernel
theorem dX5_stepBack_62 : decode cX5_stepBack 62 = .ok (.putfield 128, 3) := by decide +kernel
theorem dX5_stepBack_65 : decode cX5_stepBack 65 = .ok (.aload_n 0, 1) := by decide +kernel
theorem dX5_stepBack_66 : decode cX5_stepBack 66 = .ok (.dup, 1) := by decide +kernel
theorem dX5_stepBack_67 : decode cX5_stepBack 67 = .ok (.getfield 131, 3) := by decide +kernel
theorem dX5_stepBack_70 : decode cX5_stepBack 70 = .ok (.iconst 2, 1) := by decide +kernel
theorem dX5_stepBack_71 : decode cX5_stepBack 71 = .ok (.iadd, 1) := by decide +kernel
theorem dX5_stepBack_72 : decode cX5_stepBack 72 = .ok (.putfield 131, 3) := by decide +kernel
theorem dX5_stepBack_75 : decode cX5_stepBack 75 = .ok (.aload_n 0, 1) := by decide +kernel
theorem dX5_stepBack_76 : decode cX5_stepBack 76 = .ok (.getfield 37, 3) := by decide +kernel
theorem dX5_stepBack_79 : decode cX5_stepBack 79 = .ok (.aload_n 0, 1) := by decide +kernel
theorem dX5_stepBack_80 : decode cX5_stepBack 80 = .ok (.getfield 125, 3) := by decide +kernel
theorem dX5_stepBack_83 : decode cX5_stepBack 83 = .ok (.iaload, 1) := by decide +kernel
theorem dX5_stepBack_84 : decode cX5_stepBack 84 = .ok (.ireturn, 1) := by decide +kernel
theorem dX5_built_0 : decode cX5_built 0 = .ok (.aload_n 0, 1) := by decide +kernel
theorem dX5_built_1 : decode cX5_built 1 = .ok (.iconst 0, 1) := by decide +kernel
theorem dX5_built_2 : decode cX5_built 2 = .ok (.putfield 40, 3) := by decide +kernel
theorem dX5_built_5 : decode cX5_built 5 = .ok (.aload_n 0, 1) := by decide +kernel
theorem dX5_built_6 : decode cX5_built 6 = .ok (.getfield 54, 3) := by decide +kernel
theorem dX5_built_9 : decode cX5_built 9 = .ok (.ifCond .eq 10, 3) := by decide +kernel
theorem dX5_built_12 : decode cX5_built 12 = .ok (.aload_n 0, 1) := by decide +kernel
theorem dX5_built_13 : decode cX5_built 13 = .ok (.getfield 128, 3) := by decide +kernel
theorem dX5_built_16 : decode cX5_built 16 = .ok (.goto 4, 3) := by decide +kernel
theorem dX5_built_19 : decode cX5_built 19 = .ok (.iconst 0, 1) := by decide +kernel
theorem dX5_built_20 : decode cX5_built 20 = .ok (.ireturn, 1) := by decide +kernel
theorem dX5_clock_0 : decode cX5_clock 0 = .ok (.aload_n 0, 1) := by decide +kernel
theorem dX5_clock_1 : decode cX5_clock 1 = .ok (.iconst 0, 1) := by decide +kernel
theorem dX5_clock_2 : decode cX5_clock 2 = .ok (.putfield 40, 3) := by decide +kernel
theorem dX5_clock_5 : decode cX5_clock 5 = .ok (.aload_n 0, 1) := by decide +kernel
theorem dX5_clock_6 : decode cX5_clock 6 = .ok (.getfield 54, 3) := by decide +kernel
theorem dX5_clock_9 : decode cX5_clock 9 = .ok (.ifCond .eq 10, 3) := by decide +kernel
theorem dX5_clock_12 : decode cX5_clock 12 = .ok (.aload_n 0, 1) := by decide +kernel
theorem dX5_clock_13 : decode cX5_clock 13 = .ok (.getfield 131, 3) := by decide +kernel
theorem dX5_clock_16 : decode cX5_clock 16 = .ok (.goto 4, 3) := by decide +kernel
theorem dX5_clock_19 : decode cX5_clock 19 = .ok (.iconst 0, 1) := by decide +kernel
theorem dX5_clock_20 : decode cX5_clock 20 = .ok (.ireturn, 1) := by decide +kernel
theorem dX5_mounted_0 : decode cX5_mounted 0 = .ok (.aload_n 0, 1) := by decide +kernel
theorem dX5_mounted_1 : decode cX5_mounted 1 = .ok (.iconst 0, 1) := by decide +kernel
theorem dX5_mounted_2 : decode cX5_mounted 2 = .ok (.putfield 40, 3) := by decide +kernel
theorem dX5_mounted_5 : decode cX5_mounted 5 = .ok (.aload_n 0, 1) := by decide +kernel
theorem dX5_mounted_6 : decode cX5_mounted 6 = .ok (.getfield 54, 3) := by decide +kernel
theorem dX5_mounted_9 : decode cX5_mounted 9 = .ok (.ifCond .eq 10, 3) := by decide +kernel
theorem dX5_mounted_12 : decode cX5_mounted 12 = .ok (.aload_n 0, 1) := by decide +kernel
theorem dX5_mounted_13 : decode cX5_mounted 13 = .ok (.getfield 134, 3) := by decide +kernel
theorem dX5_mounted_16 : decode cX5_mounted 16 = .ok (.goto 4, 3) := by decide +kernel
theorem dX5_mounted_19 : decode cX5_mounted 19 = .ok (.iconst (-1), 1) := by decide +kernel
theorem dX5_mounted_20 : decode cX5_mounted 20 = .ok (.ireturn, 1) := by decide +kernel
set_option maxRecDepth 20000 in
theorem ggX5_isBypassed_X5_isPart : GoodIn wsX5_isBypassed wsX5_isPart := goodIn_r _ [6, 7, 18, 19, 20, 21, 22, 23, 24, 25, 26, 27, 28, 29, 30, 31, 32, 33, 34, 35, 36] (by decide +kernel) (by decide +kernel)
set_option maxRecDepth 20000 in
theorem gX5_isBypassed_X5_isPart : GoodIn wsX5_isBypassed (wsV RX5 58 RX5 yX5_isPart wsX5_isPart) := goodIn_app (goodIn_of _ (by decide +kernel)) ggX5_isBypassed_X5_isPart
set_option maxRecDepth 20000 in
theorem ggX5_isBypassed_X5_holds : GoodIn wsX5_isBypassed wsX5_holds := goodIn_r _ [11, 12, 18, 19, 20, 21, 22, 23, 24, 25, 26, 27, 28, 29, 30, 31, 32, 33, 34, 35, 36] (by decide +kernel) (by decide +kernel)
set_option maxRecDepth 20000 in
theorem gX5_isBypassed_X5_holds : GoodIn wsX5_isBypassed (wsV RX5 51 RX5 yX5_holds wsX5_holds) := goodIn_app (goodIn_of _ (by decide +kernel)) ggX5_isBypassed_X5_holds
set_option maxRecDepth 20000 in
theorem ggX5_isBypassed_X5_isPassed : GoodIn wsX5_isBypassed wsX5_isPassed := goodIn_r _ [16, 17, 18, 19, 20, 21, 22, 23, 24, 25, 26, 27, 28, 29, 30, 31, 32, 33, 34, 35, 36] (by decide +kernel) (by decide +kernel)
set_option maxRecDepth 20000 in
theorem gX5_isBypassed_X5_isPassed : GoodIn wsX5_isBypassed (wsV RX5 137 RX5 yX5_isPassed wsX5_isPassed) := goodIn_app (goodIn_of _ (by decide +kernel)) ggX5_isBypassed_X5_isPassed
theorem dX5_isBypassed_0 : decode cX5_isBypassed 0 = .ok (.aload_n 0, 1) := by decide +kernel
theorem dX5_isBypassed_1 : decode cX5_isBypassed 1 = .ok (.aload_n 0, 1) := by decide +kernel
theorem dX5_isBypassed_2 : decode cX5_isBypassed 2 = .ok (.iload_n 1, 1) := by decide +kernel
theorem dX5_isBypassed_3 : decode cX5_isBypassed 3 = .ok (.invokevirtual 58, 3) := by decide +kernel
theorem dX5_isBypassed_6 : decode cX5_isBypassed 6 = .ok (.ifCond .eq 7, 3) := by decide +kernel
theorem dX5_isBypassed_9 : decode cX5_isBypassed 9 = .ok (.iconst 0, 1) := by decide +kernel
theorem dX5_isBypassed_10 : decode cX5_isBypassed 10 = .ok (.goto 4, 3) := by decide +kernel
theorem dX5_isBypassed_13 : decode cX5_isBypassed 13 = .ok (.iconst 1, 1) := by decide +kernel
theorem dX5_isBypassed_14 : decode cX5_isBypassed 14 = .ok (.invokevirtual 51, 3) := by decide +kernel
theorem dX5_isBypassed_17 : decode cX5_isBypassed 17 = .ok (.ifCond .eq 22, 3) := by decide +kernel
theorem dX5_isBypassed_20 : decode cX5_isBypassed 20 = .ok (.aload_n 0, 1) := by decide +kernel
theorem dX5_isBypassed_21 : decode cX5_isBypassed 21 = .ok (.getfield 54, 3) := by decide +kernel
theorem dX5_isBypassed_24 : decode cX5_isBypassed 24 = .ok (.ifCond .eq 15, 3) := by decide +kernel
theorem dX5_isBypassed_27 : decode cX5_isBypassed 27 = .ok (.aload_n 0, 1) := by decide +kernel
theorem dX5_isBypassed_28 : decode cX5_isBypassed 28 = .ok (.iload_n 1, 1) := by decide +kernel
theorem dX5_isBypassed_29 : decode cX5_isBypassed 29 = .ok (.invokevirtual 137, 3) := by decide +kernel
theorem dX5_isBypassed_32 : decode cX5_isBypassed 32 = .ok (.ifCond .eq 7, 3) := by decide +kernel
theorem dX5_isBypassed_35 : decode cX5_isBypassed 35 = .ok (.iconst 1, 1) := by decide +kernel
theorem dX5_isBypassed_36 : decode cX5_isBypassed 36 = .ok (.goto 4, 3) := by decide +kernel
theorem dX5_isBypassed_39 : decode cX5_isBypassed 39 = .ok (.iconst 0, 1) := by decide +kernel
theorem dX5_isBypassed_40 : decode cX5_isBypassed 40 = .ok (.ireturn, 1) := by decide +kernel
