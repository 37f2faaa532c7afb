theorem dX5_init_0 : decode cX5_init 0 = .ok (.aload_n 0, 1) := by decide +kernel
theorem dX5_init_1 : decode cX5_init 1 = .ok (.invokespecial 1, 3) := by decide +kernel
theorem dX5_init_4 : decode cX5_init 4 = .ok (.aload_n 0, 1) := by decide +kernel
theorem dX5_init_5 : decode cX5_init 5 = .ok (.bipush 8, 2) := by decide +kernel
theorem dX5_init_7 : decode cX5_init 7 = .ok (.newarray .int, 2) := by decide +kernel
theorem dX5_init_9 : decode cX5_init 9 = .ok (.putfield 7, 3) := by decide +kernel
theorem dX5_init_12 : decode cX5_init 12 = .ok (.aload_n 0, 1) := by decide +kernel
theorem dX5_init_13 : decode cX5_init 13 = .ok (.bipush 8, 2) := by decide +kernel
theorem dX5_init_15 : decode cX5_init 15 = .ok (.newarray .int, 2) := by decide +kernel
theorem dX5_init_17 : decode cX5_init 17 = .ok (.putfield 13, 3) := by decide +kernel
theorem dX5_init_20 : decode cX5_init 20 = .ok (.aload_n 0, 1) := by decide +kernel
theorem dX5_init_21 : decode cX5_init 21 = .ok (.bipush 48, 2) := by decide +kernel
theorem dX5_init_23 : decode cX5_init 23 = .ok (.newarray .int, 2) := by decide +kernel
theorem dX5_init_25 : decode cX5_init 25 = .ok (.putfield 16, 3) := by decide +kernel
theorem dX5_init_28 : decode cX5_init 28 = .ok (.aload_n 0, 1) := by decide +kernel
theorem dX5_init_29 : decode cX5_init 29 = .ok (.bipush 8, 2) := by decide +kernel
theorem dX5_init_31 : decode cX5_init 31 = .ok (.newarray .int, 2) := by decide +kernel
theorem dX5_init_33 : decode cX5_init 33 = .ok (.putfield 19, 3) := by decide +kernel
theorem dX5_init_36 : decode cX5_init 36 = .ok (.aload_n 0, 1) := by decide +kernel
theorem dX5_init_37 : decode cX5_init 37 = .ok (.bipush 8, 2) := by decide +kernel
theorem dX5_init_39 : decode cX5_init 39 = .ok (.newarray .int, 2) := by decide +kernel
theorem dX5_init_41 : decode cX5_init 41 = .ok (.putfield 22, 3) := by decide +kernel
theorem dX5_init_44 : decode cX5_init 44 = .ok (.aload_n 0, 1) := by decide +kernel
theorem dX5_init_45 : decode cX5_init 45 = .ok (.sipush 256, 3) := by decide +kernel
theorem dX5_init_48 : decode cX5_init 48 = .ok (.newarray .int, 2) := by decide +kernel
theorem dX5_init_50 : decode cX5_init 50 = .ok (.putfield 25, 3) := by decide +kernel
theorem dX5_init_53 : decode cX5_init 53 = .ok (.aload_n 0, 1) := by decide +kernel
theorem dX5_init_54 : decode cX5_init 54 = .ok (.sipush 256, 3) := by decide +kernel
theorem dX5_init_57 : decode cX5_init 57 = .ok (.newarray .int, 2) := by decide +kernel
theorem dX5_init_59 : decode cX5_init 59 = .ok (.putfield 28, 3) := by decide +kernel
theorem dX5_init_62 : decode cX5_init 62 = .ok (.aload_n 0, 1) := by decide +kernel
theorem dX5_init_63 : decode cX5_init 63 = .ok (.sipush 256, 3) := by decide +kernel
theorem dX5_init_66 : decode cX5_init 66 = .ok (.newarray .int, 2) := by decide +kernel
theorem dX5_init_68 : decode cX5_init 68 = .ok (.putfield 31, 3) := by decide +kernel
theorem dX5_init_71 : decode cX5_init 71 = .ok (.aload_n 0, 1) := by decide +kernel
theorem dX5_init_72 : decode cX5_init 72 = .ok (.sipush 2048, 3) := by decide +kernel
theorem dX5_init_75 : decode cX5_init 75 = .ok (.newarray .int, 2) := by decide +kernel
theorem dX5_init_77 : decode cX5_init 77 = .ok (.putfield 34, 3) := by decide +kernel
theorem dX5_init_80 : decode cX5_init 80 = .ok (.aload_n 0, 1) := by decide +kernel
theorem dX5_init_81 : decode cX5_init 81 = .ok (.bipush 8, 2) := by decide +kernel
theorem dX5_init_83 : decode cX5_init 83 = .ok (.newarray .int, 2) := by decide +kernel
theorem dX5_init_85 : decode cX5_init 85 = .ok (.putfield 37, 3) := by decide +kernel
theorem dX5_init_88 : decode cX5_init 88 = .ok (.return_, 1) := by decide +kernel
theorem dX5_thrown_0 : decode cX5_thrown 0 = .ok (.aload_n 0, 1) := by decide +kernel
theorem dX5_thrown_1 : decode cX5_thrown 1 = .ok (.getfield 40, 3) := by decide +kernel
theorem dX5_thrown_4 : decode cX5_thrown 4 = .ok (.ireturn, 1) := by decide +kernel
theorem dX5_holds_0 : decode cX5_holds 0 = .ok (.aload_n 0, 1) := by decide +kernel
theorem dX5_holds_1 : decode cX5_holds 1 = .ok (.iload_n 1, 1) := by decide +kernel
theorem dX5_holds_2 : decode cX5_holds 2 = .ok (.putfield 40, 3) := by decide +kernel
theorem dX5_holds_5 : decode cX5_holds 5 = .ok (.iload_n 1, 1) := by decide +kernel
theorem dX5_holds_6 : decode cX5_holds 6 = .ok (.ifCond .ne 7, 3) := by decide +kernel
theorem dX5_holds_9 : decode cX5_holds 9 = .ok (.iconst 1, 1) := by decide +kernel
theorem dX5_holds_10 : decode cX5_holds 10 = .ok (.goto 4, 3) := by decide +kernel
theorem dX5_holds_13 : decode cX5_holds 13 = .ok (.iconst 0, 1) := by decide +kernel
theorem dX5_holds_14 : decode cX5_holds 14 = .ok (.ireturn, 1) := by decide +kernel
theorem dX5_isPart_0 : decode cX5_isPart 0 = .ok (.iload_n 1, 1) := by decide +kernel
theorem dX5_isPart_1 : decode cX5_isPart 1 = .ok (.ifCond .lt 15, 3) := by decide +kernel
theorem dX5_isPart_4 : decode cX5_isPart 4 = .ok (.iload_n 1, 1) := by decide +kernel
theorem dX5_isPart_5 : decode cX5_isPart 5 = .ok (.aload_n 0, 1) := by decide +kernel
theorem dX5_isPart_6 : decode cX5_isPart 6 = .ok (.getfield 44, 3) := by decide +kernel
theorem dX5_isPart_9 : decode cX5_isPart 9 = .ok (.if_icmp .ge 7, 3) := by decide +kernel
theorem dX5_isPart_12 : decode cX5_isPart 12 = .ok (.iconst 1, 1) := by decide +kernel
theorem dX5_isPart_13 : decode cX5_isPart 13 = .ok (.goto 4, 3) := by decide +kernel
theorem dX5_isPart_16 : decode cX5_isPart 16 = .ok (.iconst 0, 1) := by decide +kernel
theorem dX5_isPart_17 : decode cX5_isPart 17 = .ok (.ireturn, 1) := by decide +kernel
theorem dX5_isTool_0 : decode cX5_isTool 0 = .ok (.iload_n 0, 1) := by decide +kernel
theorem dX5_isTool_1 : decode cX5_isTool 1 = .ok (.ifCond .lt 12, 3) := by decide +kernel
theorem dX5_isTool_4 : decode cX5_isTool 4 = .ok (.iload_n 0, 1) := by decide +kernel
theorem dX5_isTool_5 : decode cX5_isTool 5 = .ok (.iconst 4, 1) := by decide +kernel
theorem dX5_isTool_6 : decode cX5_isTool 6 = .ok (.if_icmp .ge 7, 3) := by decide +kernel
theorem dX5_isTool_9 : decode cX5_isTool 9 = .ok (.iconst 1, 1) := by decide +kernel
theorem dX5_isTool_10 : decode cX5_isTool 10 = .ok (.goto 4, 3) := by decide +kernel
theorem dX5_isTool_13 : decode cX5_isTool 13 = .ok (.iconst 0, 1) := by decide +kernel
theorem dX5_isTool_14 : decode cX5_isTool 14 = .ok (.ireturn, 1) := by decide +kernel
theorem dX5_isDirection_0 : decode cX5_isDirection 0 = .ok (.iload_n 0, 1) := by decide +kernel
theorem dX5_isDirection_1 : decode cX5_isDirection 1 = .ok (.ifCond .lt 13, 3) := by decide +kernel
theorem dX5_isDirection_4 : decode cX5_isDirection 4 = .ok (.iload_n 0, 1) := by decide +kernel
theorem dX5_isDirection_5 : decode cX5_isDirection 5 = .ok (.bipush 6, 2) := by decide +kernel
theorem dX5_isDirection_7 : decode cX5_isDirection 7 = .ok (.if_icmp .ge 7, 3) := by decide +kernel
theorem dX5_isDirection_10 : decode cX5_isDirection 10 = .ok (.iconst 1, 1) := by decide +kernel
theorem dX5_isDirection_11 : decode cX5_isDirection 11 = .ok (.goto 4, 3) := by decide +kernel
theorem dX5_isDirection_14 : decode cX5_isDirection 14 = .ok (.iconst 0, 1) := by decide +kernel
theorem dX5_isDirection_15 : decode cX5_isDirection 15 = .ok (.ireturn, 1) := by decide +kernel
theorem dX5_whole_0 : decode cX5_whole 0 = .ok (.iconst 1, 1) := by decide +kernel
theorem dX5_whole_1 : decode cX5_whole 1 = .ok (.aload_n 0, 1) := by decide +kernel
theorem dX5_whole_2 : decode cX5_whole 2 = .ok (.getfield 44, 3) := by decide +kernel
theorem dX5_whole_5 : decode cX5_whole 5 = .ok (.ishl, 1) := by decide +kernel
theorem dX5_whole_6 : decode cX5_whole 6 = .ok (.iconst 1, 1) := by decide +kernel
theorem dX5_whole_7 : decode cX5_whole 7 = .ok (.isub, 1) := by decide +kernel
theorem dX5_whole_8 : decode cX5_whole 8 = .ok (.ireturn, 1) := by decide +kernel
theorem dX5_bits_0 : decode cX5_bits 0 = .ok (.iconst 0, 1) := by decide +kernel
theorem dX5_bits_1 : decode cX5_bits 1 = .ok (.istore_n 1, 1) := by decide +kernel
theorem dX5_bits_2 : decode cX5_bits 2 = .ok (.iconst 0, 1) := by decide +kernel
theorem dX5_bits_3 : decode cX5_bits 3 = .ok (.istore_n 2, 1) := by decide +kernel
theorem dX5_bits_4 : decode cX5_bits 4 = .ok (.iload_n 2, 1) := by decide +kernel
theorem dX5_bits_5 : decode cX5_bits 5 = .ok (.bipush 8, 2) := by decide +kernel
theorem dX5_bits_7 : decode cX5_bits 7 = .ok (.if_icmp .ge 17, 3) := by decide +kernel
theorem dX5_bits_10 : decode cX5_bits 10 = .ok (.iload_n 1, 1) := by decide +kernel
theorem dX5_bits_11 : decode cX5_bits 11 = .ok (.iload_n 0, 1) := by decide +kernel
theorem dX5_bits_12 : decode cX5_bits 12 = .ok (.iload_n 2, 1) := by decide +kernel
theorem dX5_bits_13 : decode cX5_bits 13 = .ok (.ishr, 1) := by decide +kernel
theorem dX5_bits_14 : decode cX5_bits 14 = .ok (.iconst 1, 1) := by decide +kernel
theorem dX5_bits_15 : decode cX5_bits 15 = .ok (.iand, 1) := by decide +kernel
theorem dX5_bits_16 : decode cX5_bits 16 = .ok (.iadd, 1) := by decide +kernel
theorem dX5_bits_17 : decode cX5_bits 17 = .ok (.istore_n 1, 1) := by decide +kernel
theorem dX5_bits_18 : decode cX5_bits 18 = .ok (.iinc 2 1, 3) := by decide +kernel
theorem dX5_bits_21 : decode cX5_bits 21 = .ok (.goto (-17), 3) := by decide +kernel
theorem dX5_bits_24 : decode cX5_bits 24 = .ok (.iload_n 1, 1) := by decide +kernel
theorem dX5_bits_25 : decode cX5_bits 25 = .ok (.ireturn, 1) := by decide +kernel
set_option maxRecDepth 20000 in
theorem ggX5_addPart_X5_isTool : GoodIn wsX5_addPart wsX5_isTool := goodIn_r _ [7] (by decide +kernel) (by decide +kernel)
set_option maxRecDepth 20000 in
theorem gX5_addPart_X5_isTool : GoodIn wsX5_addPart (va_wsS RX5 47 yX5_isTool wsX5_isTool) := goodIn_app (goodIn_of _ (by decide +kernel)) ggX5_addPart_X5_isTool
set_option maxRecDepth 20000 in
theorem ggX5_addPart_X5_holds : GoodIn wsX5_addPart wsX5_holds := goodIn_r _ [11, 12, 13, 14, 15, 16, 17, 18, 19, 20, 21, 22, 23, 24, 25, 26, 27, 28, 29, 30, 31] (by decide +kernel) (by decide +kernel)
set_option maxRecDepth 20000 in
theorem gX5_addPart_X5_holds : GoodIn wsX5_addPart (wsV RX5 51 RX5 yX5_holds wsX5_holds) := goodIn_app (goodIn_of _ (by decide +kernel)) ggX5_addPart_X5_holds
theorem dX5_addPart_0 : decode cX5_addPart 0 = .ok (.aload_n 0, 1) := by decide +kernel
theorem dX5_addPart_1 : decode cX5_addPart 1 = .ok (.iload_n 1, 1) := by decide +kernel
theorem dX5_addPart_2 : decode cX5_addPart 2 = .ok (.invokestatic 47, 3) := by decide +kernel
theorem dX5_addPart_5 : decode cX5_addPart 5 = .ok (.ifCond .ne 7, 3) := by decide +kernel
theorem dX5_addPart_8 : decode cX5_addPart 8 = .ok (.iconst 1, 1) := by decide +kernel
theorem dX5_addPart_9 : decode cX5_addPart 9 = .ok (.goto 17, 3) := by decide +kernel
theorem dX5_addPart_12 : decode cX5_addPart 12 = .ok (.aload_n 0, 1) := by decide +kernel
theorem dX5_addPart_13 : decode cX5_addPart 13 = .ok (.getfield 44, 3) := by decide +kernel
theorem dX5_addPart_16 : decode cX5_addPart 16 = .ok (.bipush 8, 2) := by decide +kernel
theorem dX5_addPart_18 : decode cX5_addPart 18 = .ok (.if_icmp .ne 7, 3) := by decide +kernel
theorem dX5_addPart_21 : decode cX5_addPart 21 = .ok (.iconst 2, 1) := by decide +kernel
theorem dX5_addPart_22 : decode cX5_addPart 22 = .ok (.goto 4, 3) := by decide +kernel
theorem dX5_addPart_25 : decode cX5_addPart 25 = .ok (.iconst 0, 1) := by decide +kernel
theorem dX5_addPart_26 : decode cX5_addPart 26 = .ok (.invokevirtual 51, 3) := by decide +kernel
theorem dX5_addPart_29 : decode cX5_addPart 29 = .ok (.ifCond .ne 5, 3) := by decide +kernel
theorem dX5_addPart_32 : decode cX5_addPart 32 = .ok (.iconst 0, 1) := by decide +kernel
theorem dX5_addPart_33 : decode cX5_addPart 33 = .ok (.ireturn, 1) := by decide +kernel
theorem dX5_addPart_34 : decode cX5_addPart 34 = .ok (.aload_n 0, 1) := by decide +kernel
theorem dX5_addPart_35 : decode cX5_addPart 35 = .ok (.getfield 7, 3) := by decide +kernel
theorem dX5_addPart_38 : decode cX5_addPart 38 = .ok (.aload_n 0, 1) := by decide +kernel
theorem dX5_addPart_39 : decode cX5_addPart 39 = .ok (.getfield 44, 3) := by decide +kernel
theorem dX5_addPart_42 : decode cX5_addPart 42 = .ok (.iload_n 1, 1) := by decide +kernel
theorem dX5_addPart_43 : decode cX5_addPart 43 = .ok (.iastore, 1) := by decide +kernel
theorem dX5_addPart_44 : decode cX5_addPart 44 = .ok (.aload_n 0, 1) := by decide +kernel
theorem dX5_addPart_45 : decode cX5_addPart 45 = .ok (.dup, 1) := by decide +kernel
theorem dX5_addPart_46 : decode cX5_addPart 46 = .ok (.getfield 44, 3) := by decide +kernel
theorem dX5_addPart_49 : decode cX5_addPart 49 = .ok (.iconst 1, 1) := by decide +kernel
theorem dX5_addPart_50 : decode cX5_addPart 50 = .ok (.iadd, 1) := by decide +kernel
theorem dX5_addPart_51 : decode cX5_addPart 51 = .ok (.putfield 44, 3) := by decide +kernel
theorem dX5_addPart_54 : decode cX5_addPart 54 = .ok (.aload_n 0, 1) := by decide +kernel
theorem dX5_addPart_55 : decode cX5_addPart 55 = .ok (.iconst 0, 1) := by decide +kernel
theorem dX5_addPart_56 : decode cX5_addPart 56 = .ok (.putfield 54, 3) := by decide +kernel
theorem dX5_addPart_59 : decode cX5_addPart 59 = .ok (.aload_n 0, 1) := by decide +kernel
theorem dX5_addPart_60 : decode cX5_addPart 60 = .ok (.getfield 44, 3) := by decide +kernel
theorem dX5_addPart_63 : decode cX5_addPart 63 = .ok (.iconst 1, 1) := by decide +kernel
theorem dX5_addPart_64 : decode cX5_addPart 64 = .ok (.isub, 1) := by decide +kernel
theorem dX5_addPart_65 : decode cX5_addPart 65 = .ok (.ireturn, 1) := by decide +kernel
set_option maxRecDepth 20000 in
theorem ggX5_setTool_X5_isPart : GoodIn wsX5_setTool wsX5_isPart := goodIn_r _ [7, 8, 17, 18, 19, 20, 21, 22, 23, 24, 25, 26, 27, 28, 29, 30, 31, 32, 33, 34, 35] (by decide +kernel) (by decide +kernel)
set_option maxRecDepth 20000 in
theorem gX5_setTool_X5_isPart : GoodIn wsX5_setTool (wsV RX5 58 RX5 yX5_isPart wsX5_isPart) := goodIn_app (goodIn_of _ (by decide +kernel)) ggX5_setTool_X5_isPart
set_option maxRecDepth 20000 in
theorem ggX5_setTool_X5_isTool : GoodIn wsX5_setTool wsX5_isTool := goodIn_r _ [11] (by decide +kernel) (by decide +kernel)
set_option maxRecDepth 20000 in
theorem gX5_setTool_X5_isTool : GoodIn wsX5_setTool (va_wsS RX5 47 yX5_isTool wsX5_isTool) := goodIn_app (goodIn_of _ (by decide +kernel)) ggX5_setTool_X5_isTool
set_option maxRecDepth 20000 in
theorem ggX5_setTool_X5_holds : GoodIn wsX5_setTool wsX5_holds := goodIn_r _ [15, 16, 17, 18, 19, 20, 21, 22, 23, 24, 25, 26, 27, 28, 29, 30, 31, 32, 33, 34, 35] (by decide +kernel) (by decide +kernel)
set_option maxRecDepth 20000 in
theorem gX5_setTool_X5_holds : GoodIn wsX5_setTool (wsV RX5 51 RX5 yX5_holds wsX5_holds) := goodIn_app (goodIn_of _ (by decide +kernel)) ggX5_setTool_X5_holds
theorem dX5_setTool_0 : decode cX5_setTool 0 = .ok (.aload_n 0, 1) := by decide +kernel
theorem dX5_setTool_1 : decode cX5_setTool 1 = .ok (.aload_n 0, 1) := by decide +kernel
theorem dX5_setTool_2 : decode cX5_setTool 2 = .ok (.iload_n 1, 1) := by decide +kernel
theorem dX5_setTool_3 : decode cX5_setTool 3 = .ok (.invokevirtual 58, 3) := by decide +kernel
theorem dX5_setTool_6 : decode cX5_setTool 6 = .ok (.ifCond .ne 7, 3) := by decide +kernel
theorem dX5_setTool_9 : decode cX5_setTool 9 = .ok (.iconst 1, 1) := by decide +kernel
theorem dX5_setTool_10 : decode cX5_setTool 10 = .ok (.goto 15, 3) := by decide +kernel
theorem dX5_setTool_13 : decode cX5_setTool 13 = .ok (.iload_n 2, 1) := by decide +kernel
theorem dX5_setTool_14 : decode cX5_setTool 14 = .ok (.invokestatic 47, 3) := by decide +kernel
theorem dX5_setTool_17 : decode cX5_setTool 17 = .ok (.ifCond .eq 7, 3) := by decide +kernel
theorem dX5_setTool_20 : decode cX5_setTool 20 = .ok (.iconst 0, 1) := by decide +kernel
theorem dX5_setTool_21 : decode cX5_setTool 21 = .ok (.goto 4, 3) := by decide +kernel
theorem dX5_setTool_24 : decode cX5_setTool 24 = .ok (.iconst 2, 1) := by decide +kernel
theorem dX5_setTool_25 : decode cX5_setTool 25 = .ok (.invokevirtual 51, 3) := by decide +kernel
theorem dX5_setTool_28 : decode cX5_setTool 28 = .ok (.ifCond .ne 5, 3) := by decide +kernel
theorem dX5_setTool_31 : decode cX5_setTool 31 = .ok (.iconst 0, 1) := by decide +kernel
theorem dX5_setTool_32 : decode cX5_setTool 32 = .ok (.ireturn, 1) := by decide +kernel
theorem dX5_setTool_33 : decode cX5_setTool 33 = .ok (.aload_n 0, 1) := by decide +kernel
theorem dX5_setTool_34 : decode cX5_setTool 34 = .ok (.getfield 7, 3) := by decide +kernel
theorem dX5_setTool_37 : decode cX5_setTool 37 = .ok (.iload_n 1, 1) := by decide +kernel
theorem dX5_setTool_38 : decode cX5_setTool 38 = .ok (.iaload, 1) := by decide +kernel
theorem dX5_setTool_39 : decode cX5_setTool 39 = .ok (.istore_n 3, 1) := by decide +kernel
theorem dX5_setTool_40 : decode cX5_setTool 40 = .ok (.aload_n 0, 1) := by decide +kernel
theorem dX5_setTool_41 : decode cX5_setTool 41 = .ok (.getfield 7, 3) := by decide +kernel
theorem dX5_setTool_44 : decode cX5_setTool 44 = .ok (.iload_n 1, 1) := by decide +kernel
theorem dX5_setTool_45 : decode cX5_setTool 45 = .ok (.iload_n 2, 1) := by decide +kernel
theorem dX5_setTool_46 : decode cX5_setTool 46 = .ok (.iastore, 1) := by decide +kernel
theorem dX5_setTool_47 : decode cX5_setTool 47 = .ok (.aload_n 0, 1) := by decide +kernel
theorem dX5_setTool_48 : decode cX5_setTool 48 = .ok (.iconst 0, 1) := by decide +kernel
theorem dX5_setTool_49 : decode cX5_setTool 49 = .ok (.putfield 54, 3) := by decide +kernel
theorem dX5_setTool_52 : decode cX5_setTool 52 = .ok (.iload_n 3, 1) := by decide +kernel
theorem dX5_setTool_53 : decode cX5_setTool 53 = .ok (.ireturn, 1) := by decide +kernel
set_option maxRecDepth 20000 in
theorem ggX5_contact_X5_isPart : GoodIn wsX5_contact wsX5_isPart := goodIn_r _ [7, 8, 17, 18, 19, 20, 21, 22, 23, 24, 25, 26, 27, 28, 29, 30, 31, 32, 33, 34, 35] (by decide +kernel) (by decide +kernel)
set_option maxRecDepth 20000 in
theorem gX5_contact_X5_isPart : GoodIn wsX5_contact (wsV RX5 58 RX5 yX5_isPart wsX5_isPart) := goodIn_app (goodIn_of _ (by decide +kernel)) ggX5_contact_X5_isPart
set_option maxRecDepth 20000 in
theorem ggX5_contact_X5_holds : GoodIn wsX5_contact wsX5_holds := goodIn_r _ [12, 13, 17, 18, 19, 20, 21, 22, 23, 24, 25, 26, 27, 28, 29, 30, 31, 32, 33, 34, 35] (by decide +kernel) (by decide +kernel)
set_option maxRecDepth 20000 in
theorem gX5_contact_X5_holds : GoodIn wsX5_contact (wsV RX5 51 RX5 yX5_holds wsX5_holds) := goodIn_app (goodIn_of _ (by decide +kernel)) ggX5_contact_X5_holds
set_option maxRecDepth 20000 in
theorem ggX5_contact_X5_bits : GoodIn wsX5_contact wsX5_bits := goodIn_r _ [16] (by decide +kernel) (by decide +kernel)
set_option maxRecDepth 20000 in
theorem gX5_contact_X5_bits : GoodIn wsX5_contact (va_wsS RX5 61 yX5_bits wsX5_bits) := goodIn_app (goodIn_of _ (by decide +kernel)) ggX5_contact_X5_bits
theorem dX5_contact_0 : decode cX5_contact 0 = .ok (.aload_n 0, 1) := by decide +kernel
theorem dX5_contact_1 : decode cX5_contact 1 = .ok (.aload_n 0, 1) := by decide +kernel
theorem dX5_contact_2 : decode cX5_contact 2 = .ok (.iload_n 1, 1) := by decide +kernel
theorem dX5_contact_3 : decode cX5_contact 3 = .ok (.invokevirtual 58, 3) := by decide +kernel
theorem dX5_contact_6 : decode cX5_contact 6 = .ok (.ifCond .eq 11, 3) := by decide +kernel
theorem dX5_contact_9 : decode cX5_contact 9 = .ok (.aload_n 0, 1) := by decide +kernel
theorem dX5_contact_10 : decode cX5_contact 10 = .ok (.iload_n 2, 1) := by decide +kernel
theorem dX5_contact_11 : decode cX5_contact 11 = .ok (.invokevirtual 58, 3) := by decide +kernel
theorem dX5_contact_14 : decode cX5_contact 14 = .ok (.ifCond .ne 7, 3) := by decide +kernel
theorem dX5_contact_17 : decode cX5_contact 17 = .ok (.iconst 1, 1) := by decide +kernel
theorem dX5_contact_18 : decode cX5_contact 18 = .ok (.goto 13, 3) := by decide +kernel
theorem dX5_contact_21 : decode cX5_contact 21 = .ok (.iload_n 1, 1) := by decide +kernel
theorem dX5_contact_22 : decode cX5_contact 22 = .ok (.iload_n 2, 1) := by decide +kernel
theorem dX5_contact_23 : decode cX5_contact 23 = .ok (.if_icmp .ne 7, 3) := by decide +kernel
theorem dX5_contact_26 : decode cX5_contact 26 = .ok (.iconst 2, 1) := by decide +kernel
theorem dX5_contact_27 : decode cX5_contact 27 = .ok (.goto 4, 3) := by decide +kernel
theorem dX5_contact_30 : decode cX5_contact 30 = .ok (.iconst 0, 1) := by decide +kernel
theorem dX5_contact_31 : decode cX5_contact 31 = .ok (.invokevirtual 51, 3) := by decide +kernel
theorem dX5_contact_34 : decode cX5_contact 34 = .ok (.ifCond .ne 5, 3) := by decide +kernel
theorem dX5_contact_37 : decode cX5_contact 37 = .ok (.iconst 0, 1) := by decide +kernel
theorem dX5_contact_38 : decode cX5_contact 38 = .ok (.ireturn, 1) := by decide +kernel
theorem dX5_contact_39 : decode cX5_contact 39 = .ok (.aload_n 0, 1) := by decide +kernel
theorem dX5_contact_40 : decode cX5_contact 40 = .ok (.getfield 13, 3) := by decide +kernel
theorem dX5_contact_43 : decode cX5_contact 43 = .ok (.iload_n 1, 1) := by decide +kernel
theorem dX5_contact_44 : decode cX5_contact 44 = .ok (.aload_n 0, 1) := by decide +kernel
theorem dX5_contact_45 : decode cX5_contact 45 = .ok (.getfield 13, 3) := by decide +kernel
theorem dX5_contact_48 : decode cX5_contact 48 = .ok (.iload_n 1, 1) := by decide +kernel
theorem dX5_contact_49 : decode cX5_contact 49 = .ok (.iaload, 1) := by decide +kernel
theorem dX5_contact_50 : decode cX5_contact 50 = .ok (.iconst 1, 1) := by decide +kernel
theorem dX5_contact_51 : decode cX5_contact 51 = .ok (.iload_n 2, 1) := by decide +kernel
theorem dX5_contact_52 : decode cX5_contact 52 = .ok (.ishl, 1) := by decide +kernel
theorem dX5_contact_53 : decode cX5_contact 53 = .ok (.iconst (-1), 1) := by decide +kernel
theorem dX5_contact_54 : decode cX5_contact 54 = .ok (.ixor, 1) := by decide +kernel
theorem dX5_contact_55 : decode cX5_contact 55 = .ok (.iand, 1) := by decide +kernel
theorem dX5_contact_56 : decode cX5_contact 56 = .ok (.iload_n 3, 1) := by decide +kernel
theorem dX5_contact_57 : decode cX5_contact 57 = .ok (.ifCond .eq 9, 3) := by decide +kernel
theorem dX5_contact_60 : decode cX5_contact 60 = .ok (.iconst 1, 1) := by decide +kernel
theorem dX5_contact_61 : decode cX5_contact 61 = .ok (.iload_n 2, 1) := by decide +kernel
theorem dX5_contact_62 : decode cX5_contact 62 = .ok (.ishl, 1) := by decide +kernel
theorem dX5_contact_63 : decode cX5_contact 63 = .ok (.goto 4, 3) := by decide +kernel
theorem dX5_contact_66 : decode cX5_contact 66 = .ok (.iconst 0, 1) := by decide +kernel
theorem dX5_contact_67 : decode cX5_contact 67 = .ok (.ior, 1) := by decide +kernel
theorem dX5_contact_68 : decode cX5_contact 68 = .ok (.iastore, 1) := by decide +kernel
theorem dX5_contact_69 : decode cX5_contact 69 = .ok (.aload_n 0, 1) := by decide +kernel
theorem dX5_contact_70 : decode cX5_contact 70 = .ok (.getfield 13, 3) := by decide +kernel
theorem dX5_contact_73 : decode cX5_contact 73 = .ok (.iload_n 2, 1) := by decide +kernel
theorem dX5_contact_74 : decode cX5_contact 74 = .ok (.aload_n 0, 1) := by decide +kernel
theorem dX5_contact_75 : decode cX5_contact 75 = .ok (.getfield 13, 3) := by decide +kernel
theorem dX5_contact_78 : decode cX5_contact 78 = .ok (.iload_n 2, 1) := by decide +kernel
theorem dX5_contact_79 : decode cX5_contact 79 = .ok (.iaload, 1) := by decide +kernel
theorem dX5_contact_80 : decode cX5_contact 80 = .ok (.iconst 1, 1) := by decide +kernel
theorem dX5_contact_81 : decode cX5_contact 81 = .ok (.iload_n 1, 1) := by decide +kernel
theorem dX5_contact_82 : decode cX5_contact 82 = .ok (.ishl, 1) := by decide +kernel
theorem dX5_contact_83 : decode cX5_contact 83 = .ok (.iconst (-1), 1) := by decide +kernel
theorem dX5_contact_84 : decode cX5_contact 84 = .ok (.ixor, 1) := by decide +kernel
theorem dX5_contact_85 : decode cX5_contact 85 = .ok (.iand, 1) := by decide +kernel
theorem dX5_contact_86 : decode cX5_contact 86 = .ok (.iload_n 3, 1) := by decide +kernel
theorem dX5_contact_87 : decode cX5_contact 87 = .ok (.ifCond .eq 9, 3) := by decide +kernel
theorem dX5_contact_90 : decode cX5_contact 90 = .ok (.iconst 1, 1) := by decide +kernel
theorem dX5_contact_91 : decode cX5_contact 91 = .ok (.iload_n 1, 1) := by decide +kernel
theorem dX5_contact_92 : decode cX5_contact 92 = .ok (.ishl, 1) := by decide +kernel
theorem dX5_contact_93 : decode cX5_contact 93 = .ok (.goto 4, 3) := by decide +kernel
theorem dX5_contact_96 : decode cX5_contact 96 = .ok (.iconst 0, 1) := by decide +kernel
theorem dX5_contact_97 : decode cX5_contact 97 = .ok (.ior, 1) := by decide +kernel
theorem dX5_contact_98 : decode cX5_contact 98 = .ok (.iastore, 1) := by decide +kernel
theorem dX5_contact_99 : decode cX5_contact 99 = .ok (.aload_n 0, 1) := by decide +kernel
theorem dX5_contact_100 : decode cX5_contact 100 = .ok (.iconst 0, 1) := by decide +kernel
theorem dX5_contact_101 : decode cX5_contact 101 = .ok (.putfield 54, 3) := by decide +kernel
theorem dX5_contact_104 : decode cX5_contact 104 = .ok (.aload_n 0, 1) := by decide +kernel
theorem dX5_contact_105 : decode cX5_contact 105 = .ok (.getfield 13, 3) := by decide +kernel
theorem dX5_contact_108 : decode cX5_contact 108 = .ok (.iload_n 1, 1) := by decide +kernel
theorem dX5_contact_109 : decode cX5_contact 109 = .ok (.iaload, 1) := by decide +kernel
theorem dX5_contact_110 : decode cX5_contact 110 = .ok (.invokestatic 61, 3) := by decide +kernel
theorem dX5_contact_113 : decode cX5_contact 113 = .ok (.ireturn, 1) := by decide +kernel
set_option maxRecDepth 20000 in
theorem ggX5_hinder_X5_isPart : GoodIn wsX5_hinder wsX5_isPart := goodIn_r _ [7, 8, 20, 21, 22, 23, 24, 25, 26, 27, 28, 29, 30, 31, 32, 33, 34, 35, 36, 37, 38] (by decide +kernel) (by decide +kernel)
set_option maxRecDepth 20000 in
theorem gX5_hinder_X5_isPart : GoodIn wsX5_hinder (wsV RX5 58 RX5 yX5_isPart wsX5_isPart) := goodIn_app (goodIn_of _ (by decide +kernel)) ggX5_hinder_X5_isPart
set_option maxRecDepth 20000 in
theorem ggX5_hinder_X5_isDirection : GoodIn wsX5_hinder wsX5_isDirection := goodIn_r _ [11] (by decide +kernel) (by decide +kernel)
set_option maxRecDepth 20000 in
theorem gX5_hinder_X5_isDirection : GoodIn wsX5_hinder (va_wsS RX5 65 yX5_isDirection wsX5_isDirection) := goodIn_app (goodIn_of _ (by decide +kernel)) ggX5_hinder_X5_isDirection
set_option maxRecDepth 20000 in
theorem ggX5_hinder_X5_holds : GoodIn wsX5_hinder wsX5_holds := goodIn_r _ [15, 16, 20, 21, 22, 23, 24, 25, 26, 27, 28, 29, 30, 31, 32, 33, 34, 35, 36, 37, 38] (by decide +kernel) (by decide +kernel)
set_option maxRecDepth 20000 in
theorem gX5_hinder_X5_holds : GoodIn wsX5_hinder (wsV RX5 51 RX5 yX5_holds wsX5_holds) := goodIn_app (goodIn_of _ (by decide +kernel)) ggX5_hinder_X5_holds
set_option maxRecDepth 20000 in
theorem ggX5_hinder_X5_bits : GoodIn wsX5_hinder wsX5_bits := goodIn_r _ [19] (by decide +kernel) (by decide +kernel)
set_option maxRecDepth 20000 in
theorem gX5_hinder_X5_bits : GoodIn wsX5_hinder (va_wsS RX5 61 yX5_bits wsX5_bits) := goodIn_app (goodIn_of _ (by decide +kernel)) ggX5_hinder_X5_bits
theorem dX5_hinder_0 : decode cX5_hinder 0 = .ok (.aload_n 0, 1) := by decide +kernel
theorem dX5_hinder_1 : decode cX5_hinder 1 = .ok (.iload_n 1, 1) := by decide +kernel
theorem dX5_hinder_2 : decode cX5_hinder 2 = .ok (.invokevirtual 58, 3) := by decide +kernel
theorem dX5_hinder_5 : decode cX5_hinder 5 = .ok (.ifCond .eq 22, 3) := by decide +kernel
theorem dX5_hinder_8 : decode cX5_hinder 8 = .ok (.aload_n 0, 1) := by decide +kernel
theorem dX5_hinder_9 : decode cX5_hinder 9 = .ok (.iload_n 3, 1) := by decide +kernel
theorem dX5_hinder_10 : decode cX5_hinder 10 = .ok (.invokevirtual 58, 3) := by decide +kernel
theorem dX5_hinder_13 : decode cX5_hinder 13 = .ok (.ifCond .eq 14, 3) := by decide +kernel
theorem dX5_hinder_16 : decode cX5_hinder 16 = .ok (.iload_n 2, 1) := by decide +kernel
theorem dX5_hinder_17 : decode cX5_hinder 17 = .ok (.invokestatic 65, 3) := by decide +kernel
theorem dX5_hinder_20 : decode cX5_hinder 20 = .ok (.ifCond .eq 7, 3) := by decide +kernel
theorem dX5_hinder_23 : decode cX5_hinder 23 = .ok (.iconst 1, 1) := by decide +kernel
theorem dX5_hinder_24 : decode cX5_hinder 24 = .ok (.goto 4, 3) := by decide +kernel
theorem dX5_hinder_27 : decode cX5_hinder 27 = .ok (.iconst 0, 1) := by decide +kernel
theorem dX5_hinder_28 : decode cX5_hinder 28 = .ok (.istore 5, 2) := by decide +kernel
theorem dX5_hinder_30 : decode cX5_hinder 30 = .ok (.aload_n 0, 1) := by decide +kernel
theorem dX5_hinder_31 : decode cX5_hinder 31 = .ok (.iload 5, 2) := by decide +kernel
theorem dX5_hinder_33 : decode cX5_hinder 33 = .ok (.ifCond .ne 7, 3) := by decide +kernel
theorem dX5_hinder_36 : decode cX5_hinder 36 = .ok (.iconst 1, 1) := by decide +kernel
theorem dX5_hinder_37 : decode cX5_hinder 37 = .ok (.goto 13, 3) := by decide +kernel
theorem dX5_hinder_40 : decode cX5_hinder 40 = .ok (.iload_n 1, 1) := by decide +kernel
theorem dX5_hinder_41 : decode cX5_hinder 41 = .ok (.iload_n 3, 1) := by decide +kernel
theorem dX5_hinder_42 : decode cX5_hinder 42 = .ok (.if_icmp .ne 7, 3) := by decide +kernel
theorem dX5_hinder_45 : decode cX5_hinder 45 = .ok (.iconst 2, 1) := by decide +kernel
theorem dX5_hinder_46 : decode cX5_hinder 46 = .ok (.goto 4, 3) := by decide +kernel
theorem dX5_hinder_49 : decode cX5_hinder 49 = .ok (.iconst 0, 1) := by decide +kernel
theorem dX5_hinder_50 : decode cX5_hinder 50 = .ok (.invokevirtual 51, 3) := by decide +kernel
theorem dX5_hinder_53 : decode cX5_hinder 53 = .ok (.ifCond .ne 5, 3) := by decide +kernel
theorem dX5_hinder_56 : decode cX5_hinder 56 = .ok (.iconst 0, 1) := by decide +kernel
theorem dX5_hinder_57 : decode cX5_hinder 57 = .ok (.ireturn, 1) := by decide +kernel
theorem dX5_hinder_58 : decode cX5_hinder 58 = .ok (.bipush 8, 2) := by decide +kernel
theorem dX5_hinder_60 : decode cX5_hinder 60 = .ok (.iload_n 2, 1) := by decide +kernel
theorem dX5_hinder_61 : decode cX5_hinder 61 = .ok (.imul, 1) := by decide +kernel
theorem dX5_hinder_62 : decode cX5_hinder 62 = .ok (.iload_n 1, 1) := by decide +kernel
theorem dX5_hinder_63 : decode cX5_hinder 63 = .ok (.iadd, 1) := by decide +kernel
theorem dX5_hinder_64 : decode cX5_hinder 64 = .ok (.istore 6, 2) := by decide +kernel
theorem dX5_hinder_66 : decode cX5_hinder 66 = .ok (.bipush 8, 2) := by decide +kernel
theorem dX5_hinder_68 : decode cX5_hinder 68 = .ok (.iload_n 2, 1) := by decide +kernel
theorem dX5_hinder_69 : decode cX5_hinder 69 = .ok (.iconst 1, 1) := by decide +kernel
theorem dX5_hinder_70 : decode cX5_hinder 70 = .ok (.ixor, 1) := by decide +kernel
theorem dX5_hinder_71 : decode cX5_hinder 71 = .ok (.imul, 1) := by decide +kernel
theorem dX5_hinder_72 : decode cX5_hinder 72 = .ok (.iload_n 3, 1) := by decide +kernel
theorem dX5_hinder_73 : decode cX5_hinder 73 = .ok (.iadd, 1) := by decide +kernel
theorem dX5_hinder_74 : decode cX5_hinder 74 = .ok (.istore 7, 2) := by decide +kernel
theorem dX5_hinder_76 : decode cX5_hinder 76 = .ok (.aload_n 0, 1) := by decide +kernel
theorem dX5_hinder_77 : decode cX5_hinder 77 = .ok (.getfield 16, 3) := by decide +kernel
theorem dX5_hinder_80 : decode cX5_hinder 80 = .ok (.iload 6, 2) := by decide +kernel
theorem dX5_hinder_82 : decode cX5_hinder 82 = .ok (.aload_n 0, 1) := by decide +kernel
theorem dX5_hinder_83 : decode cX5_hinder 83 = .ok (.getfield 16, 3) := by decide +kernel
theorem dX5_hinder_86 : decode cX5_hinder 86 = .ok (.iload 6, 2) := by decide +kernel
theorem dX5_hinder_88 : decode cX5_hinder 88 = .ok (.iaload, 1) := by decide +kernel
theorem dX5_hinder_89 : decode cX5_hinder 89 = .ok (.iconst 1, 1) := by decide +kernel
theorem dX5_hinder_90 : decode cX5_hinder 90 = .ok (.iload_n 3, 1) := by decide +kernel
theorem dX5_hinder_91 : decode cX5_hinder 91 = .ok (.ishl, 1) := by decide +kernel
theorem dX5_hinder_92 : decode cX5_hinder 92 = .ok (.iconst (-1), 1) := by decide +kernel
theorem dX5_hinder_93 : decode cX5_hinder 93 = .ok (.ixor, 1) := by decide +kernel
theorem dX5_hinder_94 : decode cX5_hinder 94 = .ok (.iand, 1) := by decide +kernel
theorem dX5_hinder_95 : decode cX5_hinder 95 = .ok (.iload 4, 2) := by decide +kernel
theorem dX5_hinder_97 : decode cX5_hinder 97 = .ok (.ifCond .eq 9, 3) := by decide +kernel
theorem dX5_hinder_100 : decode cX5_hinder 100 = .ok (.iconst 1, 1) := by decide +kernel
theorem dX5_hinder_101 : decode cX5_hinder 101 = .ok (.iload_n 3, 1) := by decide +kernel
theorem dX5_hinder_102 : decode cX5_hinder 102 = .ok (.ishl, 1) := by decide +kernel
theorem dX5_hinder_103 : decode cX5_hinder 103 = .ok (.goto 4, 3) := by decide +kernel
theorem dX5_hinder_106 : decode cX5_hinder 106 = .ok (.iconst 0, 1) := by decide +kernel
theorem dX5_hinder_107 : decode cX5_hinder 107 = .ok (.ior, 1) := by decide +kernel
theorem dX5_hinder_108 : decode cX5_hinder 108 = .ok (.iastore, 1) := by decide +kernel
theorem dX5_hinder_109 : decode cX5_hinder 109 = .ok (.aload_n 0, 1) := by decide +kernel
theorem dX5_hinder_110 : decode cX5_hinder 110 = .ok (.getfield 16, 3) := by decide +kernel
theorem dX5_hinder_113 : decode cX5_hinder 113 = .ok (.iload 7, 2) := by decide +kernel
theorem dX5_hinder_115 : decode cX5_hinder 115 = .ok (.aload_n 0, 1) := by decide +kernel
theorem dX5_hinder_116 : decode cX5_hinder 116 = .ok (.getfield 16, 3) := by decide +kernel
theorem dX5_hinder_119 : decode cX5_hinder 119 = .ok (.iload 7, 2) := by decide +kernel
theorem dX5_hinder_121 : decode cX5_hinder 121 = .ok (.iaload, 1) := by decide +kernel
theorem dX5_hinder_122 : decode cX5_hinder 122 = .ok (.iconst 1, 1) := by decide +kernel
theorem dX5_hinder_123 : decode cX5_hinder 123 = .ok (.iload_n 1, 1) := by decide +kernel
theorem dX5_hinder_124 : decode cX5_hinder 124 = .ok (.ishl, 1) := by decide +kernel
theorem dX5_hinder_125 : decode cX5_hinder 125 = .ok (.iconst (-1), 1) := by decide +kernel
theorem dX5_hinder_126 : decode cX5_hinder 126 = .ok (.ixor, 1) := by decide +kernel
theorem dX5_hinder_127 : decode cX5_hinder 127 = .ok (.iand, 1) := by decide +kernel
theorem dX5_hinder_128 : decode cX5_hinder 128 = .ok (.iload 4, 2) := by decide +kernel
theorem dX5_hinder_130 : decode cX5_hinder 130 = .ok (.ifCond .eq 9, 3) := by decide +kernel
theorem dX5_hinder_133 : decode cX5_hinder 133 = .ok (.iconst 1, 1) := by decide +kernel
theorem dX5_hinder_134 : decode cX5_hinder 134 = .ok (.iload_n 1, 1) := by decide +kernel
theorem dX5_hinder_135 : decode cX5_hinder 135 = .ok (.ishl, 1) := by decide +kernel
theorem dX5_hinder_136 : decode cX5_hinder 136 = .ok (.goto 4, 3) := by decide +kernel
theorem dX5_hinder_139 : decode cX5_hinder 139 = .ok (.iconst 0, 1) := by decide +kernel
theorem dX5_hinder_140 : decode cX5_hinder 140 = .ok (.ior, 1) := by decide +kernel
theorem dX5_hinder_141 : decode cX5_hinder 141 = .ok (.iastore, 1) := by decide +kernel
theorem dX5_hinder_142 : decode cX5_hinder 142 = .ok (.aload_n 0, 1) := by decide +kernel
theorem dX5_hinder_143 : decode cX5_hinder 143 = .ok (.iconst 0, 1) := by decide +kernel
theorem dX5_hinder_144 : decode cX5_hinder 144 = .ok (.putfield 54, 3) := by decide +kernel
theorem dX5_hinder_147 : decode cX5_hinder 147 = .ok (.aload_n 0, 1) := by decide +kernel
theorem dX5_hinder_148 : decode cX5_hinder 148 = .ok (.getfield 16, 3) := by decide +kernel
theorem dX5_hinder_151 : decode cX5_hinder 151 = .ok (.iload 6, 2) := by decide +kernel
theorem dX5_hinder_153 : decode cX5_hinder 153 = .ok (.iaload, 1) := by decide +kernel
theorem dX5_hinder_154 : decode cX5_hinder 154 = .ok (.invokestatic 61, 3) := by decide +kernel
theorem dX5_hinder_157 : decode cX5_hinder 157 = .ok (.ireturn, 1) := by decide +kernel
set_option maxRecDepth 20000 in
theorem ggX5_setBase_X5_isPart : GoodIn wsX5_setBase wsX5_isPart := goodIn_r _ [7, 8, 14, 15, 16, 17, 18, 19, 20, 21, 22, 23, 24, 25, 26, 27, 28, 29, 30, 31, 32] (by decide +kernel) (by decide +kernel)
set_option maxRecDepth 20000 in
theorem gX5_setBase_X5_isPart : GoodIn wsX5_setBase (wsV RX5 58 RX5 yX5_isPart wsX5_isPart) := goodIn_app (goodIn_of _ (by decide +kernel)) ggX5_setBase_X5_isPart
set_option maxRecDepth 20000 in
theorem ggX5_setBase_X5_holds : GoodIn wsX5_setBase wsX5_holds := goodIn_r _ [12, 13, 14, 15, 16, 17, 18, 19, 20, 21, 22, 23, 24, 25, 26, 27, 28, 29, 30, 31, 32] (by decide +kernel) (by decide +kernel)
set_option maxRecDepth 20000 in
theorem gX5_setBase_X5_holds : GoodIn wsX5_setBase (wsV RX5 51 RX5 yX5_holds wsX5_holds) := goodIn_app (goodIn_of _ (by decide +kernel)) ggX5_setBase_X5_holds
theorem dX5_setBase_0 : decode cX5_setBase 0 = .ok (.aload_n 0, 1) := by decide +kernel
theorem dX5_setBase_1 : decode cX5_setBase 1 = .ok (.aload_n 0, 1) := by decide +kernel
theorem dX5_setBase_2 : decode cX5_setBase 2 = .ok (.iload_n 1, 1) := by decide +kernel
theorem dX5_setBase_3 : decode cX5_setBase 3 = .ok (.invokevirtual 58, 3) := by decide +kernel
theorem dX5_setBase_6 : decode cX5_setBase 6 = .ok (.ifCond .eq 7, 3) := by decide +kernel
theorem dX5_setBase_9 : decode cX5_setBase 9 = .ok (.iconst 0, 1) := by decide +kernel
theorem dX5_setBase_10 : decode cX5_setBase 10 = .ok (.goto 4, 3) := by decide +kernel
theorem dX5_setBase_13 : decode cX5_setBase 13 = .ok (.iconst 1, 1) := by decide +kernel
theorem dX5_setBase_14 : decode cX5_setBase 14 = .ok (.invokevirtual 51, 3) := by decide +kernel
theorem dX5_setBase_17 : decode cX5_setBase 17 = .ok (.ifCond .ne 5, 3) := by decide +kernel
theorem dX5_setBase_20 : decode cX5_setBase 20 = .ok (.iconst 0, 1) := by decide +kernel
theorem dX5_setBase_21 : decode cX5_setBase 21 = .ok (.ireturn, 1) := by decide +kernel
theorem dX5_setBase_22 : decode cX5_setBase 22 = .ok (.aload_n 0, 1) := by decide +kernel
theorem dX5_setBase_23 : decode cX5_setBase 23 = .ok (.getfield 68, 3) := by decide +kernel
theorem dX5_setBase_26 : decode cX5_setBase 26 = .ok (.istore_n 2, 1) := by decide +kernel
theorem dX5_setBase_27 : decode cX5_setBase 27 = .ok (.aload_n 0, 1) := by decide +kernel
theorem dX5_setBase_28 : decode cX5_setBase 28 = .ok (.iload_n 1, 1) := by decide +kernel
theorem dX5_setBase_29 : decode cX5_setBase 29 = .ok (.putfield 68, 3) := by decide +kernel
theorem dX5_setBase_32 : decode cX5_setBase 32 = .ok (.aload_n 0, 1) := by decide +kernel
theorem dX5_setBase_33 : decode cX5_setBase 33 = .ok (.iconst 0, 1) := by decide +kernel
theorem dX5_setBase_34 : decode cX5_setBase 34 = .ok (.putfield 54, 3) := by decide +kernel
theorem dX5_setBase_37 : decode cX5_setBase 37 = .ok (.iload_n 2, 1) := by decide +kernel
theorem dX5_setBase_38 : decode cX5_setBase 38 = .ok (.ireturn, 1) := by decide +kernel
theorem dX5_askSteady_0 : decode cX5_askSteady 0 = .ok (.aload_n 0, 1) := by decide +kernel
theorem dX5_askSteady_1 : decode cX5_askSteady 1 = .ok (.iconst 0, 1) := by decide +kernel
theorem dX5_askSteady_2 : decode cX5_askSteady 2 = .ok (.putfield 40, 3) := by decide +kernel
theorem dX5_askSteady_5 : decode cX5_askSteady 5 = .ok (.aload_n 0, 1) := by decide +kernel
theorem dX5_askSteady_6 : decode cX5_askSteady 6 = .ok (.getfield 71, 3) := by decide +kernel
theorem dX5_askSteady_9 : decode cX5_askSteady 9 = .ok (.istore_n 2, 1) := by decide +kernel
theorem dX5_askSteady_10 : decode cX5_askSteady 10 = .ok (.aload_n 0, 1) := by decide +kernel
theorem dX5_askSteady_11 : decode cX5_askSteady 11 = .ok (.iload_n 1, 1) := by decide +kernel
theorem dX5_askSteady_12 : decode cX5_askSteady 12 = .ok (.putfield 71, 3) := by decide +kernel
theorem dX5_askSteady_15 : decode cX5_askSteady 15 = .ok (.aload_n 0, 1) := by decide +kernel
theorem dX5_askSteady_16 : decode cX5_askSteady 16 = .ok (.iconst 0, 1) := by decide +kernel
theorem dX5_askSteady_17 : decode cX5_askSteady 17 = .ok (.putfield 54, 3) := by decide +kernel
theorem dX5_askSteady_20 : decode cX5_askSteady 20 = .ok (.iload_n 2, 1) := by decide +kernel
theorem dX5_askSteady_21 : decode cX5_askSteady 21 = .ok (.ireturn, 1) := by decide +kernel
theorem dX5_parts_0 : decode cX5_parts 0 = .ok (.aload_n 0, 1) := by decide +kernel
theorem dX5_parts_1 : decode cX5_parts 1 = .ok (.iconst 0, 1) := by decide +kernel
theorem dX5_parts_2 : decode cX5_parts 2 = .ok (.putfield 40, 3) := by decide +kernel
theorem dX5_parts_5 : decode cX5_parts 5 = .ok (.aload_n 0, 1) := by decide +kernel
theorem dX5_parts_6 : decode cX5_parts 6 = .ok (.getfield 44, 3) := by decide +kernel
theorem dX5_parts_9 : decode cX5_parts 9 = .ok (.ireturn, 1) := by decide +kernel
set_option maxRecDepth 20000 in
theorem ggX5_isSet_X5_whole : GoodIn wsX5_isSet wsX5_whole := goodIn_r _ [5, 6, 7, 8, 9, 10, 11, 12, 13, 14, 15, 16, 17, 18, 19, 20, 21, 22, 23, 24, 25] (by decide +kernel) (by decide +kernel)
set_option maxRecDepth 20000 in
theorem gX5_isSet_X5_whole : GoodIn wsX5_isSet (wsV RX5 74 RX5 yX5_whole wsX5_whole) := goodIn_app (goodIn_of _ (by decide +kernel)) ggX5_isSet_X5_whole
theorem dX5_isSet_0 : decode cX5_isSet 0 = .ok (.iload_n 1, 1) := by decide +kernel
theorem dX5_isSet_1 : decode cX5_isSet 1 = .ok (.ifCond .le 15, 3) := by decide +kernel
theorem dX5_isSet_4 : decode cX5_isSet 4 = .ok (.iload_n 1, 1) := by decide +kernel
theorem dX5_isSet_5 : decode cX5_isSet 5 = .ok (.aload_n 0, 1) := by decide +kernel
theorem dX5_isSet_6 : decode cX5_isSet 6 = .ok (.invokevirtual 74, 3) := by decide +kernel
theorem dX5_isSet_9 : decode cX5_isSet 9 = .ok (.if_icmp .gt 7, 3) := by decide +kernel
theorem dX5_isSet_12 : decode cX5_isSet 12 = .ok (.iconst 1, 1) := by decide +kernel
theorem dX5_isSet_13 : decode cX5_isSet 13 = .ok (.goto 4, 3) := by decide +kernel
theorem dX5_isSet_16 : decode cX5_isSet 16 = .ok (.iconst 0, 1) := by decide +kernel
theorem dX5_isSet_17 : decode cX5_isSet 17 = .ok (.ireturn, 1) := by decide +kernel
theorem dX5_reached_0 : decode cX5_reached 0 = .ok (.iconst 0, 1) := by decide +kernel
theorem dX5_reached_1 : decode cX5_reached 1 = .ok (.istore_n 3, 1) := by decide +kernel
theorem dX5_reached_2 : decode cX5_reached 2 = .ok (.iload_n 2, 1) := by decide +kernel
theorem dX5_reached_3 : decode cX5_reached 3 = .ok (.istore 4, 2) := by decide +kernel
theorem dX5_reached_5 : decode cX5_reached 5 = .ok (.iload_n 3, 1) := by decide +kernel
theorem dX5_reached_6 : decode cX5_reached 6 = .ok (.iload 4, 2) := by decide +kernel
theorem dX5_reached_8 : decode cX5_reached 8 = .ok (.if_icmp .eq 55, 3) := by decide +kernel
theorem dX5_reached_11 : decode cX5_reached 11 = .ok (.iload 4, 2) := by decide +kernel
theorem dX5_reached_13 : decode cX5_reached 13 = .ok (.istore_n 3, 1) := by decide +kernel
theorem dX5_reached_14 : decode cX5_reached 14 = .ok (.iconst 0, 1) := by decide +kernel
theorem dX5_reached_15 : decode cX5_reached 15 = .ok (.istore 5, 2) := by decide +kernel
theorem dX5_reached_17 : decode cX5_reached 17 = .ok (.iload 5, 2) := by decide +kernel
theorem dX5_reached_19 : decode cX5_reached 19 = .ok (.aload_n 0, 1) := by decide +kernel
theorem dX5_reached_20 : decode cX5_reached 20 = .ok (.getfield 44, 3) := by decide +kernel
theorem dX5_reached_23 : decode cX5_reached 23 = .ok (.if_icmp .ge 37, 3) := by decide +kernel
theorem dX5_reached_26 : decode cX5_reached 26 = .ok (.iload 4, 2) := by decide +kernel
theorem dX5_reached_28 : decode cX5_reached 28 = .ok (.iload_n 3, 1) := by decide +kernel
theorem dX5_reached_29 : decode cX5_reached 29 = .ok (.iload 5, 2) := by decide +kernel
theorem dX5_reached_31 : decode cX5_reached 31 = .ok (.ishr, 1) := by decide +kernel
theorem dX5_reached_32 : decode cX5_reached 32 = .ok (.iconst 1, 1) := by decide +kernel
theorem dX5_reached_33 : decode cX5_reached 33 = .ok (.iand, 1) := by decide +kernel
theorem dX5_reached_34 : decode cX5_reached 34 = .ok (.iconst 1, 1) := by decide +kernel
theorem dX5_reached_35 : decode cX5_reached 35 = .ok (.if_icmp .ne 15, 3) := by decide +kernel
theorem dX5_reached_38 : decode cX5_reached 38 = .ok (.aload_n 0, 1) := by decide +kernel
theorem dX5_reached_39 : decode cX5_reached 39 = .ok (.getfield 13, 3) := by decide +kernel
theorem dX5_reached_42 : decode cX5_reached 42 = .ok (.iload 5, 2) := by decide +kernel
theorem dX5_reached_44 : decode cX5_reached 44 = .ok (.iaload, 1) := by decide +kernel
theorem dX5_reached_45 : decode cX5_reached 45 = .ok (.iload_n 1, 1) := by decide +kernel
theorem dX5_reached_46 : decode cX5_reached 46 = .ok (.iand, 1) := by decide +kernel
theorem dX5_reached_47 : decode cX5_reached 47 = .ok (.goto 4, 3) := by decide +kernel
theorem dX5_reached_50 : decode cX5_reached 50 = .ok (.iconst 0, 1) := by decide +kernel
theorem dX5_reached_51 : decode cX5_reached 51 = .ok (.ior, 1) := by decide +kernel
theorem dX5_reached_52 : decode cX5_reached 52 = .ok (.istore 4, 2) := by decide +kernel
theorem dX5_reached_54 : decode cX5_reached 54 = .ok (.iinc 5 1, 3) := by decide +kernel
theorem dX5_reached_57 : decode cX5_reached 57 = .ok (.goto (-40), 3) := by decide +kernel
theorem dX5_reached_60 : decode cX5_reached 60 = .ok (.goto (-55), 3) := by decide +kernel
theorem dX5_reached_63 : decode cX5_reached 63 = .ok (.iload 4, 2) := by decide +kernel
theorem dX5_reached_65 : decode cX5_reached 65 = .ok (.ireturn, 1) := by decide +kernel
set_option maxRecDepth 20000 in
theorem ggX5_hangsTogether_X5_reached : GoodIn wsX5_hangsTogether wsX5_reached := goodIn_r _ [5, 6, 7, 8, 9, 10, 11, 12, 13, 14, 15, 16, 17, 18, 19, 20, 21, 22, 23, 24, 25, 26] (by decide +kernel) (by decide +kernel)
set_option maxRecDepth 20000 in
theorem gX5_hangsTogether_X5_reached : GoodIn wsX5_hangsTogether (wsV RX5 78 RX5 yX5_reached wsX5_reached) := goodIn_app (goodIn_of _ (by decide +kernel)) ggX5_hangsTogether_X5_reached
theorem dX5_hangsTogether_0 : decode cX5_hangsTogether 0 = .ok (.iload_n 1, 1) := by decide +kernel
theorem dX5_hangsTogether_1 : decode cX5_hangsTogether 1 = .ok (.ifCond .eq 20, 3) := by decide +kernel
theorem dX5_hangsTogether_4 : decode cX5_hangsTogether 4 = .ok (.aload_n 0, 1) := by decide +kernel
theorem dX5_hangsTogether_5 : decode cX5_hangsTogether 5 = .ok (.iload_n 1, 1) := by decide +kernel
theorem dX5_hangsTogether_6 : decode cX5_hangsTogether 6 = .ok (.iload_n 1, 1) := by decide +kernel
theorem dX5_hangsTogether_7 : decode cX5_hangsTogether 7 = .ok (.iload_n 1, 1) := by decide +kernel
theorem dX5_hangsTogether_8 : decode cX5_hangsTogether 8 = .ok (.ineg, 1) := by decide +kernel
theorem dX5_hangsTogether_9 : decode cX5_hangsTogether 9 = .ok (.iand, 1) := by decide +kernel
theorem dX5_hangsTogether_10 : decode cX5_hangsTogether 10 = .ok (.invokevirtual 78, 3) := by decide +kernel
theorem dX5_hangsTogether_13 : decode cX5_hangsTogether 13 = .ok (.iload_n 1, 1) := by decide +kernel
theorem dX5_hangsTogether_14 : decode cX5_hangsTogether 14 = .ok (.if_icmp .ne 7, 3) := by decide +kernel
theorem dX5_hangsTogether_17 : decode cX5_hangsTogether 17 = .ok (.iconst 1, 1) := by decide +kernel
theorem dX5_hangsTogether_18 : decode cX5_hangsTogether 18 = .ok (.goto 4, 3) := by decide +kernel
theorem dX5_hangsTogether_21 : decode cX5_hangsTogether 21 = .ok (.iconst 0, 1) := by decide +kernel
theorem dX5_hangsTogether_22 : decode cX5_hangsTogether 22 = .ok (.ireturn, 1) := by decide +kernel
theorem dX5_isHeld_0 : decode cX5_isHeld 0 = .ok (.iconst (-1), 1) := by decide +kernel
theorem dX5_isHeld_1 : decode cX5_isHeld 1 = .ok (.istore_n 2, 1) := by decide +kernel
theorem dX5_isHeld_2 : decode cX5_isHeld 2 = .ok (.iload_n 1, 1) := by decide +kernel
theorem dX5_isHeld_3 : decode cX5_isHeld 3 = .ok (.iconst 1, 1) := by decide +kernel
theorem dX5_isHeld_4 : decode cX5_isHeld 4 = .ok (.aload_n 0, 1) := by decide +kernel
theorem dX5_isHeld_5 : decode cX5_isHeld 5 = .ok (.getfield 68, 3) := by decide +kernel
theorem dX5_isHeld_8 : decode cX5_isHeld 8 = .ok (.ishl, 1) := by decide +kernel
theorem dX5_isHeld_9 : decode cX5_isHeld 9 = .ok (.iand, 1) := by decide +kernel
theorem dX5_isHeld_10 : decode cX5_isHeld 10 = .ok (.istore_n 3, 1) := by decide +kernel
theorem dX5_isHeld_11 : decode cX5_isHeld 11 = .ok (.iload_n 2, 1) := by decide +kernel
theorem dX5_isHeld_12 : decode cX5_isHeld 12 = .ok (.iload_n 3, 1) := by decide +kernel
theorem dX5_isHeld_13 : decode cX5_isHeld 13 = .ok (.if_icmp .eq 74, 3) := by decide +kernel
theorem dX5_isHeld_16 : decode cX5_isHeld 16 = .ok (.iload_n 3, 1) := by decide +kernel
theorem dX5_isHeld_17 : decode cX5_isHeld 17 = .ok (.istore_n 2, 1) := by decide +kernel
theorem dX5_isHeld_18 : decode cX5_isHeld 18 = .ok (.iconst 0, 1) := by decide +kernel
theorem dX5_isHeld_19 : decode cX5_isHeld 19 = .ok (.istore 4, 2) := by decide +kernel
theorem dX5_isHeld_21 : decode cX5_isHeld 21 = .ok (.iload 4, 2) := by decide +kernel
theorem dX5_isHeld_23 : decode cX5_isHeld 23 = .ok (.aload_n 0, 1) := by decide +kernel
theorem dX5_isHeld_24 : decode cX5_isHeld 24 = .ok (.getfield 44, 3) := by decide +kernel
theorem dX5_isHeld_27 : decode cX5_isHeld 27 = .ok (.if_icmp .ge 57, 3) := by decide +kernel
theorem dX5_isHeld_30 : decode cX5_isHeld 30 = .ok (.iload_n 1, 1) := by decide +kernel
theorem dX5_isHeld_31 : decode cX5_isHeld 31 = .ok (.iload 4, 2) := by decide +kernel
theorem dX5_isHeld_33 : decode cX5_isHeld 33 = .ok (.ishr, 1) := by decide +kernel
theorem dX5_isHeld_34 : decode cX5_isHeld 34 = .ok (.iconst 1, 1) := by decide +kernel
theorem dX5_isHeld_35 : decode cX5_isHeld 35 = .ok (.iand, 1) := by decide +kernel
theorem dX5_isHeld_36 : decode cX5_isHeld 36 = .ok (.iconst 1, 1) := by decide +kernel
theorem dX5_isHeld_37 : decode cX5_isHeld 37 = .ok (.if_icmp .ne 22, 3) := by decide +kernel
theorem dX5_isHeld_40 : decode cX5_isHeld 40 = .ok (.aload_n 0, 1) := by decide +kernel
theorem dX5_isHeld_41 : decode cX5_isHeld 41 = .ok (.getfield 16, 3) := by decide +kernel
theorem dX5_isHeld_44 : decode cX5_isHeld 44 = .ok (.bipush 40, 2) := by decide +kernel
theorem dX5_isHeld_46 : decode cX5_isHeld 46 = .ok (.iload 4, 2) := by decide +kernel
theorem dX5_isHeld_48 : decode cX5_isHeld 48 = .ok (.iadd, 1) := by decide +kernel
theorem dX5_isHeld_49 : decode cX5_isHeld 49 = .ok (.iaload, 1) := by decide +kernel
theorem dX5_isHeld_50 : decode cX5_isHeld 50 = .ok (.iload_n 2, 1) := by decide +kernel
theorem dX5_isHeld_51 : decode cX5_isHeld 51 = .ok (.iand, 1) := by decide +kernel
theorem dX5_isHeld_52 : decode cX5_isHeld 52 = .ok (.ifCond .eq 7, 3) := by decide +kernel
theorem dX5_isHeld_55 : decode cX5_isHeld 55 = .ok (.iconst 1, 1) := by decide +kernel
theorem dX5_isHeld_56 : decode cX5_isHeld 56 = .ok (.goto 4, 3) := by decide +kernel
theorem dX5_isHeld_59 : decode cX5_isHeld 59 = .ok (.iconst 0, 1) := by decide +kernel
theorem dX5_isHeld_60 : decode cX5_isHeld 60 = .ok (.istore 5, 2) := by decide +kernel
theorem dX5_isHeld_62 : decode cX5_isHeld 62 = .ok (.iload_n 3, 1) := by decide +kernel
theorem dX5_isHeld_63 : decode cX5_isHeld 63 = .ok (.iload 5, 2) := by decide +kernel
theorem dX5_isHeld_65 : decode cX5_isHeld 65 = .ok (.ifCond .eq 10, 3) := by decide +kernel
theorem dX5_isHeld_68 : decode cX5_isHeld 68 = .ok (.iconst 1, 1) := by decide +kernel
theorem dX5_isHeld_69 : decode cX5_isHeld 69 = .ok (.iload 4, 2) := by decide +kernel
theorem dX5_isHeld_71 : decode cX5_isHeld 71 = .ok (.ishl, 1) := by decide +kernel
theorem dX5_isHeld_72 : decode cX5_isHeld 72 = .ok (.goto 4, 3) := by decide +kernel
theorem dX5_isHeld_75 : decode cX5_isHeld 75 = .ok (.iconst 0, 1) := by decide +kernel
theorem dX5_isHeld_76 : decode cX5_isHeld 76 = .ok (.ior, 1) := by decide +kernel
theorem dX5_isHeld_77 : decode cX5_isHeld 77 = .ok (.istore_n 3, 1) := by decide +kernel
theorem dX5_isHeld_78 : decode cX5_isHeld 78 = .ok (.iinc 4 1, 3) := by decide +kernel
theorem dX5_isHeld_81 : decode cX5_isHeld 81 = .ok (.goto (-60), 3) := by decide +kernel
theorem dX5_isHeld_84 : decode cX5_isHeld 84 = .ok (.goto (-73), 3) := by decide +kernel
theorem dX5_isHeld_87 : decode cX5_isHeld 87 = .ok (.iload_n 3, 1) := by decide +kernel
theorem dX5_isHeld_88 : decode cX5_isHeld 88 = .ok (.iload_n 1, 1) := by decide +kernel
theorem dX5_isHeld_89 : decode cX5_isHeld 89 = .ok (.if_icmp .ne 7, 3) := by decide +kernel
theorem dX5_isHeld_92 : decode cX5_isHeld 92 = .ok (.iconst 1, 1) := by decide +kernel
theorem dX5_isHeld_93 : decode cX5_isHeld 93 = .ok (.goto 4, 3) := by decide +kernel
theorem dX5_isHeld_96 : decode cX5_isHeld 96 = .ok (.iconst 0, 1) := by decide +kernel
theorem dX5_isHeld_97 : decode cX5_isHeld 97 = .ok (.ireturn, 1) := by decide +kernel
set_option maxRecDepth 20000 in
theorem ggX5_isSound_X5_hangsTogether : GoodIn wsX5_isSound wsX5_hangsTogether := goodIn_r _ [6, 7, 8, 9, 5, 10, 11, 12, 19, 20, 21, 22, 23, 24, 25, 26, 27, 28, 29, 30, 31, 32, 33, 34, 35, 36, 37] (by decide +kernel) (by decide +kernel)
set_option maxRecDepth 20000 in
theorem gX5_isSound_X5_hangsTogether : GoodIn wsX5_isSound (wsV RX5 82 RX5 yX5_hangsTogether wsX5_hangsTogether) := goodIn_app (goodIn_of _ (by decide +kernel)) ggX5_isSound_X5_hangsTogether
set_option maxRecDepth 20000 in
theorem ggX5_isSound_X5_isHeld : GoodIn wsX5_isSound wsX5_isHeld := goodIn_r _ [16, 17, 11, 18, 19, 20, 21, 22, 23, 24, 25, 26, 27, 28, 29, 30, 31, 32, 33, 34, 35, 36, 37] (by decide +kernel) (by decide +kernel)
set_option maxRecDepth 20000 in
theorem gX5_isSound_X5_isHeld : GoodIn wsX5_isSound (wsV RX5 85 RX5 yX5_isHeld wsX5_isHeld) := goodIn_app (goodIn_of _ (by decide +kernel)) ggX5_isSound_X5_isHeld
theorem dX5_isSound_0 : decode cX5_isSound 0 = .ok (.iload_n 1, 1) := by decide +kernel
theorem dX5_isSound_1 : decode cX5_isSound 1 = .ok (.ifCond .eq 26, 3) := by decide +kernel
theorem dX5_isSound_4 : decode cX5_isSound 4 = .ok (.aload_n 0, 1) := by decide +kernel
theorem dX5_isSound_5 : decode cX5_isSound 5 = .ok (.iload_n 1, 1) := by decide +kernel
theorem dX5_isSound_6 : decode cX5_isSound 6 = .ok (.invokevirtual 82, 3) := by decide +kernel
theorem dX5_isSound_9 : decode cX5_isSound 9 = .ok (.ifCond .eq 22, 3) := by decide +kernel
theorem dX5_isSound_12 : decode cX5_isSound 12 = .ok (.aload_n 0, 1) := by decide +kernel
theorem dX5_isSound_13 : decode cX5_isSound 13 = .ok (.getfield 71, 3) := by decide +kernel
theorem dX5_isSound_16 : decode cX5_isSound 16 = .ok (.ifCond .eq 11, 3) := by decide +kernel
theorem dX5_isSound_19 : decode cX5_isSound 19 = .ok (.aload_n 0, 1) := by decide +kernel
theorem dX5_isSound_20 : decode cX5_isSound 20 = .ok (.iload_n 1, 1) := by decide +kernel
theorem dX5_isSound_21 : decode cX5_isSound 21 = .ok (.invokevirtual 85, 3) := by decide +kernel
theorem dX5_isSound_24 : decode cX5_isSound 24 = .ok (.ifCond .eq 7, 3) := by decide +kernel
theorem dX5_isSound_27 : decode cX5_isSound 27 = .ok (.iconst 1, 1) := by decide +kernel
theorem dX5_isSound_28 : decode cX5_isSound 28 = .ok (.goto 4, 3) := by decide +kernel
theorem dX5_isSound_31 : decode cX5_isSound 31 = .ok (.iconst 0, 1) := by decide +kernel
theorem dX5_isSound_32 : decode cX5_isSound 32 = .ok (.ireturn, 1) := by decide +kernel
theorem dX5_freeOf_0 : decode cX5_freeOf 0 = .ok (.iconst 0, 1) := by decide +kernel
theorem dX5_freeOf_1 : decode cX5_freeOf 1 = .ok (.istore_n 3, 1) := by decide +kernel
theorem dX5_freeOf_2 : decode cX5_freeOf 2 = .ok (.iconst 0, 1) := by decide +kernel
theorem dX5_freeOf_3 : decode cX5_freeOf 3 = .ok (.istore 4, 2) := by decide +kernel
theorem dX5_freeOf_5 : decode cX5_freeOf 5 = .ok (.iload 4, 2) := by decide +kernel
theorem dX5_freeOf_7 : decode cX5_freeOf 7 = .ok (.bipush 6, 2) := by decide +kernel
theorem dX5_freeOf_9 : decode cX5_freeOf 9 = .ok (.if_icmp .ge 37, 3) := by decide +kernel
theorem dX5_freeOf_12 : decode cX5_freeOf 12 = .ok (.iload_n 3, 1) := by decide +kernel
theorem dX5_freeOf_13 : decode cX5_freeOf 13 = .ok (.aload_n 0, 1) := by decide +kernel
theorem dX5_freeOf_14 : decode cX5_freeOf 14 = .ok (.getfield 16, 3) := by decide +kernel
theorem dX5_freeOf_17 : decode cX5_freeOf 17 = .ok (.bipush 8, 2) := by decide +kernel
theorem dX5_freeOf_19 : decode cX5_freeOf 19 = .ok (.iload 4, 2) := by decide +kernel
theorem dX5_freeOf_21 : decode cX5_freeOf 21 = .ok (.imul, 1) := by decide +kernel
theorem dX5_freeOf_22 : decode cX5_freeOf 22 = .ok (.iload_n 2, 1) := by decide +kernel
theorem dX5_freeOf_23 : decode cX5_freeOf 23 = .ok (.iadd, 1) := by decide +kernel
theorem dX5_freeOf_24 : decode cX5_freeOf 24 = .ok (.iaload, 1) := by decide +kernel
theorem dX5_freeOf_25 : decode cX5_freeOf 25 = .ok (.iload_n 1, 1) := by decide +kernel
theorem dX5_freeOf_26 : decode cX5_freeOf 26 = .ok (.iand, 1) := by decide +kernel
theorem dX5_freeOf_27 : decode cX5_freeOf 27 = .ok (.ifCond .ne 10, 3) := by decide +kernel
theorem dX5_freeOf_30 : decode cX5_freeOf 30 = .ok (.iconst 1, 1) := by decide +kernel
theorem dX5_freeOf_31 : decode cX5_freeOf 31 = .ok (.iload 4, 2) := by decide +kernel
theorem dX5_freeOf_33 : decode cX5_freeOf 33 = .ok (.ishl, 1) := by decide +kernel
theorem dX5_freeOf_34 : decode cX5_freeOf 34 = .ok (.goto 4, 3) := by decide +kernel
theorem dX5_freeOf_37 : decode cX5_freeOf 37 = .ok (.iconst 0, 1) := by decide +kernel
theorem dX5_freeOf_38 : decode cX5_freeOf 38 = .ok (.ior, 1) := by decide +kernel
theorem dX5_freeOf_39 : decode cX5_freeOf 39 = .ok (.istore_n 3, 1) := by decide +kernel
theorem dX5_freeOf_40 : decode cX5_freeOf 40 = .ok (.iinc 4 1, 3) := by decide +kernel
theorem dX5_freeOf_43 : decode cX5_freeOf 43 = .ok (.goto (-38), 3) := by decide +kernel
theorem dX5_freeOf_46 : decode cX5_freeOf 46 = .ok (.iload_n 3, 1) := by decide +kernel
theorem dX5_freeOf_47 : decode cX5_freeOf 47 = .ok (.ireturn, 1) := by decide +kernel
set_option maxRecDepth 20000 in
theorem ggX5_isConnected_X5_isSet : GoodIn wsX5_isConnected wsX5_isSet := goodIn_r _ [5, 6, 7, 8, 4, 9, 10, 25, 26, 27, 28, 29, 30, 31, 32, 33, 34, 35, 36, 37, 38, 39, 40, 41, 42, 43] (by decide +kernel) (by decide +kernel)
set_option maxRecDepth 20000 in
theorem gX5_isConnected_X5_isSet : GoodIn wsX5_isConnected (wsV RX5 88 RX5 yX5_isSet wsX5_isSet) := goodIn_app (goodIn_of _ (by decide +kernel)) ggX5_isConnected_X5_isSet
set_option maxRecDepth 20000 in
theorem ggX5_isConnected_X5_holds : GoodIn wsX5_isConnected wsX5_holds := goodIn_r _ [14, 15, 25, 26, 27, 28, 29, 30, 31, 32, 33, 34, 35, 36, 37, 38, 39, 40, 41, 42, 43] (by decide +kernel) (by decide +kernel)
set_option maxRecDepth 20000 in
theorem gX5_isConnected_X5_holds : GoodIn wsX5_isConnected (wsV RX5 51 RX5 yX5_holds wsX5_holds) := goodIn_app (goodIn_of _ (by decide +kernel)) ggX5_isConnected_X5_holds
set_option maxRecDepth 20000 in
theorem ggX5_isConnected_X5_hangsTogether : GoodIn wsX5_isConnected wsX5_hangsTogether := goodIn_r _ [19, 20, 21, 22, 4, 23, 10, 24, 25, 26, 27, 28, 29, 30, 31, 32, 33, 34, 35, 36, 37, 38, 39, 40, 41, 42, 43] (by decide +kernel) (by decide +kernel)
set_option maxRecDepth 20000 in
theorem gX5_isConnected_X5_hangsTogether : GoodIn wsX5_isConnected (wsV RX5 82 RX5 yX5_hangsTogether wsX5_hangsTogether) := goodIn_app (goodIn_of _ (by decide +kernel)) ggX5_isConnected_X5_hangsTogether
theorem dX5_isConnected_0 : decode cX5_isConnected 0 = .ok (.aload_n 0, 1) := by decide +kernel
theorem dX5_isConnected_1 : decode cX5_isConnected 1 = .ok (.aload_n 0, 1) := by decide +kernel
theorem dX5_isConnected_2 : decode cX5_isConnected 2 = .ok (.iload_n 1, 1) := by decide +kernel
theorem dX5_isConnected_3 : decode cX5_isConnected 3 = .ok (.invokevirtual 88, 3) := by decide +kernel
theorem dX5_isConnected_6 : decode cX5_isConnected 6 = .ok (.ifCond .eq 7, 3) := by decide +kernel
theorem dX5_isConnected_9 : decode cX5_isConnected 9 = .ok (.iconst 0, 1) := by decide +kernel
theorem dX5_isConnected_10 : decode cX5_isConnected 10 = .ok (.goto 4, 3) := by decide +kernel
theorem dX5_isConnected_13 : decode cX5_isConnected 13 = .ok (.iconst 1, 1) := by decide +kernel
theorem dX5_isConnected_14 : decode cX5_isConnected 14 = .ok (.invokevirtual 51, 3) := by decide +kernel
theorem dX5_isConnected_17 : decode cX5_isConnected 17 = .ok (.ifCond .eq 15, 3) := by decide +kernel
theorem dX5_isConnected_20 : decode cX5_isConnected 20 = .ok (.aload_n 0, 1) := by decide +kernel
theorem dX5_isConnected_21 : decode cX5_isConnected 21 = .ok (.iload_n 1, 1) := by decide +kernel
theorem dX5_isConnected_22 : decode cX5_isConnected 22 = .ok (.invokevirtual 82, 3) := by decide +kernel
theorem dX5_isConnected_25 : decode cX5_isConnected 25 = .ok (.ifCond .eq 7, 3) := by decide +kernel
theorem dX5_isConnected_28 : decode cX5_isConnected 28 = .ok (.iconst 1, 1) := by decide +kernel
theorem dX5_isConnected_29 : decode cX5_isConnected 29 = .ok (.goto 4, 3) := by decide +kernel
theorem dX5_isConnected_32 : decode cX5_isConnected 32 = .ok (.iconst 0, 1) := by decide +kernel
theorem dX5_isConnected_33 : decode cX5_isConnected 33 = .ok (.ireturn, 1) := by decide +kernel
set_option maxRecDepth 20000 in
theorem ggX5_isSteady_X5_isSet : GoodIn wsX5_isSteady wsX5_isSet := goodIn_r _ [5, 6, 7, 8, 4, 9, 10, 22, 23, 24, 25, 26, 27, 28, 29, 30, 31, 32, 33, 34, 35, 36, 37, 38, 39, 40] (by decide +kernel) (by decide +kernel)
set_option maxRecDepth 20000 in
theorem gX5_isSteady_X5_isSet : GoodIn wsX5_isSteady (wsV RX5 88 RX5 yX5_isSet wsX5_isSet) := goodIn_app (goodIn_of _ (by decide +kernel)) ggX5_isSteady_X5_isSet
set_option maxRecDepth 20000 in
theorem ggX5_isSteady_X5_holds : GoodIn wsX5_isSteady wsX5_holds := goodIn_r _ [14, 15, 22, 23, 24, 25, 26, 27, 28, 29, 30, 31, 32, 33, 34, 35, 36, 37, 38, 39, 40] (by decide +kernel) (by decide +kernel)
set_option maxRecDepth 20000 in
theorem gX5_isSteady_X5_holds : GoodIn wsX5_isSteady (wsV RX5 51 RX5 yX5_holds wsX5_holds) := goodIn_app (goodIn_of _ (by decide +kernel)) ggX5_isSteady_X5_holds
set_option maxRecDepth 20000 in
theorem ggX5_isSteady_X5_isHeld : GoodIn wsX5_isSteady wsX5_isHeld := goodIn_r _ [19, 20, 10, 21, 22, 23, 24, 25, 26, 27, 28, 29, 30, 31, 32, 33, 34, 35, 36, 37, 38, 39, 40] (by decide +kernel) (by decide +kernel)
set_option maxRecDepth 20000 in
theorem gX5_isSteady_X5_isHeld : GoodIn wsX5_isSteady (wsV RX5 85 RX5 yX5_isHeld wsX5_isHeld) := goodIn_app (goodIn_of _ (by decide +kernel)) ggX5_isSteady_X5_isHeld
theorem dX5_isSteady_0 : decode cX5_isSteady 0 = .ok (.aload_n 0, 1) := by decide +kernel
theorem dX5_isSteady_1 : decode cX5_isSteady 1 = .ok (.aload_n 0, 1) := by decide +kernel
theorem dX5_isSteady_2 : decode cX5_isSteady 2 = .ok (.iload_n 1, 1) := by decide +kernel
theorem dX5_isSteady_3 : decode cX5_isSteady 3 = .ok (.invokevirtual 88, 3) := by decide +kernel
theorem dX5_isSteady_6 : decode cX5_isSteady 6 = .ok (.ifCond .eq 7, 3) := by decide +kernel
theorem dX5_isSteady_9 : decode cX5_isSteady 9 = .ok (.iconst 0, 1) := by decide +kernel
theorem dX5_isSteady_10 : decode cX5_isSteady 10 = .ok (.goto 4, 3) := by decide +kernel
theorem dX5_isSteady_13 : decode cX5_isSteady 13 = .ok (.iconst 1, 1) := by decide +kernel
theorem dX5_isSteady_14 : decode cX5_isSteady 14 = .ok (.invokevirtual 51, 3) := by decide +kernel
theorem dX5_isSteady_17 : decode cX5_isSteady 17 = .ok (.ifCond .eq 15, 3) := by decide +kernel
theorem dX5_isSteady_20 : decode cX5_isSteady 20 = .ok (.aload_n 0, 1) := by decide +kernel
theorem dX5_isSteady_21 : decode cX5_isSteady 21 = .ok (.iload_n 1, 1) := by decide +kernel
theorem dX5_isSteady_22 : decode cX5_isSteady 22 = .ok (.invokevirtual 85, 3) := by decide +kernel
theorem dX5_isSteady_25 : decode cX5_isSteady 25 = .ok (.ifCond .eq 7, 3) := by decide +kernel
theorem dX5_isSteady_28 : decode cX5_isSteady 28 = .ok (.iconst 1, 1) := by decide +kernel
theorem dX5_isSteady_29 : decode cX5_isSteady 29 = .ok (.goto 4, 3) := by decide +kernel
theorem dX5_isSteady_32 : decode cX5_isSteady 32 = .ok (.iconst 0, 1) := by decide +kernel
theorem dX5_isSteady_33 : decode cX5_isSteady 33 = .ok (.ireturn, 1) := by decide +kernel
set_option maxRecDepth 20000 in
theorem ggX5_isOf_X5_isPart : GoodIn wsX5_isOf wsX5_isPart := goodIn_r _ [5, 6, 20, 21, 22, 23, 24, 25, 26, 27, 28, 29, 30, 31, 32, 33, 34, 35, 36, 37, 38] (by decide +kernel) (by decide +kernel)
set_option maxRecDepth 20000 in
theorem gX5_isOf_X5_isPart : GoodIn wsX5_isOf (wsV RX5 58 RX5 yX5_isPart wsX5_isPart) := goodIn_app (goodIn_of _ (by decide +kernel)) ggX5_isOf_X5_isPart
set_option maxRecDepth 20000 in
theorem ggX5_isOf_X5_isSet : GoodIn wsX5_isOf wsX5_isSet := goodIn_r _ [10, 11, 12, 13, 4, 14, 6, 20, 21, 22, 23, 24, 25, 26, 27, 28, 29, 30, 31, 32, 33, 34, 35, 36, 37, 38] (by decide +kernel) (by decide +kernel)
set_option maxRecDepth 20000 in
theorem gX5_isOf_X5_isSet : GoodIn wsX5_isOf (wsV RX5 88 RX5 yX5_isSet wsX5_isSet) := goodIn_app (goodIn_of _ (by decide +kernel)) ggX5_isOf_X5_isSet
set_option maxRecDepth 20000 in
theorem ggX5_isOf_X5_holds : GoodIn wsX5_isOf wsX5_holds := goodIn_r _ [18, 19, 20, 21, 22, 23, 24, 25, 26, 27, 28, 29, 30, 31, 32, 33, 34, 35, 36, 37, 38] (by decide +kernel) (by decide +kernel)
set_option maxRecDepth 20000 in
theorem gX5_isOf_X5_holds : GoodIn wsX5_isOf (wsV RX5 51 RX5 yX5_holds wsX5_holds) := goodIn_app (goodIn_of _ (by decide +kernel)) ggX5_isOf_X5_holds
theorem dX5_isOf_0 : decode cX5_isOf 0 = .ok (.aload_n 0, 1) := by decide +kernel
theorem dX5_isOf_1 : decode cX5_isOf 1 = .ok (.aload_n 0, 1) := by decide +kernel
theorem dX5_isOf_2 : decode cX5_isOf 2 = .ok (.iload_n 2, 1) := by decide +kernel
theorem dX5_isOf_3 : decode cX5_isOf 3 = .ok (.invokevirtual 58, 3) := by decide +kernel
theorem dX5_isOf_6 : decode cX5_isOf 6 = .ok (.ifCond .ne 7, 3) := by decide +kernel
theorem dX5_isOf_9 : decode cX5_isOf 9 = .ok (.iconst 1, 1) := by decide +kernel
theorem dX5_isOf_10 : decode cX5_isOf 10 = .ok (.goto 25, 3) := by decide +kernel
theorem dX5_isOf_13 : decode cX5_isOf 13 = .ok (.aload_n 0, 1) := by decide +kernel
theorem dX5_isOf_14 : decode cX5_isOf 14 = .ok (.iload_n 1, 1) := by decide +kernel
theorem dX5_isOf_15 : decode cX5_isOf 15 = .ok (.invokevirtual 88, 3) := by decide +kernel
theorem dX5_isOf_18 : decode cX5_isOf 18 = .ok (.ifCond .eq 16, 3) := by decide +kernel
theorem dX5_isOf_21 : decode cX5_isOf 21 = .ok (.iload_n 1, 1) := by decide +kernel
theorem dX5_isOf_22 : decode cX5_isOf 22 = .ok (.iload_n 2, 1) := by decide +kernel
theorem dX5_isOf_23 : decode cX5_isOf 23 = .ok (.ishr, 1) := by decide +kernel
theorem dX5_isOf_24 : decode cX5_isOf 24 = .ok (.iconst 1, 1) := by decide +kernel
theorem dX5_isOf_25 : decode cX5_isOf 25 = .ok (.iand, 1) := by decide +kernel
theorem dX5_isOf_26 : decode cX5_isOf 26 = .ok (.iconst 1, 1) := by decide +kernel
theorem dX5_isOf_27 : decode cX5_isOf 27 = .ok (.if_icmp .ne 7, 3) := by decide +kernel
theorem dX5_isOf_30 : decode cX5_isOf 30 = .ok (.iconst 0, 1) := by decide +kernel
theorem dX5_isOf_31 : decode cX5_isOf 31 = .ok (.goto 4, 3) := by decide +kernel
theorem dX5_isOf_34 : decode cX5_isOf 34 = .ok (.iconst 2, 1) := by decide +kernel
theorem dX5_isOf_35 : decode cX5_isOf 35 = .ok (.invokevirtual 51, 3) := by decide +kernel
theorem dX5_isOf_38 : decode cX5_isOf 38 = .ok (.ireturn, 1) := by decide +kernel
set_option maxRecDepth 20000 in
theorem ggX5_free_X5_isOf : GoodIn wsX5_free wsX5_isOf := goodIn_r _ [5, 6, 7, 8, 4, 9, 10, 11, 12, 13, 14, 15, 16, 17, 18, 19, 20, 21, 22, 23, 29, 30, 31, 32, 33, 34, 35, 36, 37, 38, 39, 40, 41, 42, 43, 44, 45, 46, 47] (by decide +kernel) (by decide +kernel)
set_option maxRecDepth 20000 in
theorem gX5_free_X5_isOf : GoodIn wsX5_free (wsV RX5 91 RX5 yX5_isOf wsX5_isOf) := goodIn_app (goodIn_of _ (by decide +kernel)) ggX5_free_X5_isOf
set_option maxRecDepth 20000 in
theorem ggX5_free_X5_freeOf : GoodIn wsX5_free wsX5_freeOf := goodIn_r _ [27, 28, 29, 30, 31, 32, 33, 34, 35, 36, 37, 38, 39, 40, 41, 42, 43, 44, 45, 46, 47] (by decide +kernel) (by decide +kernel)
set_option maxRecDepth 20000 in
theorem gX5_free_X5_freeOf : GoodIn wsX5_free (wsV RX5 95 RX5 yX5_freeOf wsX5_freeOf) := goodIn_app (goodIn_of _ (by decide +kernel)) ggX5_free_X5_freeOf
theorem dX5_free_0 : decode cX5_free 0 = .ok (.aload_n 0, 1) := by decide +kernel
theorem dX5_free_1 : decode cX5_free 1 = .ok (.iload_n 1, 1) := by decide +kernel
theorem dX5_free_2 : decode cX5_free 2 = .ok (.iload_n 2, 1) := by decide +kernel
theorem dX5_free_3 : decode cX5_free 3 = .ok (.invokevirtual 91, 3) := by decide +kernel
theorem dX5_free_6 : decode cX5_free 6 = .ok (.ifCond .eq 12, 3) := by decide +kernel
theorem dX5_free_9 : decode cX5_free 9 = .ok (.aload_n 0, 1) := by decide +kernel
theorem dX5_free_10 : decode cX5_free 10 = .ok (.iload_n 1, 1) := by decide +kernel
theorem dX5_free_11 : decode cX5_free 11 = .ok (.iload_n 2, 1) := by decide +kernel
theorem dX5_free_12 : decode cX5_free 12 = .ok (.invokevirtual 95, 3) := by decide +kernel
theorem dX5_free_15 : decode cX5_free 15 = .ok (.goto 4, 3) := by decide +kernel
theorem dX5_free_18 : decode cX5_free 18 = .ok (.iconst 0, 1) := by decide +kernel
theorem dX5_free_19 : decode cX5_free 19 = .ok (.ireturn, 1) := by decide +kernel
set_option maxRecDepth 20000 in
theorem ggX5_canTake_X5_isOf : GoodIn wsX5_canTake wsX5_isOf := goodIn_r _ [5, 6, 7, 8, 4, 9, 10, 11, 12, 13, 14, 15, 16, 17, 18, 19, 20, 21, 22, 23, 48, 49, 50, 51, 52, 53, 54, 55, 56, 57, 58, 59, 60, 61, 62, 63, 64, 65, 66] (by decide +kernel) (by decide +kernel)
set_option maxRecDepth 20000 in
theorem gX5_canTake_X5_isOf : GoodIn wsX5_canTake (wsV RX5 91 RX5 yX5_isOf wsX5_isOf) := goodIn_app (goodIn_of _ (by decide +kernel)) ggX5_canTake_X5_isOf
set_option maxRecDepth 20000 in
theorem ggX5_canTake_X5_isSound : GoodIn wsX5_canTake wsX5_isSound := goodIn_r _ [27, 28, 29, 30, 31, 4, 32, 33, 34, 35, 36, 10, 37, 38, 39, 40, 41, 42, 43, 48, 49, 50, 51, 52, 53, 54, 55, 56, 57, 58, 59, 60, 61, 62, 63, 64, 65, 66] (by decide +kernel) (by decide +kernel)
set_option maxRecDepth 20000 in
theorem gX5_canTake_X5_isSound : GoodIn wsX5_canTake (wsV RX5 98 RX5 yX5_isSound wsX5_isSound) := goodIn_app (goodIn_of _ (by decide +kernel)) ggX5_canTake_X5_isSound
set_option maxRecDepth 20000 in
theorem ggX5_canTake_X5_freeOf : GoodIn wsX5_canTake wsX5_freeOf := goodIn_r _ [47, 43, 48, 49, 50, 51, 52, 53, 54, 55, 56, 57, 58, 59, 60, 61, 62, 63, 64, 65, 66] (by decide +kernel) (by decide +kernel)
set_option maxRecDepth 20000 in
theorem gX5_canTake_X5_freeOf : GoodIn wsX5_canTake (wsV RX5 95 RX5 yX5_freeOf wsX5_freeOf) := goodIn_app (goodIn_of _ (by decide +kernel)) ggX5_canTake_X5_freeOf
theorem dX5_canTake_0 : decode cX5_canTake 0 = .ok (.aload_n 0, 1) := by decide +kernel
theorem dX5_canTake_1 : decode cX5_canTake 1 = .ok (.iload_n 1, 1) := by decide +kernel
theorem dX5_canTake_2 : decode cX5_canTake 2 = .ok (.iload_n 2, 1) := by decide +kernel
theorem dX5_canTake_3 : decode cX5_canTake 3 = .ok (.invokevirtual 91, 3) := by decide +kernel
theorem dX5_canTake_6 : decode cX5_canTake 6 = .ok (.ifCond .eq 38, 3) := by decide +kernel
theorem dX5_canTake_9 : decode cX5_canTake 9 = .ok (.aload_n 0, 1) := by decide +kernel
theorem dX5_canTake_10 : decode cX5_canTake 10 = .ok (.iload_n 1, 1) := by decide +kernel
theorem dX5_canTake_11 : decode cX5_canTake 11 = .ok (.invokevirtual 98, 3) := by decide +kernel
theorem dX5_canTake_14 : decode cX5_canTake 14 = .ok (.ifCond .eq 30, 3) := by decide +kernel
theorem dX5_canTake_17 : decode cX5_canTake 17 = .ok (.aload_n 0, 1) := by decide +kernel
theorem dX5_canTake_18 : decode cX5_canTake 18 = .ok (.iload_n 1, 1) := by decide +kernel
theorem dX5_canTake_19 : decode cX5_canTake 19 = .ok (.iload_n 2, 1) := by decide +kernel
theorem dX5_canTake_20 : decode cX5_canTake 20 = .ok (.invokevirtual 95, 3) := by decide +kernel
theorem dX5_canTake_23 : decode cX5_canTake 23 = .ok (.ifCond .eq 21, 3) := by decide +kernel
theorem dX5_canTake_26 : decode cX5_canTake 26 = .ok (.aload_n 0, 1) := by decide +kernel
theorem dX5_canTake_27 : decode cX5_canTake 27 = .ok (.iload_n 1, 1) := by decide +kernel
theorem dX5_canTake_28 : decode cX5_canTake 28 = .ok (.iconst 1, 1) := by decide +kernel
theorem dX5_canTake_29 : decode cX5_canTake 29 = .ok (.iload_n 2, 1) := by decide +kernel
theorem dX5_canTake_30 : decode cX5_canTake 30 = .ok (.ishl, 1) := by decide +kernel
theorem dX5_canTake_31 : decode cX5_canTake 31 = .ok (.iconst (-1), 1) := by decide +kernel
theorem dX5_canTake_32 : decode cX5_canTake 32 = .ok (.ixor, 1) := by decide +kernel
theorem dX5_canTake_33 : decode cX5_canTake 33 = .ok (.iand, 1) := by decide +kernel
theorem dX5_canTake_34 : decode cX5_canTake 34 = .ok (.invokevirtual 98, 3) := by decide +kernel
theorem dX5_canTake_37 : decode cX5_canTake 37 = .ok (.ifCond .eq 7, 3) := by decide +kernel
theorem dX5_canTake_40 : decode cX5_canTake 40 = .ok (.iconst 1, 1) := by decide +kernel
theorem dX5_canTake_41 : decode cX5_canTake 41 = .ok (.goto 4, 3) := by decide +kernel
theorem dX5_canTake_44 : decode cX5_canTake 44 = .ok (.iconst 0, 1) := by decide +kernel
theorem dX5_canTake_45 : decode cX5_canTake 45 = .ok (.ireturn, 1) := by decide +kernel
theorem dX5_moving_0 : decode cX5_moving 0 = .ok (.iconst 0, 1) := by decide +kernel
theorem dX5_moving_1 : decode cX5_moving 1 = .ok (.istore_n 3, 1) := by decide +kernel
theorem dX5_moving_2 : decode cX5_moving 2 = .ok (.iconst 1, 1) := by decide +kernel
theorem dX5_moving_3 : decode cX5_moving 3 = .ok (.iload_n 1, 1) := by decide +kernel
theorem dX5_moving_4 : decode cX5_moving 4 = .ok (.ishl, 1) := by decide +kernel
theorem dX5_moving_5 : decode cX5_moving 5 = .ok (.istore 4, 2) := by decide +kernel
theorem dX5_moving_7 : decode cX5_moving 7 = .ok (.iload_n 3, 1) := by decide +kernel
theorem dX5_moving_8 : decode cX5_moving 8 = .ok (.iload 4, 2) := by decide +kernel
theorem dX5_moving_10 : decode cX5_moving 10 = .ok (.if_icmp .eq 58, 3) := by decide +kernel
theorem dX5_moving_13 : decode cX5_moving 13 = .ok (.iload 4, 2) := by decide +kernel
theorem dX5_moving_15 : decode cX5_moving 15 = .ok (.istore_n 3, 1) := by decide +kernel
theorem dX5_moving_16 : decode cX5_moving 16 = .ok (.iconst 0, 1) := by decide +kernel
theorem dX5_moving_17 : decode cX5_moving 17 = .ok (.istore 5, 2) := by decide +kernel
theorem dX5_moving_19 : decode cX5_moving 19 = .ok (.iload 5, 2) := by decide +kernel
theorem dX5_moving_21 : decode cX5_moving 21 = .ok (.aload_n 0, 1) := by decide +kernel
theorem dX5_moving_22 : decode cX5_moving 22 = .ok (.getfield 44, 3) := by decide +kernel
theorem dX5_moving_25 : decode cX5_moving 25 = .ok (.if_icmp .ge 40, 3) := by decide +kernel
theorem dX5_moving_28 : decode cX5_moving 28 = .ok (.iload 4, 2) := by decide +kernel
theorem dX5_moving_30 : decode cX5_moving 30 = .ok (.iload_n 3, 1) := by decide +kernel
theorem dX5_moving_31 : decode cX5_moving 31 = .ok (.iload 5, 2) := by decide +kernel
theorem dX5_moving_33 : decode cX5_moving 33 = .ok (.ishr, 1) := by decide +kernel
theorem dX5_moving_34 : decode cX5_moving 34 = .ok (.iconst 1, 1) := by decide +kernel
theorem dX5_moving_35 : decode cX5_moving 35 = .ok (.iand, 1) := by decide +kernel
theorem dX5_moving_36 : decode cX5_moving 36 = .ok (.iconst 1, 1) := by decide +kernel
theorem dX5_moving_37 : decode cX5_moving 37 = .ok (.if_icmp .ne 18, 3) := by decide +kernel
theorem dX5_moving_40 : decode cX5_moving 40 = .ok (.aload_n 0, 1) := by decide +kernel
theorem dX5_moving_41 : decode cX5_moving 41 = .ok (.getfield 16, 3) := by decide +kernel
theorem dX5_moving_44 : decode cX5_moving 44 = .ok (.bipush 8, 2) := by decide +kernel
theorem dX5_moving_46 : decode cX5_moving 46 = .ok (.iload_n 2, 1) := by decide +kernel
theorem dX5_moving_47 : decode cX5_moving 47 = .ok (.imul, 1) := by decide +kernel
theorem dX5_moving_48 : decode cX5_moving 48 = .ok (.iload 5, 2) := by decide +kernel
theorem dX5_moving_50 : decode cX5_moving 50 = .ok (.iadd, 1) := by decide +kernel
theorem dX5_moving_51 : decode cX5_moving 51 = .ok (.iaload, 1) := by decide +kernel
theorem dX5_moving_52 : decode cX5_moving 52 = .ok (.goto 4, 3) := by decide +kernel
theorem dX5_moving_55 : decode cX5_moving 55 = .ok (.iconst 0, 1) := by decide +kernel
theorem dX5_moving_56 : decode cX5_moving 56 = .ok (.ior, 1) := by decide +kernel
theorem dX5_moving_57 : decode cX5_moving 57 = .ok (.istore 4, 2) := by decide +kernel
theorem dX5_moving_59 : decode cX5_moving 59 = .ok (.iinc 5 1, 3) := by decide +kernel
theorem dX5_moving_62 : decode cX5_moving 62 = .ok (.goto (-43), 3) := by decide +kernel
theorem dX5_moving_65 : decode cX5_moving 65 = .ok (.goto (-58), 3) := by decide +kernel
theorem dX5_moving_68 : decode cX5_moving 68 = .ok (.iload 4, 2) := by decide +kernel
theorem dX5_moving_70 : decode cX5_moving 70 = .ok (.ireturn, 1) := by decide +kernel
set_option maxRecDepth 20000 in
theorem ggX5_bound_X5_moving : GoodIn wsX5_bound wsX5_moving := goodIn_r _ [6, 1, 7, 8, 9, 10, 11, 12, 13, 14, 15, 16, 17, 18, 19, 20, 21, 22, 23, 24, 25, 26] (by decide +kernel) (by decide +kernel)
set_option maxRecDepth 20000 in
theorem gX5_bound_X5_moving : GoodIn wsX5_bound (wsV RX5 101 RX5 yX5_moving wsX5_moving) := goodIn_app (goodIn_of _ (by decide +kernel)) ggX5_bound_X5_moving
theorem dX5_bound_0 : decode cX5_bound 0 = .ok (.iconst 0, 1) := by decide +kernel
theorem dX5_bound_1 : decode cX5_bound 1 = .ok (.istore_n 3, 1) := by decide +kernel
theorem dX5_bound_2 : decode cX5_bound 2 = .ok (.aload_n 0, 1) := by decide +kernel
theorem dX5_bound_3 : decode cX5_bound 3 = .ok (.iload_n 1, 1) := by decide +kernel
theorem dX5_bound_4 : decode cX5_bound 4 = .ok (.iload_n 2, 1) := by decide +kernel
theorem dX5_bound_5 : decode cX5_bound 5 = .ok (.invokevirtual 101, 3) := by decide +kernel
theorem dX5_bound_8 : decode cX5_bound 8 = .ok (.istore 4, 2) := by decide +kernel
theorem dX5_bound_10 : decode cX5_bound 10 = .ok (.iconst 0, 1) := by decide +kernel
theorem dX5_bound_11 : decode cX5_bound 11 = .ok (.istore 5, 2) := by decide +kernel
theorem dX5_bound_13 : decode cX5_bound 13 = .ok (.iload 5, 2) := by decide +kernel
theorem dX5_bound_15 : decode cX5_bound 15 = .ok (.aload_n 0, 1) := by decide +kernel
theorem dX5_bound_16 : decode cX5_bound 16 = .ok (.getfield 44, 3) := by decide +kernel
theorem dX5_bound_19 : decode cX5_bound 19 = .ok (.if_icmp .ge 58, 3) := by decide +kernel
theorem dX5_bound_22 : decode cX5_bound 22 = .ok (.iload 4, 2) := by decide +kernel
theorem dX5_bound_24 : decode cX5_bound 24 = .ok (.iload 5, 2) := by decide +kernel
theorem dX5_bound_26 : decode cX5_bound 26 = .ok (.ishr, 1) := by decide +kernel
theorem dX5_bound_27 : decode cX5_bound 27 = .ok (.iconst 1, 1) := by decide +kernel
theorem dX5_bound_28 : decode cX5_bound 28 = .ok (.iand, 1) := by decide +kernel
theorem dX5_bound_29 : decode cX5_bound 29 = .ok (.iconst 1, 1) := by decide +kernel
theorem dX5_bound_30 : decode cX5_bound 30 = .ok (.if_icmp .ne 22, 3) := by decide +kernel
theorem dX5_bound_33 : decode cX5_bound 33 = .ok (.aload_n 0, 1) := by decide +kernel
theorem dX5_bound_34 : decode cX5_bound 34 = .ok (.iload 5, 2) := by decide +kernel
theorem dX5_bound_36 : decode cX5_bound 36 = .ok (.iload_n 2, 1) := by decide +kernel
theorem dX5_bound_37 : decode cX5_bound 37 = .ok (.invokevirtual 101, 3) := by decide +kernel
theorem dX5_bound_40 : decode cX5_bound 40 = .ok (.iload_n 1, 1) := by decide +kernel
theorem dX5_bound_41 : decode cX5_bound 41 = .ok (.ishr, 1) := by decide +kernel
theorem dX5_bound_42 : decode cX5_bound 42 = .ok (.iconst 1, 1) := by decide +kernel
theorem dX5_bound_43 : decode cX5_bound 43 = .ok (.iand, 1) := by decide +kernel
theorem dX5_bound_44 : decode cX5_bound 44 = .ok (.iconst 1, 1) := by decide +kernel
theorem dX5_bound_45 : decode cX5_bound 45 = .ok (.if_icmp .ne 7, 3) := by decide +kernel
theorem dX5_bound_48 : decode cX5_bound 48 = .ok (.iconst 1, 1) := by decide +kernel
theorem dX5_bound_49 : decode cX5_bound 49 = .ok (.goto 4, 3) := by decide +kernel
theorem dX5_bound_52 : decode cX5_bound 52 = .ok (.iconst 0, 1) := by decide +kernel
theorem dX5_bound_53 : decode cX5_bound 53 = .ok (.istore 6, 2) := by decide +kernel
theorem dX5_bound_55 : decode cX5_bound 55 = .ok (.iload_n 3, 1) := by decide +kernel
theorem dX5_bound_56 : decode cX5_bound 56 = .ok (.iload 6, 2) := by decide +kernel
theorem dX5_bound_58 : decode cX5_bound 58 = .ok (.ifCond .eq 10, 3) := by decide +kernel
theorem dX5_bound_61 : decode cX5_bound 61 = .ok (.iconst 1, 1) := by decide +kernel
theorem dX5_bound_62 : decode cX5_bound 62 = .ok (.iload 5, 2) := by decide +kernel
theorem dX5_bound_64 : decode cX5_bound 64 = .ok (.ishl, 1) := by decide +kernel
theorem dX5_bound_65 : decode cX5_bound 65 = .ok (.goto 4, 3) := by decide +kernel
theorem dX5_bound_68 : decode cX5_bound 68 = .ok (.iconst 0, 1) := by decide +kernel
theorem dX5_bound_69 : decode cX5_bound 69 = .ok (.ior, 1) := by decide +kernel
theorem dX5_bound_70 : decode cX5_bound 70 = .ok (.istore_n 3, 1) := by decide +kernel
theorem dX5_bound_71 : decode cX5_bound 71 = .ok (.iinc 5 1, 3) := by decide +kernel
theorem dX5_bound_74 : decode cX5_bound 74 = .ok (.goto (-61), 3) := by decide +kernel
theorem dX5_bound_77 : decode cX5_bound 77 = .ok (.iload_n 3, 1) := by decide +kernel
theorem dX5_bound_78 : decode cX5_bound 78 = .ok (.ireturn, 1) := by decide +kernel
set_option maxRecDepth 20000 in
theorem ggX5_movesWith_X5_isPart : GoodIn wsX5_movesWith wsX5_isPart := goodIn_r _ [5, 6, 20, 21, 22, 23, 24, 25, 26, 27, 28, 29, 30, 31, 32, 33, 34, 35, 36, 37, 38] (by decide +kernel) (by decide +kernel)
set_option maxRecDepth 20000 in
theorem gX5_movesWith_X5_isPart : GoodIn wsX5_movesWith (wsV RX5 58 RX5 yX5_isPart wsX5_isPart) := goodIn_app (goodIn_of _ (by decide +kernel)) ggX5_movesWith_X5_isPart
set_option maxRecDepth 20000 in
theorem ggX5_movesWith_X5_isDirection : GoodIn wsX5_movesWith wsX5_isDirection := goodIn_r _ [9] (by decide +kernel) (by decide +kernel)
set_option maxRecDepth 20000 in
theorem gX5_movesWith_X5_isDirection : GoodIn wsX5_movesWith (va_wsS RX5 65 yX5_isDirection wsX5_isDirection) := goodIn_app (goodIn_of _ (by decide +kernel)) ggX5_movesWith_X5_isDirection
set_option maxRecDepth 20000 in
theorem ggX5_movesWith_X5_holds : GoodIn wsX5_movesWith wsX5_holds := goodIn_r _ [13, 14, 20, 21, 22, 23, 24, 25, 26, 27, 28, 29, 30, 31, 32, 33, 34, 35, 36, 37, 38] (by decide +kernel) (by decide +kernel)
set_option maxRecDepth 20000 in
theorem gX5_movesWith_X5_holds : GoodIn wsX5_movesWith (wsV RX5 51 RX5 yX5_holds wsX5_holds) := goodIn_app (goodIn_of _ (by decide +kernel)) ggX5_movesWith_X5_holds
set_option maxRecDepth 20000 in
theorem ggX5_movesWith_X5_moving : GoodIn wsX5_movesWith wsX5_moving := goodIn_r _ [18, 6, 19, 20, 21, 22, 23, 24, 25, 26, 27, 28, 29, 30, 31, 32, 33, 34, 35, 36, 37, 38] (by decide +kernel) (by decide +kernel)
set_option maxRecDepth 20000 in
theorem gX5_movesWith_X5_moving : GoodIn wsX5_movesWith (wsV RX5 101 RX5 yX5_moving wsX5_moving) := goodIn_app (goodIn_of _ (by decide +kernel)) ggX5_movesWith_X5_moving
theorem dX5_movesWith_0 : decode cX5_movesWith 0 = .ok (.aload_n 0, 1) := by decide +kernel
theorem dX5_movesWith_1 : decode cX5_movesWith 1 = .ok (.aload_n 0, 1) := by decide +kernel
theorem dX5_movesWith_2 : decode cX5_movesWith 2 = .ok (.iload_n 1, 1) := by decide +kernel
theorem dX5_movesWith_3 : decode cX5_movesWith 3 = .ok (.invokevirtual 58, 3) := by decide +kernel
theorem dX5_movesWith_6 : decode cX5_movesWith 6 = .ok (.ifCond .eq 14, 3) := by decide +kernel
theorem dX5_movesWith_9 : decode cX5_movesWith 9 = .ok (.iload_n 2, 1) := by decide +kernel
theorem dX5_movesWith_10 : decode cX5_movesWith 10 = .ok (.invokestatic 65, 3) := by decide +kernel
theorem dX5_movesWith_13 : decode cX5_movesWith 13 = .ok (.ifCond .eq 7, 3) := by decide +kernel
theorem dX5_movesWith_16 : decode cX5_movesWith 16 = .ok (.iconst 0, 1) := by decide +kernel
theorem dX5_movesWith_17 : decode cX5_movesWith 17 = .ok (.goto 4, 3) := by decide +kernel
theorem dX5_movesWith_20 : decode cX5_movesWith 20 = .ok (.iconst 1, 1) := by decide +kernel
theorem dX5_movesWith_21 : decode cX5_movesWith 21 = .ok (.invokevirtual 51, 3) := by decide +kernel
theorem dX5_movesWith_24 : decode cX5_movesWith 24 = .ok (.ifCond .eq 12, 3) := by decide +kernel
theorem dX5_movesWith_27 : decode cX5_movesWith 27 = .ok (.aload_n 0, 1) := by decide +kernel
theorem dX5_movesWith_28 : decode cX5_movesWith 28 = .ok (.iload_n 1, 1) := by decide +kernel
theorem dX5_movesWith_29 : decode cX5_movesWith 29 = .ok (.iload_n 2, 1) := by decide +kernel
theorem dX5_movesWith_30 : decode cX5_movesWith 30 = .ok (.invokevirtual 101, 3) := by decide +kernel
theorem dX5_movesWith_33 : decode cX5_movesWith 33 = .ok (.goto 4, 3) := by decide +kernel
theorem dX5_movesWith_36 : decode cX5_movesWith 36 = .ok (.iconst 0, 1) := by decide +kernel
theorem dX5_movesWith_37 : decode cX5_movesWith 37 = .ok (.ireturn, 1) := by decide +kernel
set_option maxRecDepth 20000 in
theorem ggX5_boundTo_X5_isPart : GoodIn wsX5_boundTo wsX5_isPart := goodIn_r _ [5, 6, 24, 25, 26, 27, 28, 29, 30, 31, 32, 33, 34, 35, 36, 37, 38, 39, 40, 41, 42] (by decide +kernel) (by decide +kernel)
set_option maxRecDepth 20000 in
theorem gX5_boundTo_X5_isPart : GoodIn wsX5_boundTo (wsV RX5 58 RX5 yX5_isPart wsX5_isPart) := goodIn_app (goodIn_of _ (by decide +kernel)) ggX5_boundTo_X5_isPart
set_option maxRecDepth 20000 in
theorem ggX5_boundTo_X5_isDirection : GoodIn wsX5_boundTo wsX5_isDirection := goodIn_r _ [9] (by decide +kernel) (by decide +kernel)
set_option maxRecDepth 20000 in
theorem gX5_boundTo_X5_isDirection : GoodIn wsX5_boundTo (va_wsS RX5 65 yX5_isDirection wsX5_isDirection) := goodIn_app (goodIn_of _ (by decide +kernel)) ggX5_boundTo_X5_isDirection
set_option maxRecDepth 20000 in
theorem ggX5_boundTo_X5_holds : GoodIn wsX5_boundTo wsX5_holds := goodIn_r _ [13, 14, 24, 25, 26, 27, 28, 29, 30, 31, 32, 33, 34, 35, 36, 37, 38, 39, 40, 41, 42] (by decide +kernel) (by decide +kernel)
set_option maxRecDepth 20000 in
theorem gX5_boundTo_X5_holds : GoodIn wsX5_boundTo (wsV RX5 51 RX5 yX5_holds wsX5_holds) := goodIn_app (goodIn_of _ (by decide +kernel)) ggX5_boundTo_X5_holds
set_option maxRecDepth 20000 in
theorem ggX5_boundTo_X5_bound : GoodIn wsX5_boundTo wsX5_bound := goodIn_r _ [18, 6, 19, 20, 21, 4, 22, 23, 24, 25, 26, 27, 28, 29, 30, 31, 32, 33, 34, 35, 36, 37, 38, 39, 40, 41, 42] (by decide +kernel) (by decide +kernel)
set_option maxRecDepth 20000 in
theorem gX5_boundTo_X5_bound : GoodIn wsX5_boundTo (wsV RX5 104 RX5 yX5_bound wsX5_bound) := goodIn_app (goodIn_of _ (by decide +kernel)) ggX5_boundTo_X5_bound
theorem dX5_boundTo_0 : decode cX5_boundTo 0 = .ok (.aload_n 0, 1) := by decide +kernel
theorem dX5_boundTo_1 : decode cX5_boundTo 1 = .ok (.aload_n 0, 1) := by decide +kernel
theorem dX5_boundTo_2 : decode cX5_boundTo 2 = .ok (.iload_n 1, 1) := by decide +kernel
theorem dX5_boundTo_3 : decode cX5_boundTo 3 = .ok (.invokevirtual 58, 3) := by decide +kernel
theorem dX5_boundTo_6 : decode cX5_boundTo 6 = .ok (.ifCond .eq 14, 3) := by decide +kernel
theorem dX5_boundTo_9 : decode cX5_boundTo 9 = .ok (.iload_n 2, 1) := by decide +kernel
theorem dX5_boundTo_10 : decode cX5_boundTo 10 = .ok (.invokestatic 65, 3) := by decide +kernel
theorem dX5_boundTo_13 : decode cX5_boundTo 13 = .ok (.ifCond .eq 7, 3) := by decide +kernel
theorem dX5_boundTo_16 : decode cX5_boundTo 16 = .ok (.iconst 0, 1) := by decide +kernel
theorem dX5_boundTo_17 : decode cX5_boundTo 17 = .ok (.goto 4, 3) := by decide +kernel
theorem dX5_boundTo_20 : decode cX5_boundTo 20 = .ok (.iconst 1, 1) := by decide +kernel
theorem dX5_boundTo_21 : decode cX5_boundTo 21 = .ok (.invokevirtual 51, 3) := by decide +kernel
theorem dX5_boundTo_24 : decode cX5_boundTo 24 = .ok (.ifCond .eq 12, 3) := by decide +kernel
theorem dX5_boundTo_27 : decode cX5_boundTo 27 = .ok (.aload_n 0, 1) := by decide +kernel
theorem dX5_boundTo_28 : decode cX5_boundTo 28 = .ok (.iload_n 1, 1) := by decide +kernel
theorem dX5_boundTo_29 : decode cX5_boundTo 29 = .ok (.iload_n 2, 1) := by decide +kernel
theorem dX5_boundTo_30 : decode cX5_boundTo 30 = .ok (.invokevirtual 104, 3) := by decide +kernel
theorem dX5_boundTo_33 : decode cX5_boundTo 33 = .ok (.goto 4, 3) := by decide +kernel
theorem dX5_boundTo_36 : decode cX5_boundTo 36 = .ok (.iconst 0, 1) := by decide +kernel
theorem dX5_boundTo_37 : decode cX5_boundTo 37 = .ok (.ireturn, 1) := by decide +kernel
set_option maxRecDepth 20000 in
theorem ggX5_groups_X5_isDirection : GoodIn wsX5_groups wsX5_isDirection := goodIn_r _ [5] (by decide +kernel) (by decide +kernel)
set_option maxRecDepth 20000 in
theorem gX5_groups_X5_isDirection : GoodIn wsX5_groups (va_wsS RX5 65 yX5_isDirection wsX5_isDirection) := goodIn_app (goodIn_of _ (by decide +kernel)) ggX5_groups_X5_isDirection
set_option maxRecDepth 20000 in
theorem ggX5_groups_X5_holds : GoodIn wsX5_groups wsX5_holds := goodIn_r _ [9, 10, 20, 21, 22, 23, 24, 25, 26, 27, 28, 29, 30, 31, 32, 33, 34, 35, 36, 37, 38] (by decide +kernel) (by decide +kernel)
set_option maxRecDepth 20000 in
theorem gX5_groups_X5_holds : GoodIn wsX5_groups (wsV RX5 51 RX5 yX5_holds wsX5_holds) := goodIn_app (goodIn_of _ (by decide +kernel)) ggX5_groups_X5_holds
set_option maxRecDepth 20000 in
theorem ggX5_groups_X5_bound : GoodIn wsX5_groups wsX5_bound := goodIn_r _ [14, 1, 15, 16, 17, 4, 18, 19, 20, 21, 22, 23, 24, 25, 26, 27, 28, 29, 30, 31, 32, 33, 34, 35, 36, 37, 38] (by decide +kernel) (by decide +kernel)
set_option maxRecDepth 20000 in
theorem gX5_groups_X5_bound : GoodIn wsX5_groups (wsV RX5 104 RX5 yX5_bound wsX5_bound) := goodIn_app (goodIn_of _ (by decide +kernel)) ggX5_groups_X5_bound
theorem dX5_groups_0 : decode cX5_groups 0 = .ok (.aload_n 0, 1) := by decide +kernel
theorem dX5_groups_1 : decode cX5_groups 1 = .ok (.iload_n 1, 1) := by decide +kernel
theorem dX5_groups_2 : decode cX5_groups 2 = .ok (.invokestatic 65, 3) := by decide +kernel
theorem dX5_groups_5 : decode cX5_groups 5 = .ok (.ifCond .eq 7, 3) := by decide +kernel
theorem dX5_groups_8 : decode cX5_groups 8 = .ok (.iconst 0, 1) := by decide +kernel
theorem dX5_groups_9 : decode cX5_groups 9 = .ok (.goto 4, 3) := by decide +kernel
theorem dX5_groups_12 : decode cX5_groups 12 = .ok (.iconst 1, 1) := by decide +kernel
theorem dX5_groups_13 : decode cX5_groups 13 = .ok (.invokevirtual 51, 3) := by decide +kernel
theorem dX5_groups_16 : decode cX5_groups 16 = .ok (.ifCond .ne 5, 3) := by decide +kernel
theorem dX5_groups_19 : decode cX5_groups 19 = .ok (.iconst 0, 1) := by decide +kernel
theorem dX5_groups_20 : decode cX5_groups 20 = .ok (.ireturn, 1) := by decide +kernel
theorem dX5_groups_21 : decode cX5_groups 21 = .ok (.iconst 0, 1) := by decide +kernel
theorem dX5_groups_22 : decode cX5_groups 22 = .ok (.istore_n 2, 1) := by decide +kernel
theorem dX5_groups_23 : decode cX5_groups 23 = .ok (.iconst 0, 1) := by decide +kernel
theorem dX5_groups_24 : decode cX5_groups 24 = .ok (.istore_n 3, 1) := by decide +kernel
theorem dX5_groups_25 : decode cX5_groups 25 = .ok (.iload_n 3, 1) := by decide +kernel
theorem dX5_groups_26 : decode cX5_groups 26 = .ok (.aload_n 0, 1) := by decide +kernel
theorem dX5_groups_27 : decode cX5_groups 27 = .ok (.getfield 44, 3) := by decide +kernel
theorem dX5_groups_30 : decode cX5_groups 30 = .ok (.if_icmp .ge 37, 3) := by decide +kernel
theorem dX5_groups_33 : decode cX5_groups 33 = .ok (.aload_n 0, 1) := by decide +kernel
theorem dX5_groups_34 : decode cX5_groups 34 = .ok (.iload_n 3, 1) := by decide +kernel
theorem dX5_groups_35 : decode cX5_groups 35 = .ok (.iload_n 1, 1) := by decide +kernel
theorem dX5_groups_36 : decode cX5_groups 36 = .ok (.invokevirtual 104, 3) := by decide +kernel
theorem dX5_groups_39 : decode cX5_groups 39 = .ok (.istore 4, 2) := by decide +kernel
theorem dX5_groups_41 : decode cX5_groups 41 = .ok (.iload_n 2, 1) := by decide +kernel
theorem dX5_groups_42 : decode cX5_groups 42 = .ok (.iload 4, 2) := by decide +kernel
theorem dX5_groups_44 : decode cX5_groups 44 = .ok (.iload 4, 2) := by decide +kernel
theorem dX5_groups_46 : decode cX5_groups 46 = .ok (.ineg, 1) := by decide +kernel
theorem dX5_groups_47 : decode cX5_groups 47 = .ok (.iand, 1) := by decide +kernel
theorem dX5_groups_48 : decode cX5_groups 48 = .ok (.iconst 1, 1) := by decide +kernel
theorem dX5_groups_49 : decode cX5_groups 49 = .ok (.iload_n 3, 1) := by decide +kernel
theorem dX5_groups_50 : decode cX5_groups 50 = .ok (.ishl, 1) := by decide +kernel
theorem dX5_groups_51 : decode cX5_groups 51 = .ok (.if_icmp .ne 7, 3) := by decide +kernel
theorem dX5_groups_54 : decode cX5_groups 54 = .ok (.iconst 1, 1) := by decide +kernel
theorem dX5_groups_55 : decode cX5_groups 55 = .ok (.goto 4, 3) := by decide +kernel
theorem dX5_groups_58 : decode cX5_groups 58 = .ok (.iconst 0, 1) := by decide +kernel
theorem dX5_groups_59 : decode cX5_groups 59 = .ok (.iadd, 1) := by decide +kernel
theorem dX5_groups_60 : decode cX5_groups 60 = .ok (.istore_n 2, 1) := by decide +kernel
theorem dX5_groups_61 : decode cX5_groups 61 = .ok (.iinc 3 1, 3) := by decide +kernel
theorem dX5_groups_64 : decode cX5_groups 64 = .ok (.goto (-39), 3) := by decide +kernel
theorem dX5_groups_67 : decode cX5_groups 67 = .ok (.iload_n 2, 1) := by decide +kernel
theorem dX5_groups_68 : decode cX5_groups 68 = .ok (.ireturn, 1) := by decide +kernel
theorem dX5_canPart_0 : decode cX5_canPart 0 = .ok (.iconst 0, 1) := by decide +kernel
theorem dX5_canPart_1 : decode cX5_canPart 1 = .ok (.istore_n 3, 1) := by decide +kernel
theorem dX5_canPart_2 : decode cX5_canPart 2 = .ok (.iconst 0, 1) := by decide +kernel
theorem dX5_canPart_3 : decode cX5_canPart 3 = .ok (.istore 4, 2) := by decide +kernel
theorem dX5_canPart_5 : decode cX5_canPart 5 = .ok (.iload 4, 2) := by decide +kernel
theorem dX5_canPart_7 : decode cX5_canPart 7 = .ok (.bipush 6, 2) := by decide +kernel
theorem dX5_canPart_9 : decode cX5_canPart 9 = .ok (.if_icmp .ge 79, 3) := by decide +kernel
theorem dX5_canPart_12 : decode cX5_canPart 12 = .ok (.iconst 0, 1) := by decide +kernel
theorem dX5_canPart_13 : decode cX5_canPart 13 = .ok (.istore 5, 2) := by decide +kernel
theorem dX5_canPart_15 : decode cX5_canPart 15 = .ok (.iconst 0, 1) := by decide +kernel
theorem dX5_canPart_16 : decode cX5_canPart 16 = .ok (.istore 6, 2) := by decide +kernel
theorem dX5_canPart_18 : decode cX5_canPart 18 = .ok (.iload 6, 2) := by decide +kernel
theorem dX5_canPart_20 : decode cX5_canPart 20 = .ok (.aload_n 0, 1) := by decide +kernel
theorem dX5_canPart_21 : decode cX5_canPart 21 = .ok (.getfield 44, 3) := by decide +kernel
theorem dX5_canPart_24 : decode cX5_canPart 24 = .ok (.if_icmp .ge 43, 3) := by decide +kernel
theorem dX5_canPart_27 : decode cX5_canPart 27 = .ok (.iload 5, 2) := by decide +kernel
theorem dX5_canPart_29 : decode cX5_canPart 29 = .ok (.iload_n 1, 1) := by decide +kernel
theorem dX5_canPart_30 : decode cX5_canPart 30 = .ok (.iload 6, 2) := by decide +kernel
theorem dX5_canPart_32 : decode cX5_canPart 32 = .ok (.ishr, 1) := by decide +kernel
theorem dX5_canPart_33 : decode cX5_canPart 33 = .ok (.iconst 1, 1) := by decide +kernel
theorem dX5_canPart_34 : decode cX5_canPart 34 = .ok (.iand, 1) := by decide +kernel
theorem dX5_canPart_35 : decode cX5_canPart 35 = .ok (.iconst 1, 1) := by decide +kernel
theorem dX5_canPart_36 : decode cX5_canPart 36 = .ok (.if_icmp .ne 21, 3) := by decide +kernel
theorem dX5_canPart_39 : decode cX5_canPart 39 = .ok (.aload_n 0, 1) := by decide +kernel
theorem dX5_canPart_40 : decode cX5_canPart 40 = .ok (.getfield 16, 3) := by decide +kernel
theorem dX5_canPart_43 : decode cX5_canPart 43 = .ok (.bipush 8, 2) := by decide +kernel
theorem dX5_canPart_45 : decode cX5_canPart 45 = .ok (.iload 4, 2) := by decide +kernel
theorem dX5_canPart_47 : decode cX5_canPart 47 = .ok (.imul, 1) := by decide +kernel
theorem dX5_canPart_48 : decode cX5_canPart 48 = .ok (.iload 6, 2) := by decide +kernel
theorem dX5_canPart_50 : decode cX5_canPart 50 = .ok (.iadd, 1) := by decide +kernel
theorem dX5_canPart_51 : decode cX5_canPart 51 = .ok (.iaload, 1) := by decide +kernel
theorem dX5_canPart_52 : decode cX5_canPart 52 = .ok (.iload_n 2, 1) := by decide +kernel
theorem dX5_canPart_53 : decode cX5_canPart 53 = .ok (.iand, 1) := by decide +kernel
theorem dX5_canPart_54 : decode cX5_canPart 54 = .ok (.goto 4, 3) := by decide +kernel
theorem dX5_canPart_57 : decode cX5_canPart 57 = .ok (.iconst 0, 1) := by decide +kernel
theorem dX5_canPart_58 : decode cX5_canPart 58 = .ok (.ior, 1) := by decide +kernel
theorem dX5_canPart_59 : decode cX5_canPart 59 = .ok (.istore 5, 2) := by decide +kernel
theorem dX5_canPart_61 : decode cX5_canPart 61 = .ok (.iinc 6 1, 3) := by decide +kernel
theorem dX5_canPart_64 : decode cX5_canPart 64 = .ok (.goto (-46), 3) := by decide +kernel
theorem dX5_canPart_67 : decode cX5_canPart 67 = .ok (.iload_n 3, 1) := by decide +kernel
theorem dX5_canPart_68 : decode cX5_canPart 68 = .ok (.ifCond .ne 8, 3) := by decide +kernel
theorem dX5_canPart_71 : decode cX5_canPart 71 = .ok (.iload 5, 2) := by decide +kernel
theorem dX5_canPart_73 : decode cX5_canPart 73 = .ok (.ifCond .ne 7, 3) := by decide +kernel
theorem dX5_canPart_76 : decode cX5_canPart 76 = .ok (.iconst 1, 1) := by decide +kernel
theorem dX5_canPart_77 : decode cX5_canPart 77 = .ok (.goto 4, 3) := by decide +kernel
theorem dX5_canPart_80 : decode cX5_canPart 80 = .ok (.iconst 0, 1) := by decide +kernel
theorem dX5_canPart_81 : decode cX5_canPart 81 = .ok (.istore_n 3, 1) := by decide +kernel
theorem dX5_canPart_82 : decode cX5_canPart 82 = .ok (.iinc 4 1, 3) := by decide +kernel
theorem dX5_canPart_85 : decode cX5_canPart 85 = .ok (.goto (-80), 3) := by decide +kernel
theorem dX5_canPart_88 : decode cX5_canPart 88 = .ok (.iload_n 3, 1) := by decide +kernel
theorem dX5_canPart_89 : decode cX5_canPart 89 = .ok (.ireturn, 1) := by decide +kernel
set_option maxRecDepth 20000 in
theorem ggX5_isSplit_X5_hangsTogether : GoodIn wsX5_isSplit wsX5_hangsTogether := goodIn_r _ [5, 6, 7, 8, 4, 9, 10, 11, 17, 18, 19, 20, 21, 22, 23, 24, 25, 26, 27, 28, 29, 30, 31, 32, 33, 34, 35] (by decide +kernel) (by decide +kernel)
set_option maxRecDepth 20000 in
theorem gX5_isSplit_X5_hangsTogether : GoodIn wsX5_isSplit (wsV RX5 82 RX5 yX5_hangsTogether wsX5_hangsTogether) := goodIn_app (goodIn_of _ (by decide +kernel)) ggX5_isSplit_X5_hangsTogether
set_option maxRecDepth 20000 in
theorem ggX5_isSplit_X5_canPart : GoodIn wsX5_isSplit wsX5_canPart := goodIn_r _ [15, 10, 16, 17, 18, 19, 20, 21, 22, 23, 24, 25, 26, 27, 28, 29, 30, 31, 32, 33, 34, 35] (by decide +kernel) (by decide +kernel)
set_option maxRecDepth 20000 in
theorem gX5_isSplit_X5_canPart : GoodIn wsX5_isSplit (wsV RX5 107 RX5 yX5_canPart wsX5_canPart) := goodIn_app (goodIn_of _ (by decide +kernel)) ggX5_isSplit_X5_canPart
