set_option maxRecDepth 20000 in
theorem ggL_addPart_X4_addPart : GoodIn wsL_addPart wsX4_addPart := goodIn_ca (goodIn_ca (goodIn_r _ [7, 8, 9, 10, 11, 12, 13, 6, 14, 15, 16, 17, 18, 19, 20, 21, 22, 23, 24, 25, 26, 27, 28, 29, 30, 31, 32, 33, 34, 35, 36, 37, 38, 39, 40, 41, 42, 43, 44, 45, 46, 47, 48, 49, 50, 51, 52, 53, 54, 55, 56, 57, 58, 59, 60, 61, 62, 63, 64, 65, 66, 67, 68, 69, 70, 71, 72, 73, 74, 75, 76, 77, 78, 79, 80, 81, 82, 83, 84, 85, 86, 87, 88, 89] (by decide +kernel) (by decide +kernel)) (goodIn_sub (fun _ h => List.mem_cons_of_mem _ (List.mem_append_left _ (List.mem_append_right _ h))) (by decide +kernel))) (goodIn_sub (fun _ h => List.mem_cons_of_mem _ (List.mem_append_right _ h)) (by decide +kernel))
set_option maxRecDepth 20000 in
theorem gL_addPart_X4_addPart : GoodIn wsL_addPart (wsV RL 7 RX4 yX4_addPart wsX4_addPart) := goodIn_app (goodIn_of _ (by decide +kernel)) ggL_addPart_X4_addPart
theorem dL_addPart_0 : decode cL_addPart 0 = .ok (.aload_n 2, 1) := by decide +kernel
theorem dL_addPart_1 : decode cL_addPart 1 = .ok (.iconst 0, 1) := by decide +kernel
theorem dL_addPart_2 : decode cL_addPart 2 = .ok (.aload_n 0, 1) := by decide +kernel
theorem dL_addPart_3 : decode cL_addPart 3 = .ok (.iload_n 1, 1) := by decide +kernel
theorem dL_addPart_4 : decode cL_addPart 4 = .ok (.invokevirtual 7, 3) := by decide +kernel
theorem dL_addPart_7 : decode cL_addPart 7 = .ok (.i2l, 1) := by decide +kernel
theorem dL_addPart_8 : decode cL_addPart 8 = .ok (.lastore, 1) := by decide +kernel
theorem dL_addPart_9 : decode cL_addPart 9 = .ok (.goto 9, 3) := by decide +kernel
theorem dL_addPart_12 : decode cL_addPart 12 = .ok (.astore_n 3, 1) := by decide +kernel
theorem dL_addPart_13 : decode cL_addPart 13 = .ok (.iconst 1, 1) := by decide +kernel
theorem dL_addPart_14 : decode cL_addPart 14 = .ok (.ireturn, 1) := by decide +kernel
theorem dL_addPart_15 : decode cL_addPart 15 = .ok (.astore_n 3, 1) := by decide +kernel
theorem dL_addPart_16 : decode cL_addPart 16 = .ok (.iconst 2, 1) := by decide +kernel
theorem dL_addPart_17 : decode cL_addPart 17 = .ok (.ireturn, 1) := by decide +kernel
theorem dL_addPart_18 : decode cL_addPart 18 = .ok (.iconst 0, 1) := by decide +kernel
theorem dL_addPart_19 : decode cL_addPart 19 = .ok (.ireturn, 1) := by decide +kernel
set_option maxRecDepth 20000 in
theorem ggL_setTool_X4_setTool : GoodIn wsL_setTool wsX4_setTool := goodIn_ca (goodIn_ca (goodIn_r _ [7, 8, 9, 10, 11, 6, 12, 13, 14, 15, 16, 17, 18, 19, 20, 21, 22, 23, 24, 25, 26, 27, 28, 29, 30, 31, 32, 33, 34, 35, 36, 37, 38, 39, 40, 41, 42, 43, 44, 45, 46, 47, 48, 49, 50, 51, 52, 53, 54, 55, 56, 57, 58, 59, 60, 61, 62, 63, 64, 65, 66, 67, 68, 69, 70, 71, 72, 73, 74, 75, 76, 77, 78, 79, 80, 81, 82, 83, 84, 85, 86, 87, 88, 89, 90, 91, 92, 93] (by decide +kernel) (by decide +kernel)) (goodIn_sub (fun _ h => List.mem_cons_of_mem _ (List.mem_append_left _ (List.mem_append_right _ h))) (by decide +kernel))) (goodIn_sub (fun _ h => List.mem_cons_of_mem _ (List.mem_append_right _ h)) (by decide +kernel))
set_option maxRecDepth 20000 in
theorem gL_setTool_X4_setTool : GoodIn wsL_setTool (wsV RL 17 RX4 yX4_setTool wsX4_setTool) := goodIn_app (goodIn_of _ (by decide +kernel)) ggL_setTool_X4_setTool
theorem dL_setTool_0 : decode cL_setTool 0 = .ok (.aload_n 3, 1) := by decide +kernel
theorem dL_setTool_1 : decode cL_setTool 1 = .ok (.iconst 0, 1) := by decide +kernel
theorem dL_setTool_2 : decode cL_setTool 2 = .ok (.aload_n 0, 1) := by decide +kernel
theorem dL_setTool_3 : decode cL_setTool 3 = .ok (.iload_n 1, 1) := by decide +kernel
theorem dL_setTool_4 : decode cL_setTool 4 = .ok (.iload_n 2, 1) := by decide +kernel
theorem dL_setTool_5 : decode cL_setTool 5 = .ok (.invokevirtual 17, 3) := by decide +kernel
theorem dL_setTool_8 : decode cL_setTool 8 = .ok (.i2l, 1) := by decide +kernel
theorem dL_setTool_9 : decode cL_setTool 9 = .ok (.lastore, 1) := by decide +kernel
theorem dL_setTool_10 : decode cL_setTool 10 = .ok (.goto 11, 3) := by decide +kernel
theorem dL_setTool_13 : decode cL_setTool 13 = .ok (.astore 4, 2) := by decide +kernel
theorem dL_setTool_15 : decode cL_setTool 15 = .ok (.iconst 1, 1) := by decide +kernel
theorem dL_setTool_16 : decode cL_setTool 16 = .ok (.ireturn, 1) := by decide +kernel
theorem dL_setTool_17 : decode cL_setTool 17 = .ok (.astore 4, 2) := by decide +kernel
theorem dL_setTool_19 : decode cL_setTool 19 = .ok (.iconst 2, 1) := by decide +kernel
theorem dL_setTool_20 : decode cL_setTool 20 = .ok (.ireturn, 1) := by decide +kernel
theorem dL_setTool_21 : decode cL_setTool 21 = .ok (.iconst 0, 1) := by decide +kernel
theorem dL_setTool_22 : decode cL_setTool 22 = .ok (.ireturn, 1) := by decide +kernel
set_option maxRecDepth 20000 in
theorem ggL_contact_X4_contact : GoodIn wsL_contact wsX4_contact := goodIn_ca (goodIn_ca (goodIn_r _ [7, 8, 9, 10, 11, 6, 12, 13, 14, 15, 16, 17, 18, 19, 20, 21, 22, 23, 24, 25, 26, 27, 28, 29, 30, 31, 32, 33, 34, 35, 36, 37, 38, 39, 40, 41, 42, 43, 44, 45, 46, 47, 48, 49, 50, 51, 52, 53, 54, 55, 56, 57, 58, 59, 60, 61, 62, 63, 64, 65, 66, 67, 68, 69, 70, 71, 72, 73, 74, 75, 76, 77, 78, 79, 80, 81, 82, 83, 84, 85, 86, 87, 88, 89, 90, 91, 92, 93, 94, 95, 96, 97, 98, 99, 100, 101, 102, 103] (by decide +kernel) (by decide +kernel)) (goodIn_sub (fun _ h => List.mem_cons_of_mem _ (List.mem_append_left _ (List.mem_append_right _ h))) (by decide +kernel))) (goodIn_sub (fun _ h => List.mem_cons_of_mem _ (List.mem_append_right _ h)) (by decide +kernel))
set_option maxRecDepth 20000 in
theorem gL_contact_X4_contact : GoodIn wsL_contact (wsV RL 23 RX4 yX4_contact wsX4_contact) := goodIn_app (goodIn_of _ (by decide +kernel)) ggL_contact_X4_contact
theorem dL_contact_0 : decode cL_contact 0 = .ok (.aload 4, 2) := by decide +kernel
theorem dL_contact_2 : decode cL_contact 2 = .ok (.iconst 0, 1) := by decide +kernel
theorem dL_contact_3 : decode cL_contact 3 = .ok (.aload_n 0, 1) := by decide +kernel
theorem dL_contact_4 : decode cL_contact 4 = .ok (.iload_n 1, 1) := by decide +kernel
theorem dL_contact_5 : decode cL_contact 5 = .ok (.iload_n 2, 1) := by decide +kernel
theorem dL_contact_6 : decode cL_contact 6 = .ok (.iload_n 3, 1) := by decide +kernel
theorem dL_contact_7 : decode cL_contact 7 = .ok (.invokevirtual 23, 3) := by decide +kernel
theorem dL_contact_10 : decode cL_contact 10 = .ok (.i2l, 1) := by decide +kernel
theorem dL_contact_11 : decode cL_contact 11 = .ok (.lastore, 1) := by decide +kernel
theorem dL_contact_12 : decode cL_contact 12 = .ok (.goto 11, 3) := by decide +kernel
theorem dL_contact_15 : decode cL_contact 15 = .ok (.astore 5, 2) := by decide +kernel
theorem dL_contact_17 : decode cL_contact 17 = .ok (.iconst 1, 1) := by decide +kernel
theorem dL_contact_18 : decode cL_contact 18 = .ok (.ireturn, 1) := by decide +kernel
theorem dL_contact_19 : decode cL_contact 19 = .ok (.astore 5, 2) := by decide +kernel
theorem dL_contact_21 : decode cL_contact 21 = .ok (.iconst 2, 1) := by decide +kernel
theorem dL_contact_22 : decode cL_contact 22 = .ok (.ireturn, 1) := by decide +kernel
theorem dL_contact_23 : decode cL_contact 23 = .ok (.iconst 0, 1) := by decide +kernel
theorem dL_contact_24 : decode cL_contact 24 = .ok (.ireturn, 1) := by decide +kernel
set_option maxRecDepth 20000 in
theorem ggL_hinder_X4_hinder : GoodIn wsL_hinder wsX4_hinder := goodIn_ca (goodIn_ca (goodIn_r _ [7, 8, 9, 10, 11, 6, 12, 13, 14, 15, 16, 17, 18, 19, 20, 21, 22, 23, 24, 25, 26, 27, 28, 29, 30, 31, 32, 33, 34, 35, 36, 37, 38, 39, 40, 41, 42, 43, 44, 45, 46, 47, 48, 49, 50, 51, 52, 53, 54, 55, 56, 57, 58, 59, 60, 61, 62, 63, 64, 65, 66, 67, 68, 69, 70, 71, 72, 73, 74, 75, 76, 77, 78, 79, 80, 81, 82, 83, 84, 85, 86, 87, 88, 89, 90, 91, 92, 93, 94, 95, 96, 97, 98, 99, 100, 101, 102, 103, 104, 105, 106, 107, 108, 109, 110] (by decide +kernel) (by decide +kernel)) (goodIn_sub (fun _ h => List.mem_cons_of_mem _ (List.mem_append_left _ (List.mem_append_right _ h))) (by decide +kernel))) (goodIn_sub (fun _ h => List.mem_cons_of_mem _ (List.mem_append_right _ h)) (by decide +kernel))
set_option maxRecDepth 20000 in
theorem gL_hinder_X4_hinder : GoodIn wsL_hinder (wsV RL 27 RX4 yX4_hinder wsX4_hinder) := goodIn_app (goodIn_of _ (by decide +kernel)) ggL_hinder_X4_hinder
theorem dL_hinder_0 : decode cL_hinder 0 = .ok (.aload 5, 2) := by decide +kernel
theorem dL_hinder_2 : decode cL_hinder 2 = .ok (.iconst 0, 1) := by decide +kernel
theorem dL_hinder_3 : decode cL_hinder 3 = .ok (.aload_n 0, 1) := by decide +kernel
theorem dL_hinder_4 : decode cL_hinder 4 = .ok (.iload_n 1, 1) := by decide +kernel
theorem dL_hinder_5 : decode cL_hinder 5 = .ok (.iload_n 2, 1) := by decide +kernel
theorem dL_hinder_6 : decode cL_hinder 6 = .ok (.iload_n 3, 1) := by decide +kernel
theorem dL_hinder_7 : decode cL_hinder 7 = .ok (.iload 4, 2) := by decide +kernel
theorem dL_hinder_9 : decode cL_hinder 9 = .ok (.invokevirtual 27, 3) := by decide +kernel
theorem dL_hinder_12 : decode cL_hinder 12 = .ok (.i2l, 1) := by decide +kernel
theorem dL_hinder_13 : decode cL_hinder 13 = .ok (.lastore, 1) := by decide +kernel
theorem dL_hinder_14 : decode cL_hinder 14 = .ok (.goto 11, 3) := by decide +kernel
theorem dL_hinder_17 : decode cL_hinder 17 = .ok (.astore 6, 2) := by decide +kernel
theorem dL_hinder_19 : decode cL_hinder 19 = .ok (.iconst 1, 1) := by decide +kernel
theorem dL_hinder_20 : decode cL_hinder 20 = .ok (.ireturn, 1) := by decide +kernel
theorem dL_hinder_21 : decode cL_hinder 21 = .ok (.astore 6, 2) := by decide +kernel
theorem dL_hinder_23 : decode cL_hinder 23 = .ok (.iconst 2, 1) := by decide +kernel
theorem dL_hinder_24 : decode cL_hinder 24 = .ok (.ireturn, 1) := by decide +kernel
theorem dL_hinder_25 : decode cL_hinder 25 = .ok (.iconst 0, 1) := by decide +kernel
theorem dL_hinder_26 : decode cL_hinder 26 = .ok (.ireturn, 1) := by decide +kernel
set_option maxRecDepth 20000 in
theorem ggL_setBase_X4_setBase : GoodIn wsL_setBase wsX4_setBase := goodIn_ca (goodIn_r _ [6, 7, 8, 9, 10, 5, 11, 12, 13, 14, 15, 16, 17, 18, 19, 20, 21, 22, 23, 24, 25, 26, 27, 28, 29, 30, 31, 32, 33, 34, 35, 36, 37, 38, 39, 40, 41, 42, 43, 44, 45, 46, 47, 48, 49, 50, 51, 52, 53, 54, 55, 56, 57, 58, 59, 60, 61, 62, 63, 64, 65, 66, 67, 68, 69, 70, 71, 72, 73, 74, 75, 76, 77, 78, 79, 80, 81, 82, 83, 84, 85, 86] (by decide +kernel) (by decide +kernel)) (goodIn_sub (fun _ h => List.mem_cons_of_mem _ (List.mem_append_right _ h)) (by decide +kernel))
set_option maxRecDepth 20000 in
theorem gL_setBase_X4_setBase : GoodIn wsL_setBase (wsV RL 31 RX4 yX4_setBase wsX4_setBase) := goodIn_app (goodIn_of _ (by decide +kernel)) ggL_setBase_X4_setBase
theorem dL_setBase_0 : decode cL_setBase 0 = .ok (.aload_n 2, 1) := by decide +kernel
theorem dL_setBase_1 : decode cL_setBase 1 = .ok (.iconst 0, 1) := by decide +kernel
theorem dL_setBase_2 : decode cL_setBase 2 = .ok (.aload_n 0, 1) := by decide +kernel
theorem dL_setBase_3 : decode cL_setBase 3 = .ok (.iload_n 1, 1) := by decide +kernel
theorem dL_setBase_4 : decode cL_setBase 4 = .ok (.invokevirtual 31, 3) := by decide +kernel
theorem dL_setBase_7 : decode cL_setBase 7 = .ok (.i2l, 1) := by decide +kernel
theorem dL_setBase_8 : decode cL_setBase 8 = .ok (.lastore, 1) := by decide +kernel
theorem dL_setBase_9 : decode cL_setBase 9 = .ok (.goto 6, 3) := by decide +kernel
theorem dL_setBase_12 : decode cL_setBase 12 = .ok (.astore_n 3, 1) := by decide +kernel
theorem dL_setBase_13 : decode cL_setBase 13 = .ok (.iconst 1, 1) := by decide +kernel
theorem dL_setBase_14 : decode cL_setBase 14 = .ok (.ireturn, 1) := by decide +kernel
theorem dL_setBase_15 : decode cL_setBase 15 = .ok (.iconst 0, 1) := by decide +kernel
theorem dL_setBase_16 : decode cL_setBase 16 = .ok (.ireturn, 1) := by decide +kernel
set_option maxRecDepth 20000 in
theorem ggL_isConnected_X4_isConnected : GoodIn wsL_isConnected wsX4_isConnected := goodIn_ca (goodIn_r _ [6, 7, 8, 9, 10, 5, 11, 12, 13, 14, 15, 16, 17, 18, 19, 20, 21, 22, 23, 24, 25, 26, 27, 28, 29, 30, 31, 32, 33, 34, 35, 36, 37] (by decide +kernel) (by decide +kernel)) (goodIn_sub (fun _ h => List.mem_cons_of_mem _ (List.mem_append_right _ h)) (by decide +kernel))
set_option maxRecDepth 20000 in
theorem gL_isConnected_X4_isConnected : GoodIn wsL_isConnected (wsV RL 34 RX4 yX4_isConnected wsX4_isConnected) := goodIn_app (goodIn_of _ (by decide +kernel)) ggL_isConnected_X4_isConnected
theorem dL_isConnected_0 : decode cL_isConnected 0 = .ok (.aload_n 2, 1) := by decide +kernel
theorem dL_isConnected_1 : decode cL_isConnected 1 = .ok (.iconst 0, 1) := by decide +kernel
theorem dL_isConnected_2 : decode cL_isConnected 2 = .ok (.aload_n 0, 1) := by decide +kernel
theorem dL_isConnected_3 : decode cL_isConnected 3 = .ok (.iload_n 1, 1) := by decide +kernel
theorem dL_isConnected_4 : decode cL_isConnected 4 = .ok (.invokevirtual 34, 3) := by decide +kernel
theorem dL_isConnected_7 : decode cL_isConnected 7 = .ok (.ifCond .eq 7, 3) := by decide +kernel
theorem dL_isConnected_10 : decode cL_isConnected 10 = .ok (.lconst 1, 1) := by decide +kernel
theorem dL_isConnected_11 : decode cL_isConnected 11 = .ok (.goto 4, 3) := by decide +kernel
theorem dL_isConnected_14 : decode cL_isConnected 14 = .ok (.lconst 0, 1) := by decide +kernel
theorem dL_isConnected_15 : decode cL_isConnected 15 = .ok (.lastore, 1) := by decide +kernel
theorem dL_isConnected_16 : decode cL_isConnected 16 = .ok (.goto 6, 3) := by decide +kernel
theorem dL_isConnected_19 : decode cL_isConnected 19 = .ok (.astore_n 3, 1) := by decide +kernel
theorem dL_isConnected_20 : decode cL_isConnected 20 = .ok (.iconst 1, 1) := by decide +kernel
theorem dL_isConnected_21 : decode cL_isConnected 21 = .ok (.ireturn, 1) := by decide +kernel
theorem dL_isConnected_22 : decode cL_isConnected 22 = .ok (.iconst 0, 1) := by decide +kernel
theorem dL_isConnected_23 : decode cL_isConnected 23 = .ok (.ireturn, 1) := by decide +kernel
set_option maxRecDepth 20000 in
theorem ggL_isSteady_X4_isSteady : GoodIn wsL_isSteady wsX4_isSteady := goodIn_ca (goodIn_r _ [6, 7, 8, 9, 10, 5, 11, 12, 13, 14, 15, 16, 17, 18, 19, 20, 21, 22, 23, 24, 25, 26, 27, 28, 29, 30, 31, 32, 33, 34, 35, 36, 37, 38] (by decide +kernel) (by decide +kernel)) (goodIn_sub (fun _ h => List.mem_cons_of_mem _ (List.mem_append_right _ h)) (by decide +kernel))
set_option maxRecDepth 20000 in
theorem gL_isSteady_X4_isSteady : GoodIn wsL_isSteady (wsV RL 38 RX4 yX4_isSteady wsX4_isSteady) := goodIn_app (goodIn_of _ (by decide +kernel)) ggL_isSteady_X4_isSteady
theorem dL_isSteady_0 : decode cL_isSteady 0 = .ok (.aload_n 2, 1) := by decide +kernel
theorem dL_isSteady_1 : decode cL_isSteady 1 = .ok (.iconst 0, 1) := by decide +kernel
theorem dL_isSteady_2 : decode cL_isSteady 2 = .ok (.aload_n 0, 1) := by decide +kernel
theorem dL_isSteady_3 : decode cL_isSteady 3 = .ok (.iload_n 1, 1) := by decide +kernel
theorem dL_isSteady_4 : decode cL_isSteady 4 = .ok (.invokevirtual 38, 3) := by decide +kernel
theorem dL_isSteady_7 : decode cL_isSteady 7 = .ok (.ifCond .eq 7, 3) := by decide +kernel
theorem dL_isSteady_10 : decode cL_isSteady 10 = .ok (.lconst 1, 1) := by decide +kernel
theorem dL_isSteady_11 : decode cL_isSteady 11 = .ok (.goto 4, 3) := by decide +kernel
theorem dL_isSteady_14 : decode cL_isSteady 14 = .ok (.lconst 0, 1) := by decide +kernel
theorem dL_isSteady_15 : decode cL_isSteady 15 = .ok (.lastore, 1) := by decide +kernel
theorem dL_isSteady_16 : decode cL_isSteady 16 = .ok (.goto 6, 3) := by decide +kernel
theorem dL_isSteady_19 : decode cL_isSteady 19 = .ok (.astore_n 3, 1) := by decide +kernel
theorem dL_isSteady_20 : decode cL_isSteady 20 = .ok (.iconst 1, 1) := by decide +kernel
theorem dL_isSteady_21 : decode cL_isSteady 21 = .ok (.ireturn, 1) := by decide +kernel
theorem dL_isSteady_22 : decode cL_isSteady 22 = .ok (.iconst 0, 1) := by decide +kernel
theorem dL_isSteady_23 : decode cL_isSteady 23 = .ok (.ireturn, 1) := by decide +kernel
set_option maxRecDepth 20000 in
theorem ggL_free_X4_free : GoodIn wsL_free wsX4_free := goodIn_ca (goodIn_ca (goodIn_r _ [7, 8, 9, 10, 11, 6, 12, 13, 14, 15, 16, 17, 18, 19, 20, 21, 22, 23, 24, 25, 26, 27, 28, 29, 30, 31, 32, 33, 34, 35, 36, 37, 38, 39, 40, 41, 42, 43, 44, 45, 46, 47, 48, 49] (by decide +kernel) (by decide +kernel)) (goodIn_sub (fun _ h => List.mem_cons_of_mem _ (List.mem_append_left _ (List.mem_append_right _ h))) (by decide +kernel))) (goodIn_sub (fun _ h => List.mem_cons_of_mem _ (List.mem_append_right _ h)) (by decide +kernel))
set_option maxRecDepth 20000 in
theorem gL_free_X4_free : GoodIn wsL_free (wsV RL 41 RX4 yX4_free wsX4_free) := goodIn_app (goodIn_of _ (by decide +kernel)) ggL_free_X4_free
theorem dL_free_0 : decode cL_free 0 = .ok (.aload_n 3, 1) := by decide +kernel
theorem dL_free_1 : decode cL_free 1 = .ok (.iconst 0, 1) := by decide +kernel
theorem dL_free_2 : decode cL_free 2 = .ok (.aload_n 0, 1) := by decide +kernel
theorem dL_free_3 : decode cL_free 3 = .ok (.iload_n 1, 1) := by decide +kernel
theorem dL_free_4 : decode cL_free 4 = .ok (.iload_n 2, 1) := by decide +kernel
theorem dL_free_5 : decode cL_free 5 = .ok (.invokevirtual 41, 3) := by decide +kernel
theorem dL_free_8 : decode cL_free 8 = .ok (.i2l, 1) := by decide +kernel
theorem dL_free_9 : decode cL_free 9 = .ok (.lastore, 1) := by decide +kernel
theorem dL_free_10 : decode cL_free 10 = .ok (.goto 11, 3) := by decide +kernel
theorem dL_free_13 : decode cL_free 13 = .ok (.astore 4, 2) := by decide +kernel
theorem dL_free_15 : decode cL_free 15 = .ok (.iconst 1, 1) := by decide +kernel
theorem dL_free_16 : decode cL_free 16 = .ok (.ireturn, 1) := by decide +kernel
theorem dL_free_17 : decode cL_free 17 = .ok (.astore 4, 2) := by decide +kernel
theorem dL_free_19 : decode cL_free 19 = .ok (.iconst 2, 1) := by decide +kernel
theorem dL_free_20 : decode cL_free 20 = .ok (.ireturn, 1) := by decide +kernel
theorem dL_free_21 : decode cL_free 21 = .ok (.iconst 0, 1) := by decide +kernel
theorem dL_free_22 : decode cL_free 22 = .ok (.ireturn, 1) := by decide +kernel
set_option maxRecDepth 20000 in
theorem ggL_canTake_X4_canTake : GoodIn wsL_canTake wsX4_canTake := goodIn_ca (goodIn_ca (goodIn_r _ [7, 8, 9, 10, 11, 6, 12, 13, 14, 15, 16, 17, 18, 19, 20, 21, 22, 23, 24, 25, 26, 27, 28, 29, 30, 31, 32, 33, 34, 35, 36, 37, 38, 39, 40, 41, 42, 43, 44, 45, 46, 47, 48, 49, 50, 51, 52, 53, 54, 55, 56, 57, 58, 59, 60, 61, 62, 63, 64, 65, 66, 67, 68, 69, 70, 71] (by decide +kernel) (by decide +kernel)) (goodIn_sub (fun _ h => List.mem_cons_of_mem _ (List.mem_append_left _ (List.mem_append_right _ h))) (by decide +kernel))) (goodIn_sub (fun _ h => List.mem_cons_of_mem _ (List.mem_append_right _ h)) (by decide +kernel))
set_option maxRecDepth 20000 in
theorem gL_canTake_X4_canTake : GoodIn wsL_canTake (wsV RL 44 RX4 yX4_canTake wsX4_canTake) := goodIn_app (goodIn_of _ (by decide +kernel)) ggL_canTake_X4_canTake
theorem dL_canTake_0 : decode cL_canTake 0 = .ok (.aload_n 3, 1) := by decide +kernel
theorem dL_canTake_1 : decode cL_canTake 1 = .ok (.iconst 0, 1) := by decide +kernel
theorem dL_canTake_2 : decode cL_canTake 2 = .ok (.aload_n 0, 1) := by decide +kernel
theorem dL_canTake_3 : decode cL_canTake 3 = .ok (.iload_n 1, 1) := by decide +kernel
theorem dL_canTake_4 : decode cL_canTake 4 = .ok (.iload_n 2, 1) := by decide +kernel
theorem dL_canTake_5 : decode cL_canTake 5 = .ok (.invokevirtual 44, 3) := by decide +kernel
theorem dL_canTake_8 : decode cL_canTake 8 = .ok (.ifCond .eq 7, 3) := by decide +kernel
theorem dL_canTake_11 : decode cL_canTake 11 = .ok (.lconst 1, 1) := by decide +kernel
theorem dL_canTake_12 : decode cL_canTake 12 = .ok (.goto 4, 3) := by decide +kernel
theorem dL_canTake_15 : decode cL_canTake 15 = .ok (.lconst 0, 1) := by decide +kernel
theorem dL_canTake_16 : decode cL_canTake 16 = .ok (.lastore, 1) := by decide +kernel
theorem dL_canTake_17 : decode cL_canTake 17 = .ok (.goto 11, 3) := by decide +kernel
theorem dL_canTake_20 : decode cL_canTake 20 = .ok (.astore 4, 2) := by decide +kernel
theorem dL_canTake_22 : decode cL_canTake 22 = .ok (.iconst 1, 1) := by decide +kernel
theorem dL_canTake_23 : decode cL_canTake 23 = .ok (.ireturn, 1) := by decide +kernel
theorem dL_canTake_24 : decode cL_canTake 24 = .ok (.astore 4, 2) := by decide +kernel
theorem dL_canTake_26 : decode cL_canTake 26 = .ok (.iconst 2, 1) := by decide +kernel
theorem dL_canTake_27 : decode cL_canTake 27 = .ok (.ireturn, 1) := by decide +kernel
theorem dL_canTake_28 : decode cL_canTake 28 = .ok (.iconst 0, 1) := by decide +kernel
theorem dL_canTake_29 : decode cL_canTake 29 = .ok (.ireturn, 1) := by decide +kernel
set_option maxRecDepth 20000 in
theorem ggL_movesWith_X4_movesWith : GoodIn wsL_movesWith wsX4_movesWith := goodIn_ca (goodIn_r _ [6, 7, 8, 9, 10, 5, 11, 12, 13, 14, 15, 16, 17, 18, 19, 20, 21, 22, 23, 24, 25, 26, 27, 28, 29, 30, 31, 32, 33, 34, 35, 36, 37, 38, 39, 40, 41, 42, 43, 44, 45] (by decide +kernel) (by decide +kernel)) (goodIn_sub (fun _ h => List.mem_cons_of_mem _ (List.mem_append_right _ h)) (by decide +kernel))
set_option maxRecDepth 20000 in
theorem gL_movesWith_X4_movesWith : GoodIn wsL_movesWith (wsV RL 48 RX4 yX4_movesWith wsX4_movesWith) := goodIn_app (goodIn_of _ (by decide +kernel)) ggL_movesWith_X4_movesWith
theorem dL_movesWith_0 : decode cL_movesWith 0 = .ok (.aload_n 3, 1) := by decide +kernel
theorem dL_movesWith_1 : decode cL_movesWith 1 = .ok (.iconst 0, 1) := by decide +kernel
theorem dL_movesWith_2 : decode cL_movesWith 2 = .ok (.aload_n 0, 1) := by decide +kernel
theorem dL_movesWith_3 : decode cL_movesWith 3 = .ok (.iload_n 1, 1) := by decide +kernel
theorem dL_movesWith_4 : decode cL_movesWith 4 = .ok (.iload_n 2, 1) := by decide +kernel
theorem dL_movesWith_5 : decode cL_movesWith 5 = .ok (.invokevirtual 48, 3) := by decide +kernel
theorem dL_movesWith_8 : decode cL_movesWith 8 = .ok (.i2l, 1) := by decide +kernel
theorem dL_movesWith_9 : decode cL_movesWith 9 = .ok (.lastore, 1) := by decide +kernel
theorem dL_movesWith_10 : decode cL_movesWith 10 = .ok (.goto 7, 3) := by decide +kernel
theorem dL_movesWith_13 : decode cL_movesWith 13 = .ok (.astore 4, 2) := by decide +kernel
theorem dL_movesWith_15 : decode cL_movesWith 15 = .ok (.iconst 1, 1) := by decide +kernel
theorem dL_movesWith_16 : decode cL_movesWith 16 = .ok (.ireturn, 1) := by decide +kernel
theorem dL_movesWith_17 : decode cL_movesWith 17 = .ok (.iconst 0, 1) := by decide +kernel
theorem dL_movesWith_18 : decode cL_movesWith 18 = .ok (.ireturn, 1) := by decide +kernel
set_option maxRecDepth 20000 in
theorem ggL_boundTo_X4_boundTo : GoodIn wsL_boundTo wsX4_boundTo := goodIn_ca (goodIn_r _ [6, 7, 8, 9, 10, 5, 11, 12, 13, 14, 15, 16, 17, 18, 19, 20, 21, 22, 23, 24, 25, 26, 27, 28, 29, 30, 31, 32, 33, 34, 35, 36, 37, 38, 39, 40, 41, 42, 43, 44, 45, 46, 47, 48, 49, 50, 51, 52] (by decide +kernel) (by decide +kernel)) (goodIn_sub (fun _ h => List.mem_cons_of_mem _ (List.mem_append_right _ h)) (by decide +kernel))
set_option maxRecDepth 20000 in
theorem gL_boundTo_X4_boundTo : GoodIn wsL_boundTo (wsV RL 51 RX4 yX4_boundTo wsX4_boundTo) := goodIn_app (goodIn_of _ (by decide +kernel)) ggL_boundTo_X4_boundTo
theorem dL_boundTo_0 : decode cL_boundTo 0 = .ok (.aload_n 3, 1) := by decide +kernel
theorem dL_boundTo_1 : decode cL_boundTo 1 = .ok (.iconst 0, 1) := by decide +kernel
theorem dL_boundTo_2 : decode cL_boundTo 2 = .ok (.aload_n 0, 1) := by decide +kernel
theorem dL_boundTo_3 : decode cL_boundTo 3 = .ok (.iload_n 1, 1) := by decide +kernel
theorem dL_boundTo_4 : decode cL_boundTo 4 = .ok (.iload_n 2, 1) := by decide +kernel
theorem dL_boundTo_5 : decode cL_boundTo 5 = .ok (.invokevirtual 51, 3) := by decide +kernel
theorem dL_boundTo_8 : decode cL_boundTo 8 = .ok (.i2l, 1) := by decide +kernel
theorem dL_boundTo_9 : decode cL_boundTo 9 = .ok (.lastore, 1) := by decide +kernel
theorem dL_boundTo_10 : decode cL_boundTo 10 = .ok (.goto 7, 3) := by decide +kernel
theorem dL_boundTo_13 : decode cL_boundTo 13 = .ok (.astore 4, 2) := by decide +kernel
theorem dL_boundTo_15 : decode cL_boundTo 15 = .ok (.iconst 1, 1) := by decide +kernel
theorem dL_boundTo_16 : decode cL_boundTo 16 = .ok (.ireturn, 1) := by decide +kernel
theorem dL_boundTo_17 : decode cL_boundTo 17 = .ok (.iconst 0, 1) := by decide +kernel
theorem dL_boundTo_18 : decode cL_boundTo 18 = .ok (.ireturn, 1) := by decide +kernel
set_option maxRecDepth 20000 in
theorem ggL_groups_X4_groups : GoodIn wsL_groups wsX4_groups := goodIn_ca (goodIn_r _ [6, 7, 8, 9, 10, 5, 11, 12, 13, 14, 15, 16, 17, 18, 19, 20, 21, 22, 23, 24, 25, 26, 27, 28, 29, 30, 31, 32, 33, 34, 35, 36, 37, 38, 39, 40, 41, 42, 43, 44, 45, 46, 47, 48] (by decide +kernel) (by decide +kernel)) (goodIn_sub (fun _ h => List.mem_cons_of_mem _ (List.mem_append_right _ h)) (by decide +kernel))
set_option maxRecDepth 20000 in
theorem gL_groups_X4_groups : GoodIn wsL_groups (wsV RL 54 RX4 yX4_groups wsX4_groups) := goodIn_app (goodIn_of _ (by decide +kernel)) ggL_groups_X4_groups
theorem dL_groups_0 : decode cL_groups 0 = .ok (.aload_n 2, 1) := by decide +kernel
theorem dL_groups_1 : decode cL_groups 1 = .ok (.iconst 0, 1) := by decide +kernel
theorem dL_groups_2 : decode cL_groups 2 = .ok (.aload_n 0, 1) := by decide +kernel
theorem dL_groups_3 : decode cL_groups 3 = .ok (.iload_n 1, 1) := by decide +kernel
theorem dL_groups_4 : decode cL_groups 4 = .ok (.invokevirtual 54, 3) := by decide +kernel
theorem dL_groups_7 : decode cL_groups 7 = .ok (.i2l, 1) := by decide +kernel
theorem dL_groups_8 : decode cL_groups 8 = .ok (.lastore, 1) := by decide +kernel
theorem dL_groups_9 : decode cL_groups 9 = .ok (.goto 6, 3) := by decide +kernel
theorem dL_groups_12 : decode cL_groups 12 = .ok (.astore_n 3, 1) := by decide +kernel
theorem dL_groups_13 : decode cL_groups 13 = .ok (.iconst 1, 1) := by decide +kernel
theorem dL_groups_14 : decode cL_groups 14 = .ok (.ireturn, 1) := by decide +kernel
theorem dL_groups_15 : decode cL_groups 15 = .ok (.iconst 0, 1) := by decide +kernel
theorem dL_groups_16 : decode cL_groups 16 = .ok (.ireturn, 1) := by decide +kernel
set_option maxRecDepth 20000 in
theorem ggL_splits_X4_splits : GoodIn wsL_splits wsX4_splits := goodIn_ca (goodIn_r _ [6, 7, 8, 9, 10, 5, 11, 12, 13, 14, 15, 16, 17, 18, 19, 20, 21, 22, 23, 24, 25, 26, 27, 28, 29, 30, 31, 32, 33, 34, 35, 36, 37, 38, 39, 40, 41, 42, 43, 44, 45, 46, 47, 48, 49, 50, 51, 52, 53, 54, 55, 56, 57, 58, 59, 60, 61, 62, 63, 64, 65, 66, 67, 68, 69, 70, 71, 72, 73, 74, 75, 76, 77, 78, 79, 80, 81, 82, 83, 84, 85, 86, 87, 88] (by decide +kernel) (by decide +kernel)) (goodIn_sub (fun _ h => List.mem_cons_of_mem _ (List.mem_append_right _ h)) (by decide +kernel))
set_option maxRecDepth 20000 in
theorem gL_splits_X4_splits : GoodIn wsL_splits (wsV RL 57 RX4 yX4_splits wsX4_splits) := goodIn_app (goodIn_of _ (by decide +kernel)) ggL_splits_X4_splits
theorem dL_splits_0 : decode cL_splits 0 = .ok (.aload_n 2, 1) := by decide +kernel
theorem dL_splits_1 : decode cL_splits 1 = .ok (.iconst 0, 1) := by decide +kernel
theorem dL_splits_2 : decode cL_splits 2 = .ok (.aload_n 0, 1) := by decide +kernel
theorem dL_splits_3 : decode cL_splits 3 = .ok (.iload_n 1, 1) := by decide +kernel
theorem dL_splits_4 : decode cL_splits 4 = .ok (.invokevirtual 57, 3) := by decide +kernel
theorem dL_splits_7 : decode cL_splits 7 = .ok (.i2l, 1) := by decide +kernel
theorem dL_splits_8 : decode cL_splits 8 = .ok (.lastore, 1) := by decide +kernel
theorem dL_splits_9 : decode cL_splits 9 = .ok (.goto 6, 3) := by decide +kernel
theorem dL_splits_12 : decode cL_splits 12 = .ok (.astore_n 3, 1) := by decide +kernel
theorem dL_splits_13 : decode cL_splits 13 = .ok (.iconst 1, 1) := by decide +kernel
theorem dL_splits_14 : decode cL_splits 14 = .ok (.ireturn, 1) := by decide +kernel
theorem dL_splits_15 : decode cL_splits 15 = .ok (.iconst 0, 1) := by decide +kernel
theorem dL_splits_16 : decode cL_splits 16 = .ok (.ireturn, 1) := by decide +kernel
set_option maxRecDepth 20000 in
theorem ggL_ways_X4_ways : GoodIn wsL_ways wsX4_ways := goodIn_ca (goodIn_r _ [6, 7, 8, 9, 10, 11, 5, 12, 13, 14, 15, 16, 17, 18, 19, 20, 21, 22, 23, 24, 25, 26, 27, 28, 29, 30, 31, 32, 33, 34, 35, 36, 37, 38, 39, 40, 41, 42, 43, 44, 45, 46, 47, 48, 49, 50, 51, 52, 53, 54, 55, 56, 57, 58, 59, 60, 61, 62, 63, 64, 65, 66, 67, 68, 69, 70, 71, 72, 73, 74, 75, 76, 77, 78, 79, 80, 81, 82, 83, 84, 85, 86, 87, 88, 89, 90, 91, 92] (by decide +kernel) (by decide +kernel)) (goodIn_sub (fun _ h => List.mem_cons_of_mem _ (List.mem_append_right _ h)) (by decide +kernel))
set_option maxRecDepth 20000 in
theorem gL_ways_X4_ways : GoodIn wsL_ways (wsV RL 60 RX4 yX4_ways wsX4_ways) := goodIn_app (goodIn_of _ (by decide +kernel)) ggL_ways_X4_ways
theorem dL_ways_0 : decode cL_ways 0 = .ok (.aload_n 1, 1) := by decide +kernel
theorem dL_ways_1 : decode cL_ways 1 = .ok (.iconst 0, 1) := by decide +kernel
theorem dL_ways_2 : decode cL_ways 2 = .ok (.aload_n 0, 1) := by decide +kernel
theorem dL_ways_3 : decode cL_ways 3 = .ok (.invokevirtual 60, 3) := by decide +kernel
theorem dL_ways_6 : decode cL_ways 6 = .ok (.i2l, 1) := by decide +kernel
theorem dL_ways_7 : decode cL_ways 7 = .ok (.lastore, 1) := by decide +kernel
theorem dL_ways_8 : decode cL_ways 8 = .ok (.goto 6, 3) := by decide +kernel
theorem dL_ways_11 : decode cL_ways 11 = .ok (.astore_n 2, 1) := by decide +kernel
theorem dL_ways_12 : decode cL_ways 12 = .ok (.iconst 1, 1) := by decide +kernel
theorem dL_ways_13 : decode cL_ways 13 = .ok (.ireturn, 1) := by decide +kernel
theorem dL_ways_14 : decode cL_ways 14 = .ok (.iconst 0, 1) := by decide +kernel
theorem dL_ways_15 : decode cL_ways 15 = .ok (.ireturn, 1) := by decide +kernel
set_option maxRecDepth 20000 in
theorem ggL_leastDepth_X4_leastDepth : GoodIn wsL_leastDepth wsX4_leastDepth := goodIn_ca (goodIn_r _ [6, 7, 8, 9, 10, 11, 5, 12, 13, 14, 15, 16, 17, 18, 19, 20, 21, 22, 23, 24, 25, 26, 27, 28, 29, 30, 31, 32, 33, 34, 35, 36, 37, 38, 39, 40, 41, 42, 43, 44, 45, 46, 47, 48, 49, 50, 51, 52, 53, 54, 55, 56, 57, 58, 59, 60, 61, 62, 63, 64, 65, 66, 67, 68, 69, 70, 71, 72, 73, 74, 75, 76, 77, 78, 79, 80, 81, 82, 83, 84, 85, 86, 87, 88, 89, 90, 91, 92] (by decide +kernel) (by decide +kernel)) (goodIn_sub (fun _ h => List.mem_cons_of_mem _ (List.mem_append_right _ h)) (by decide +kernel))
set_option maxRecDepth 20000 in
theorem gL_leastDepth_X4_leastDepth : GoodIn wsL_leastDepth (wsV RL 64 RX4 yX4_leastDepth wsX4_leastDepth) := goodIn_app (goodIn_of _ (by decide +kernel)) ggL_leastDepth_X4_leastDepth
theorem dL_leastDepth_0 : decode cL_leastDepth 0 = .ok (.aload_n 1, 1) := by decide +kernel
theorem dL_leastDepth_1 : decode cL_leastDepth 1 = .ok (.iconst 0, 1) := by decide +kernel
theorem dL_leastDepth_2 : decode cL_leastDepth 2 = .ok (.aload_n 0, 1) := by decide +kernel
theorem dL_leastDepth_3 : decode cL_leastDepth 3 = .ok (.invokevirtual 64, 3) := by decide +kernel
theorem dL_leastDepth_6 : decode cL_leastDepth 6 = .ok (.i2l, 1) := by decide +kernel
theorem dL_leastDepth_7 : decode cL_leastDepth 7 = .ok (.lastore, 1) := by decide +kernel
theorem dL_leastDepth_8 : decode cL_leastDepth 8 = .ok (.goto 6, 3) := by decide +kernel
theorem dL_leastDepth_11 : decode cL_leastDepth 11 = .ok (.astore_n 2, 1) := by decide +kernel
theorem dL_leastDepth_12 : decode cL_leastDepth 12 = .ok (.iconst 1, 1) := by decide +kernel
theorem dL_leastDepth_13 : decode cL_leastDepth 13 = .ok (.ireturn, 1) := by decide +kernel
theorem dL_leastDepth_14 : decode cL_leastDepth 14 = .ok (.iconst 0, 1) := by decide +kernel
theorem dL_leastDepth_15 : decode cL_leastDepth 15 = .ok (.ireturn, 1) := by decide +kernel
set_option maxRecDepth 20000 in
theorem ggL_orders_X4_orders : GoodIn wsL_orders wsX4_orders := goodIn_ca (goodIn_r _ [6, 7, 8, 9, 10, 5, 11, 12, 13, 14, 15, 16, 17, 18, 19, 20, 21, 22, 23, 24, 25, 26, 27, 28, 29, 30, 31, 32, 33, 34, 35, 36, 37, 38, 39, 40, 41, 42, 43, 44, 45, 46, 47, 48, 49, 50, 51, 52, 53, 54, 55, 56, 57, 58, 59, 60, 61, 62, 63, 64, 65, 66, 67, 68, 69, 70, 71, 72, 73, 74, 75, 76, 77, 78, 79, 80, 81, 82, 83, 84, 85, 86, 87, 88, 89, 90, 91, 92, 93, 94, 95, 96, 97, 98, 99, 100, 101, 102, 103, 104, 105, 106, 107, 108, 109, 110, 111, 112, 113, 114, 115, 116, 117, 118, 119] (by decide +kernel) (by decide +kernel)) (goodIn_sub (fun _ h => List.mem_cons_of_mem _ (List.mem_append_right _ h)) (by decide +kernel))
set_option maxRecDepth 20000 in
theorem gL_orders_X4_orders : GoodIn wsL_orders (wsV RL 67 RX4 yX4_orders wsX4_orders) := goodIn_app (goodIn_of _ (by decide +kernel)) ggL_orders_X4_orders
theorem dL_orders_0 : decode cL_orders 0 = .ok (.aload_n 1, 1) := by decide +kernel
theorem dL_orders_1 : decode cL_orders 1 = .ok (.iconst 0, 1) := by decide +kernel
theorem dL_orders_2 : decode cL_orders 2 = .ok (.aload_n 0, 1) := by decide +kernel
theorem dL_orders_3 : decode cL_orders 3 = .ok (.invokevirtual 67, 3) := by decide +kernel
theorem dL_orders_6 : decode cL_orders 6 = .ok (.i2l, 1) := by decide +kernel
theorem dL_orders_7 : decode cL_orders 7 = .ok (.lastore, 1) := by decide +kernel
theorem dL_orders_8 : decode cL_orders 8 = .ok (.goto 6, 3) := by decide +kernel
theorem dL_orders_11 : decode cL_orders 11 = .ok (.astore_n 2, 1) := by decide +kernel
theorem dL_orders_12 : decode cL_orders 12 = .ok (.iconst 1, 1) := by decide +kernel
theorem dL_orders_13 : decode cL_orders 13 = .ok (.ireturn, 1) := by decide +kernel
theorem dL_orders_14 : decode cL_orders 14 = .ok (.iconst 0, 1) := by decide +kernel
theorem dL_orders_15 : decode cL_orders 15 = .ok (.ireturn, 1) := by decide +kernel
set_option maxRecDepth 20000 in
theorem ggL_fewestChanges_X4_fewestChanges : GoodIn wsL_fewestChanges wsX4_fewestChanges := goodIn_ca (goodIn_r _ [6, 7, 8, 9, 10, 5, 11, 12, 13, 14, 15, 16, 17, 18, 19, 20, 21, 22, 23, 24, 25, 26, 27, 28, 29, 30, 31, 32, 33, 34, 35, 36, 37, 38, 39, 40, 41, 42, 43, 44, 45, 46, 47, 48, 49, 50, 51, 52, 53, 54, 55, 56, 57, 58, 59, 60, 61, 62, 63, 64, 65, 66, 67, 68, 69, 70, 71, 72, 73, 74, 75, 76, 77, 78, 79, 80, 81, 82, 83, 84, 85, 86, 87, 88, 89, 90, 91, 92, 93, 94, 95, 96, 97, 98, 99, 100, 101, 102, 103, 104, 105, 106, 107, 108, 109, 110, 111, 112, 113, 114, 115, 116, 117, 118, 119, 120, 121, 122] (by decide +kernel) (by decide +kernel)) (goodIn_sub (fun _ h => List.mem_cons_of_mem _ (List.mem_append_right _ h)) (by decide +kernel))
set_option maxRecDepth 20000 in
theorem gL_fewestChanges_X4_fewestChanges : GoodIn wsL_fewestChanges (wsV RL 70 RX4 yX4_fewestChanges wsX4_fewestChanges) := goodIn_app (goodIn_of _ (by decide +kernel)) ggL_fewestChanges_X4_fewestChanges
theorem dL_fewestChanges_0 : decode cL_fewestChanges 0 = .ok (.aload_n 1, 1) := by decide +kernel
theorem dL_fewestChanges_1 : decode cL_fewestChanges 1 = .ok (.iconst 0, 1) := by decide +kernel
theorem dL_fewestChanges_2 : decode cL_fewestChanges 2 = .ok (.aload_n 0, 1) := by decide +kernel
theorem dL_fewestChanges_3 : decode cL_fewestChanges 3 = .ok (.invokevirtual 70, 3) := by decide +kernel
theorem dL_fewestChanges_6 : decode cL_fewestChanges 6 = .ok (.i2l, 1) := by decide +kernel
theorem dL_fewestChanges_7 : decode cL_fewestChanges 7 = .ok (.lastore, 1) := by decide +kernel
theorem dL_fewestChanges_8 : decode cL_fewestChanges 8 = .ok (.goto 6, 3) := by decide +kernel
theorem dL_fewestChanges_11 : decode cL_fewestChanges 11 = .ok (.astore_n 2, 1) := by decide +kernel
theorem dL_fewestChanges_12 : decode cL_fewestChanges 12 = .ok (.iconst 1, 1) := by decide +kernel
theorem dL_fewestChanges_13 : decode cL_fewestChanges 13 = .ok (.ireturn, 1) := by decide +kernel
theorem dL_fewestChanges_14 : decode cL_fewestChanges 14 = .ok (.iconst 0, 1) := by decide +kernel
theorem dL_fewestChanges_15 : decode cL_fewestChanges 15 = .ok (.ireturn, 1) := by decide +kernel
set_option maxRecDepth 20000 in
theorem ggL_fewestByListing_X4_fewestByListing : GoodIn wsL_fewestByListing wsX4_fewestByListing := goodIn_ca (goodIn_r _ [6, 7, 8, 9, 10, 11, 12, 13, 5, 14, 15, 16, 17, 18, 19, 20, 21, 22, 23, 24, 25, 26, 27, 28, 29, 30, 31, 32, 33, 34, 35, 36, 37, 38, 39, 40, 41, 42, 43, 44, 45, 46, 47, 48, 49, 50, 51, 52, 53, 54, 55, 56, 57, 58, 59, 60, 61, 62, 63, 64, 65, 66, 67, 68, 69, 70, 71, 72, 73, 74, 75, 76, 77, 78, 79, 80, 81, 82, 83, 84, 85, 86, 87, 88, 89, 90, 91, 92, 93, 94, 95, 96, 97, 98, 99, 100, 101, 102, 103, 104, 105, 106, 107, 108, 109, 110, 111, 112, 113, 114, 115, 116, 117, 118, 119, 120, 121, 122, 123, 124, 125] (by decide +kernel) (by decide +kernel)) (goodIn_sub (fun _ h => List.mem_cons_of_mem _ (List.mem_append_right _ h)) (by decide +kernel))
set_option maxRecDepth 20000 in
theorem gL_fewestByListing_X4_fewestByListing : GoodIn wsL_fewestByListing (wsV RL 73 RX4 yX4_fewestByListing wsX4_fewestByListing) := goodIn_app (goodIn_of _ (by decide +kernel)) ggL_fewestByListing_X4_fewestByListing
theorem dL_fewestByListing_0 : decode cL_fewestByListing 0 = .ok (.aload_n 1, 1) := by decide +kernel
theorem dL_fewestByListing_1 : decode cL_fewestByListing 1 = .ok (.iconst 0, 1) := by decide +kernel
theorem dL_fewestByListing_2 : decode cL_fewestByListing 2 = .ok (.aload_n 0, 1) := by decide +kernel
theorem dL_fewestByListing_3 : decode cL_fewestByListing 3 = .ok (.invokevirtual 73, 3) := by decide +kernel
theorem dL_fewestByListing_6 : decode cL_fewestByListing 6 = .ok (.i2l, 1) := by decide +kernel
theorem dL_fewestByListing_7 : decode cL_fewestByListing 7 = .ok (.lastore, 1) := by decide +kernel
theorem dL_fewestByListing_8 : decode cL_fewestByListing 8 = .ok (.goto 6, 3) := by decide +kernel
theorem dL_fewestByListing_11 : decode cL_fewestByListing 11 = .ok (.astore_n 2, 1) := by decide +kernel
theorem dL_fewestByListing_12 : decode cL_fewestByListing 12 = .ok (.iconst 1, 1) := by decide +kernel
theorem dL_fewestByListing_13 : decode cL_fewestByListing 13 = .ok (.ireturn, 1) := by decide +kernel
theorem dL_fewestByListing_14 : decode cL_fewestByListing 14 = .ok (.iconst 0, 1) := by decide +kernel
theorem dL_fewestByListing_15 : decode cL_fewestByListing 15 = .ok (.ireturn, 1) := by decide +kernel
set_option maxRecDepth 20000 in
theorem ggL_orderAt_X4_orderAt : GoodIn wsL_orderAt wsX4_orderAt := goodIn_ca (goodIn_r _ [6, 7, 8, 9, 10, 11, 12, 13, 14, 15, 16, 17, 18, 19, 20, 21, 22, 23, 24, 25, 26, 27, 28, 29, 30, 31, 32, 33, 34, 35, 36, 37, 38, 39, 40, 41, 42, 43, 44, 45, 46, 47, 48, 49, 50, 51, 52, 53, 54, 55, 56, 57, 58, 59, 60, 61, 62, 63, 64, 65, 66, 67, 68, 69, 70, 71, 72, 73, 74, 75, 76, 77, 78, 79, 80, 81, 82, 83, 84, 85, 86, 87, 88, 89, 90, 91, 92, 93, 94, 95, 96, 97, 98, 99, 100, 101, 102, 103, 104, 105, 106, 107, 108, 109, 110, 111, 112, 113] (by decide +kernel) (by decide +kernel)) (goodIn_sub (fun _ h => List.mem_cons_of_mem _ (List.mem_append_right _ h)) (by decide +kernel))
set_option maxRecDepth 20000 in
theorem gL_orderAt_X4_orderAt : GoodIn wsL_orderAt (wsV RL 76 RX4 yX4_orderAt wsX4_orderAt) := goodIn_app (goodIn_of _ (by decide +kernel)) ggL_orderAt_X4_orderAt
theorem dL_orderAt_0 : decode cL_orderAt 0 = .ok (.aload_n 2, 1) := by decide +kernel
theorem dL_orderAt_1 : decode cL_orderAt 1 = .ok (.iconst 0, 1) := by decide +kernel
theorem dL_orderAt_2 : decode cL_orderAt 2 = .ok (.aload_n 0, 1) := by decide +kernel
theorem dL_orderAt_3 : decode cL_orderAt 3 = .ok (.iload_n 1, 1) := by decide +kernel
theorem dL_orderAt_4 : decode cL_orderAt 4 = .ok (.invokevirtual 76, 3) := by decide +kernel
theorem dL_orderAt_7 : decode cL_orderAt 7 = .ok (.i2l, 1) := by decide +kernel
theorem dL_orderAt_8 : decode cL_orderAt 8 = .ok (.lastore, 1) := by decide +kernel
theorem dL_orderAt_9 : decode cL_orderAt 9 = .ok (.goto 6, 3) := by decide +kernel
theorem dL_orderAt_12 : decode cL_orderAt 12 = .ok (.astore_n 3, 1) := by decide +kernel
theorem dL_orderAt_13 : decode cL_orderAt 13 = .ok (.iconst 1, 1) := by decide +kernel
theorem dL_orderAt_14 : decode cL_orderAt 14 = .ok (.ireturn, 1) := by decide +kernel
theorem dL_orderAt_15 : decode cL_orderAt 15 = .ok (.iconst 0, 1) := by decide +kernel
theorem dL_orderAt_16 : decode cL_orderAt 16 = .ok (.ireturn, 1) := by decide +kernel
set_option maxRecDepth 20000 in
theorem ggL_setJams_X4_setJams : GoodIn wsL_setJams wsX4_setJams := goodIn_ca (goodIn_ca (goodIn_r _ [7, 8, 9, 10, 11, 12, 13, 6, 14, 15, 16, 17, 18, 19, 20, 21, 22, 23, 24, 25, 26, 27, 28, 29, 30, 31, 32, 33, 34, 35, 36, 37, 38, 39, 40, 41, 42, 43, 44, 45, 46, 47] (by decide +kernel) (by decide +kernel)) (goodIn_sub (fun _ h => List.mem_cons_of_mem _ (List.mem_append_left _ (List.mem_append_right _ h))) (by decide +kernel))) (goodIn_sub (fun _ h => List.mem_cons_of_mem _ (List.mem_append_right _ h)) (by decide +kernel))
set_option maxRecDepth 20000 in
theorem gL_setJams_X4_setJams : GoodIn wsL_setJams (wsV RL 79 RX4 yX4_setJams wsX4_setJams) := goodIn_app (goodIn_of _ (by decide +kernel)) ggL_setJams_X4_setJams
theorem dL_setJams_0 : decode cL_setJams 0 = .ok (.aload_n 3, 1) := by decide +kernel
theorem dL_setJams_1 : decode cL_setJams 1 = .ok (.iconst 0, 1) := by decide +kernel
theorem dL_setJams_2 : decode cL_setJams 2 = .ok (.aload_n 0, 1) := by decide +kernel
theorem dL_setJams_3 : decode cL_setJams 3 = .ok (.iload_n 1, 1) := by decide +kernel
theorem dL_setJams_4 : decode cL_setJams 4 = .ok (.iload_n 2, 1) := by decide +kernel
theorem dL_setJams_5 : decode cL_setJams 5 = .ok (.invokevirtual 79, 3) := by decide +kernel
theorem dL_setJams_8 : decode cL_setJams 8 = .ok (.i2l, 1) := by decide +kernel
theorem dL_setJams_9 : decode cL_setJams 9 = .ok (.lastore, 1) := by decide +kernel
theorem dL_setJams_10 : decode cL_setJams 10 = .ok (.goto 11, 3) := by decide +kernel
theorem dL_setJams_13 : decode cL_setJams 13 = .ok (.astore 4, 2) := by decide +kernel
theorem dL_setJams_15 : decode cL_setJams 15 = .ok (.iconst 1, 1) := by decide +kernel
theorem dL_setJams_16 : decode cL_setJams 16 = .ok (.ireturn, 1) := by decide +kernel
theorem dL_setJams_17 : decode cL_setJams 17 = .ok (.astore 4, 2) := by decide +kernel
theorem dL_setJams_19 : decode cL_setJams 19 = .ok (.iconst 2, 1) := by decide +kernel
theorem dL_setJams_20 : decode cL_setJams 20 = .ok (.ireturn, 1) := by decide +kernel
theorem dL_setJams_21 : decode cL_setJams 21 = .ok (.iconst 0, 1) := by decide +kernel
theorem dL_setJams_22 : decode cL_setJams 22 = .ok (.ireturn, 1) := by decide +kernel
set_option maxRecDepth 20000 in
theorem ggL_begin_X4_begin : GoodIn wsL_begin wsX4_begin := goodIn_ca (goodIn_r _ [6, 7, 8, 9, 10, 11, 12, 13, 14, 5, 15, 16, 17, 18, 19, 20, 21, 22, 23, 24, 25, 26, 27, 28, 29, 30, 31, 32, 33, 34, 35, 36, 37, 38, 39, 40, 41, 42, 43, 44, 45, 46, 47, 48, 49, 50, 51, 52, 53, 54, 55, 56, 57, 58, 59, 60, 61, 62, 63, 64, 65, 66, 67, 68, 69, 70, 71, 72, 73, 74, 75, 76, 77, 78, 79, 80, 81, 82, 83, 84, 85, 86, 87, 88, 89, 90, 91, 92, 93, 94, 95, 96, 97, 98, 99, 100, 101, 102, 103, 104, 105, 106, 107, 108, 109, 110, 111, 112, 113, 114, 115, 116, 117, 118, 119, 120, 121, 122, 123, 124, 125, 126, 127, 128, 129, 130, 131, 132, 133, 134, 135, 136, 137, 138, 139, 140, 141, 142, 143, 144, 145, 146] (by decide +kernel) (by decide +kernel)) (goodIn_sub (fun _ h => List.mem_cons_of_mem _ (List.mem_append_right _ h)) (by decide +kernel))
set_option maxRecDepth 20000 in
theorem gL_begin_X4_begin : GoodIn wsL_begin (wsV RL 82 RX4 yX4_begin wsX4_begin) := goodIn_app (goodIn_of _ (by decide +kernel)) ggL_begin_X4_begin
theorem dL_begin_0 : decode cL_begin 0 = .ok (.aload_n 1, 1) := by decide +kernel
theorem dL_begin_1 : decode cL_begin 1 = .ok (.iconst 0, 1) := by decide +kernel
theorem dL_begin_2 : decode cL_begin 2 = .ok (.aload_n 0, 1) := by decide +kernel
theorem dL_begin_3 : decode cL_begin 3 = .ok (.invokevirtual 82, 3) := by decide +kernel
theorem dL_begin_6 : decode cL_begin 6 = .ok (.i2l, 1) := by decide +kernel
theorem dL_begin_7 : decode cL_begin 7 = .ok (.lastore, 1) := by decide +kernel
theorem dL_begin_8 : decode cL_begin 8 = .ok (.goto 6, 3) := by decide +kernel
theorem dL_begin_11 : decode cL_begin 11 = .ok (.astore_n 2, 1) := by decide +kernel
theorem dL_begin_12 : decode cL_begin 12 = .ok (.iconst 1, 1) := by decide +kernel
theorem dL_begin_13 : decode cL_begin 13 = .ok (.ireturn, 1) := by decide +kernel
theorem dL_begin_14 : decode cL_begin 14 = .ok (.iconst 0, 1) := by decide +kernel
theorem dL_begin_15 : decode cL_begin 15 = .ok (.ireturn, 1) := by decide +kernel
set_option maxRecDepth 20000 in
theorem ggL_step_X4_step : GoodIn wsL_step wsX4_step := goodIn_ca (goodIn_r _ [6, 7, 8, 9, 10, 11, 12, 13, 14, 15, 16, 17, 18, 19, 20, 21, 22, 23, 24, 25, 26, 27, 28, 29, 30, 31, 32, 33, 34, 35, 36, 37, 38, 39, 40, 41, 42, 43, 44, 45, 46, 47, 48, 49, 50, 51, 52, 53, 54, 55, 56, 57, 58, 59, 60, 61, 62, 63, 64, 65, 66, 67, 68, 69, 70, 71, 72, 73, 74, 75, 76, 77, 78, 79, 80, 81, 82, 83, 84, 85, 86, 87, 88, 89, 90, 91, 92, 93, 94, 95, 96, 97, 98, 99, 100, 101, 102, 103, 104, 105, 106, 107, 108, 109, 110, 111, 112, 113, 114, 115, 116, 117, 118, 119, 120, 121, 122, 123, 124, 125, 126, 127, 128, 129, 130, 131, 132, 133, 134, 135, 136, 137, 138, 139, 140, 141, 142, 143, 144, 145, 146, 147, 148, 149, 150, 151, 152, 153, 154, 155, 156, 157] (by decide +kernel) (by decide +kernel)) (goodIn_sub (fun _ h => List.mem_cons_of_mem _ (List.mem_append_right _ h)) (by decide +kernel))
set_option maxRecDepth 20000 in
theorem gL_step_X4_step : GoodIn wsL_step (wsV RL 85 RX4 yX4_step wsX4_step) := goodIn_app (goodIn_of _ (by decide +kernel)) ggL_step_X4_step
theorem dL_step_0 : decode cL_step 0 = .ok (.aload_n 1, 1) := by decide +kernel
theorem dL_step_1 : decode cL_step 1 = .ok (.iconst 0, 1) := by decide +kernel
theorem dL_step_2 : decode cL_step 2 = .ok (.aload_n 0, 1) := by decide +kernel
theorem dL_step_3 : decode cL_step 3 = .ok (.invokevirtual 85, 3) := by decide +kernel
theorem dL_step_6 : decode cL_step 6 = .ok (.i2l, 1) := by decide +kernel
theorem dL_step_7 : decode cL_step 7 = .ok (.lastore, 1) := by decide +kernel
theorem dL_step_8 : decode cL_step 8 = .ok (.goto 6, 3) := by decide +kernel
theorem dL_step_11 : decode cL_step 11 = .ok (.astore_n 2, 1) := by decide +kernel
theorem dL_step_12 : decode cL_step 12 = .ok (.iconst 1, 1) := by decide +kernel
theorem dL_step_13 : decode cL_step 13 = .ok (.ireturn, 1) := by decide +kernel
theorem dL_step_14 : decode cL_step 14 = .ok (.iconst 0, 1) := by decide +kernel
theorem dL_step_15 : decode cL_step 15 = .ok (.ireturn, 1) := by decide +kernel
set_option maxRecDepth 20000 in
theorem ggL_stepBack_X4_stepBack : GoodIn wsL_stepBack wsX4_stepBack := goodIn_ca (goodIn_r _ [6, 7, 8, 9, 10, 11, 12, 13, 14, 15, 16, 17, 18, 19, 20, 21, 22, 23, 24, 25, 26, 27, 28, 29, 30, 31, 32, 33, 34, 35, 36, 37, 38, 39, 40, 41, 42, 43, 44, 45, 46, 47, 48, 49, 50, 51, 52, 53, 54, 55, 56, 57, 58, 59, 60, 61, 62, 63, 64, 65, 66, 67, 68, 69, 70, 71, 72, 73, 74, 75, 76, 77, 78, 79, 80, 81, 82, 83, 84, 85, 86, 87, 88, 89, 90, 91, 92, 93, 94, 95, 96, 97, 98, 99, 100, 101, 102, 103, 104, 105, 106, 107, 108, 109, 110, 111, 112, 113, 114, 115, 116, 117, 118, 119, 120, 121, 122, 123, 124, 125, 126, 127, 128, 129, 130, 131, 132, 133, 134] (by decide +kernel) (by decide +kernel)) (goodIn_sub (fun _ h => List.mem_cons_of_mem _ (List.mem_append_right _ h)) (by decide +kernel))
set_option maxRecDepth 20000 in
theorem gL_stepBack_X4_stepBack : GoodIn wsL_stepBack (wsV RL 88 RX4 yX4_stepBack wsX4_stepBack) := goodIn_app (goodIn_of _ (by decide +kernel)) ggL_stepBack_X4_stepBack
theorem dL_stepBack_0 : decode cL_stepBack 0 = .ok (.aload_n 1, 1) := by decide +kernel
theorem dL_stepBack_1 : decode cL_stepBack 1 = .ok (.iconst 0, 1) := by decide +kernel
theorem dL_stepBack_2 : decode cL_stepBack 2 = .ok (.aload_n 0, 1) := by decide +kernel
theorem dL_stepBack_3 : decode cL_stepBack 3 = .ok (.invokevirtual 88, 3) := by decide +kernel
theorem dL_stepBack_6 : decode cL_stepBack 6 = .ok (.i2l, 1) := by decide +kernel
theorem dL_stepBack_7 : decode cL_stepBack 7 = .ok (.lastore, 1) := by decide +kernel
theorem dL_stepBack_8 : decode cL_stepBack 8 = .ok (.goto 6, 3) := by decide +kernel
theorem dL_stepBack_11 : decode cL_stepBack 11 = .ok (.astore_n 2, 1) := by decide +kernel
theorem dL_stepBack_12 : decode cL_stepBack 12 = .ok (.iconst 1, 1) := by decide +kernel
theorem dL_stepBack_13 : decode cL_stepBack 13 = .ok (.ireturn, 1) := by decide +kernel
theorem dL_stepBack_14 : decode cL_stepBack 14 = .ok (.iconst 0, 1) := by decide +kernel
theorem dL_stepBack_15 : decode cL_stepBack 15 = .ok (.ireturn, 1) := by decide +kernel
set_option maxRecDepth 20000 in
theorem ggL_isBypassed_X4_isBypassed : GoodIn wsL_isBypassed wsX4_isBypassed := goodIn_ca (goodIn_r _ [6, 7, 8, 9, 10, 5, 11, 12, 13, 14, 15, 16, 17, 18, 19, 20, 21, 22, 23, 24, 25, 26, 27, 28, 29, 30, 31, 32, 33, 34, 35, 36, 37, 38, 39, 40, 41, 42, 43, 44] (by decide +kernel) (by decide +kernel)) (goodIn_sub (fun _ h => List.mem_cons_of_mem _ (List.mem_append_right _ h)) (by decide +kernel))
set_option maxRecDepth 20000 in
theorem gL_isBypassed_X4_isBypassed : GoodIn wsL_isBypassed (wsV RL 91 RX4 yX4_isBypassed wsX4_isBypassed) := goodIn_app (goodIn_of _ (by decide +kernel)) ggL_isBypassed_X4_isBypassed
theorem dL_isBypassed_0 : decode cL_isBypassed 0 = .ok (.aload_n 2, 1) := by decide +kernel
theorem dL_isBypassed_1 : decode cL_isBypassed 1 = .ok (.iconst 0, 1) := by decide +kernel
theorem dL_isBypassed_2 : decode cL_isBypassed 2 = .ok (.aload_n 0, 1) := by decide +kernel
theorem dL_isBypassed_3 : decode cL_isBypassed 3 = .ok (.iload_n 1, 1) := by decide +kernel
theorem dL_isBypassed_4 : decode cL_isBypassed 4 = .ok (.invokevirtual 91, 3) := by decide +kernel
theorem dL_isBypassed_7 : decode cL_isBypassed 7 = .ok (.ifCond .eq 7, 3) := by decide +kernel
theorem dL_isBypassed_10 : decode cL_isBypassed 10 = .ok (.lconst 1, 1) := by decide +kernel
theorem dL_isBypassed_11 : decode cL_isBypassed 11 = .ok (.goto 4, 3) := by decide +kernel
theorem dL_isBypassed_14 : decode cL_isBypassed 14 = .ok (.lconst 0, 1) := by decide +kernel
theorem dL_isBypassed_15 : decode cL_isBypassed 15 = .ok (.lastore, 1) := by decide +kernel
theorem dL_isBypassed_16 : decode cL_isBypassed 16 = .ok (.goto 6, 3) := by decide +kernel
theorem dL_isBypassed_19 : decode cL_isBypassed 19 = .ok (.astore_n 3, 1) := by decide +kernel
theorem dL_isBypassed_20 : decode cL_isBypassed 20 = .ok (.iconst 1, 1) := by decide +kernel
theorem dL_isBypassed_21 : decode cL_isBypassed 21 = .ok (.ireturn, 1) := by decide +kernel
theorem dL_isBypassed_22 : decode cL_isBypassed 22 = .ok (.iconst 0, 1) := by decide +kernel
theorem dL_isBypassed_23 : decode cL_isBypassed 23 = .ok (.ireturn, 1) := by decide +kernel
set_option maxRecDepth 20000 in
theorem ggL_law_X4_init : GoodIn wsL_law wsX4_init := goodIn_r _ [9, 10, 11, 12, 13, 14, 15, 16, 17, 18, 19, 20, 21, 22, 23, 24, 25, 26, 27, 28, 29, 30, 31, 32, 33, 34, 35, 36, 37, 38, 39, 40, 41, 42, 43, 44, 45, 46, 47, 48, 49, 50, 51, 52, 53, 54, 55, 56, 57, 58, 59, 60, 61, 62, 63, 816, 817, 818, 819, 820, 821, 793, 794, 795, 796, 822, 823, 824, 825, 826, 827, 828, 829, 830, 831, 832, 833, 834, 835, 836, 837, 838, 839, 840, 841, 842, 843] (by decide +kernel) (by decide +kernel)
set_option maxRecDepth 20000 in
theorem gL_law_X4_init : GoodIn wsL_law (wsX4_init) := ggL_law_X4_init
set_option maxRecDepth 20000 in
theorem ggL_law_X5_init : GoodIn wsL_law wsX5_init := goodIn_r _ [66, 67, 11, 12, 32, 68, 69, 70, 71, 72, 73, 74, 75, 76, 77, 797, 798, 799, 800, 801, 802, 803, 804, 805, 806, 807, 808, 809, 810, 811, 812, 813, 814, 815] (by decide +kernel) (by decide +kernel)
set_option maxRecDepth 20000 in
theorem gL_law_X5_init : GoodIn wsL_law (wsX5_init) := ggL_law_X5_init
set_option maxRecDepth 20000 in
theorem ggL_law_L_addPart : GoodIn wsL_law wsL_addPart := goodIn_ca (goodIn_ca (goodIn_r _ [81, 82, 83, 84, 85, 86, 2, 87, 88, 89, 16, 90, 91, 92, 93, 94, 95, 96, 97, 98, 15, 99, 100, 101, 102, 103, 104, 20, 24, 28, 105, 106, 107, 19, 108, 109, 110, 111, 112, 23, 113, 114, 115, 116, 117, 27, 118, 119, 120, 121, 122, 62, 61, 123, 124, 125, 126, 33, 793, 794, 795, 796, 816, 817, 818, 819, 820, 821, 822, 823, 824, 825, 826, 827, 828, 829, 830, 831, 832, 833, 834, 835, 836, 837, 838, 839, 840, 841, 842, 843] (by decide +kernel) (by decide +kernel)) (goodIn_sub (fun _ h => List.mem_append_left _ (List.mem_append_left _ (List.mem_append_right _ h))) (by decide +kernel))) (goodIn_sub (fun _ h => List.mem_append_left _ (List.mem_append_right _ h)) (by decide +kernel))
set_option maxRecDepth 20000 in
theorem gL_law_L_addPart : GoodIn wsL_law (va_wsS RL 98 yL_addPart wsL_addPart) := goodIn_app (goodIn_of _ (by decide +kernel)) ggL_law_L_addPart
set_option maxRecDepth 20000 in
theorem ggL_law_X5_addPart : GoodIn wsL_law wsX5_addPart := goodIn_r _ [130, 131, 68, 132, 133, 134, 5, 135, 136, 137, 138, 139, 140, 797, 798, 799, 800, 801, 802, 803, 804, 805, 806, 807, 808, 809, 810, 811, 812, 813, 814, 815] (by decide +kernel) (by decide +kernel)
set_option maxRecDepth 20000 in
theorem gL_law_X5_addPart : GoodIn wsL_law (wsV RL 103 RX5 yX5_addPart wsX5_addPart) := goodIn_app (goodIn_of _ (by decide +kernel)) ggL_law_X5_addPart
set_option maxRecDepth 20000 in
theorem ggL_law_X5_thrown : GoodIn wsL_law wsX5_thrown := goodIn_r _ [144, 140, 797, 798, 799, 800, 801, 802, 803, 804, 805, 806, 807, 808, 809, 810, 811, 812, 813, 814, 815] (by decide +kernel) (by decide +kernel)
set_option maxRecDepth 20000 in
theorem gL_law_X5_thrown : GoodIn wsL_law (wsV RL 104 RX5 yX5_thrown wsX5_thrown) := goodIn_app (goodIn_of _ (by decide +kernel)) ggL_law_X5_thrown
set_option maxRecDepth 20000 in
theorem ggL_law_L_setTool : GoodIn wsL_law wsL_setTool := goodIn_ca (goodIn_ca (goodIn_r _ [147, 148, 82, 149, 150, 151, 2, 152, 16, 153, 154, 155, 156, 157, 158, 96, 97, 98, 15, 99, 100, 90, 91, 92, 93, 94, 95, 101, 102, 103, 104, 20, 24, 28, 105, 106, 107, 19, 108, 109, 110, 111, 112, 23, 113, 114, 115, 116, 117, 27, 118, 119, 120, 121, 122, 62, 61, 159, 160, 161, 162, 33, 793, 794, 795, 796, 816, 817, 818, 819, 820, 821, 822, 823, 824, 825, 826, 827, 828, 829, 830, 831, 832, 833, 834, 835, 836, 837, 838, 839, 840, 841, 842, 843] (by decide +kernel) (by decide +kernel)) (goodIn_sub (fun _ h => List.mem_append_right _ h) (by decide +kernel))) (goodIn_sub (fun _ h => List.mem_append_left _ (List.mem_append_right _ h)) (by decide +kernel))
set_option maxRecDepth 20000 in
theorem gL_law_L_setTool : GoodIn wsL_law (va_wsS RL 107 yL_setTool wsL_setTool) := goodIn_app (goodIn_of _ (by decide +kernel)) ggL_law_L_setTool
set_option maxRecDepth 20000 in
theorem ggL_law_X5_setTool : GoodIn wsL_law wsX5_setTool := goodIn_r _ [166, 68, 132, 167, 168, 169, 5, 170, 131, 133, 134, 135, 136, 137, 138, 139, 140, 797, 798, 799, 800, 801, 802, 803, 804, 805, 806, 807, 808, 809, 810, 811, 812, 813, 814, 815] (by decide +kernel) (by decide +kernel)
set_option maxRecDepth 20000 in
theorem gL_law_X5_setTool : GoodIn wsL_law (wsV RL 110 RX5 yX5_setTool wsX5_setTool) := goodIn_app (goodIn_of _ (by decide +kernel)) ggL_law_X5_setTool
set_option maxRecDepth 20000 in
theorem ggL_law_L_contact : GoodIn wsL_law wsL_contact := goodIn_ca (goodIn_ca (goodIn_r _ [173, 148, 82, 174, 175, 176, 2, 177, 16, 153, 154, 155, 156, 157, 158, 96, 97, 98, 15, 99, 100, 178, 179, 180, 181, 94, 95, 101, 102, 103, 104, 20, 24, 28, 105, 106, 107, 19, 108, 109, 110, 111, 112, 23, 113, 114, 115, 116, 117, 27, 118, 119, 120, 121, 122, 62, 61, 182, 183, 184, 185, 34, 186, 187, 188, 189, 190, 191, 192, 193, 194, 195, 793, 794, 795, 796, 816, 817, 818, 819, 820, 821, 822, 823, 824, 825, 826, 827, 828, 829, 830, 831, 832, 833, 834, 835, 836, 837, 838, 839, 840, 841, 842, 843] (by decide +kernel) (by decide +kernel)) (goodIn_sub (fun _ h => List.mem_append_right _ h) (by decide +kernel))) (goodIn_sub (fun _ h => List.mem_append_left _ (List.mem_append_right _ h)) (by decide +kernel))
set_option maxRecDepth 20000 in
theorem gL_law_L_contact : GoodIn wsL_law (va_wsS RL 111 yL_contact wsL_contact) := goodIn_app (goodIn_of _ (by decide +kernel)) ggL_law_L_contact
set_option maxRecDepth 20000 in
theorem ggL_law_X5_contact : GoodIn wsL_law wsX5_contact := goodIn_r _ [199, 69, 132, 167, 168, 169, 5, 170, 131, 136, 137, 138, 139, 140, 200, 201, 202, 797, 798, 799, 800, 801, 802, 803, 804, 805, 806, 807, 808, 809, 810, 811, 812, 813, 814, 815] (by decide +kernel) (by decide +kernel)
set_option maxRecDepth 20000 in
theorem gL_law_X5_contact : GoodIn wsL_law (wsV RL 114 RX5 yX5_contact wsX5_contact) := goodIn_app (goodIn_of _ (by decide +kernel)) ggL_law_X5_contact
set_option maxRecDepth 20000 in
theorem ggL_law_L_hinder : GoodIn wsL_law wsL_hinder := goodIn_ca (goodIn_ca (goodIn_r _ [205, 148, 82, 206, 207, 208, 2, 209, 16, 153, 154, 155, 156, 157, 158, 96, 97, 98, 15, 99, 100, 210, 211, 212, 213, 178, 179, 180, 181, 94, 95, 101, 102, 103, 104, 20, 24, 28, 105, 106, 107, 19, 108, 109, 110, 111, 112, 23, 113, 114, 115, 116, 117, 27, 118, 119, 120, 121, 122, 62, 61, 214, 215, 216, 217, 35, 218, 219, 220, 186, 187, 188, 189, 190, 191, 192, 193, 194, 195, 793, 794, 795, 796, 816, 817, 818, 819, 820, 821, 822, 823, 824, 825, 826, 827, 828, 829, 830, 831, 832, 833, 834, 835, 836, 837, 838, 839, 840, 841, 842, 843] (by decide +kernel) (by decide +kernel)) (goodIn_sub (fun _ h => List.mem_append_right _ h) (by decide +kernel))) (goodIn_sub (fun _ h => List.mem_append_left _ (List.mem_append_right _ h)) (by decide +kernel))
set_option maxRecDepth 20000 in
theorem gL_law_L_hinder : GoodIn wsL_law (va_wsS RL 115 yL_hinder wsL_hinder) := goodIn_app (goodIn_of _ (by decide +kernel)) ggL_law_L_hinder
set_option maxRecDepth 20000 in
theorem ggL_law_X5_hinder : GoodIn wsL_law wsX5_hinder := goodIn_r _ [224, 70, 132, 167, 168, 169, 5, 170, 131, 225, 226, 227, 136, 137, 138, 139, 140, 200, 201, 202, 797, 798, 799, 800, 801, 802, 803, 804, 805, 806, 807, 808, 809, 810, 811, 812, 813, 814, 815] (by decide +kernel) (by decide +kernel)
set_option maxRecDepth 20000 in
theorem gL_law_X5_hinder : GoodIn wsL_law (wsV RL 118 RX5 yX5_hinder wsX5_hinder) := goodIn_app (goodIn_of _ (by decide +kernel)) ggL_law_X5_hinder
set_option maxRecDepth 20000 in
theorem ggL_law_L_setBase : GoodIn wsL_law wsL_setBase := goodIn_ca (goodIn_r _ [230, 148, 231, 232, 233, 2, 234, 16, 153, 154, 155, 156, 157, 158, 96, 97, 98, 15, 99, 100, 101, 102, 103, 104, 20, 24, 28, 105, 106, 107, 19, 108, 109, 110, 111, 112, 23, 113, 114, 115, 116, 117, 27, 118, 119, 120, 121, 122, 62, 61, 235, 236, 237, 238, 239, 793, 794, 795, 796, 816, 817, 818, 819, 820, 821, 822, 823, 824, 825, 826, 827, 828, 829, 830, 831, 832, 833, 834, 835, 836, 837, 838, 839, 840, 841, 842, 843] (by decide +kernel) (by decide +kernel)) (goodIn_sub (fun _ h => List.mem_append_right _ h) (by decide +kernel))
set_option maxRecDepth 20000 in
theorem gL_law_L_setBase : GoodIn wsL_law (va_wsS RL 119 yL_setBase wsL_setBase) := goodIn_app (goodIn_of _ (by decide +kernel)) ggL_law_L_setBase
set_option maxRecDepth 20000 in
theorem ggL_law_X5_setBase : GoodIn wsL_law wsX5_setBase := goodIn_r _ [243, 244, 132, 167, 168, 169, 5, 170, 131, 136, 137, 138, 139, 140, 797, 798, 799, 800, 801, 802, 803, 804, 805, 806, 807, 808, 809, 810, 811, 812, 813, 814, 815] (by decide +kernel) (by decide +kernel)
set_option maxRecDepth 20000 in
theorem gL_law_X5_setBase : GoodIn wsL_law (wsV RL 121 RX5 yX5_setBase wsX5_setBase) := goodIn_app (goodIn_of _ (by decide +kernel)) ggL_law_X5_setBase
set_option maxRecDepth 20000 in
theorem ggL_law_X4_askSteady : GoodIn wsL_law wsX4_askSteady := goodIn_r _ [248, 16, 101, 102, 103, 2, 104, 20, 24, 28, 105, 106, 107, 19, 108, 109, 110, 111, 112, 23, 113, 114, 115, 116, 117, 27, 118, 119, 120, 121, 122, 62, 61, 249, 250, 251, 15, 252, 253, 793, 794, 795, 796, 822, 823, 824, 825, 826, 827, 828, 829, 830, 831, 832, 833, 834, 835, 836, 837, 838, 839, 840, 841, 842, 843, 816, 817, 818, 819, 820, 821] (by decide +kernel) (by decide +kernel)
set_option maxRecDepth 20000 in
theorem gL_law_X4_askSteady : GoodIn wsL_law (wsV RL 122 RX4 yX4_askSteady wsX4_askSteady) := goodIn_app (goodIn_of _ (by decide +kernel)) ggL_law_X4_askSteady
set_option maxRecDepth 20000 in
theorem ggL_law_X5_askSteady : GoodIn wsL_law wsX5_askSteady := goodIn_r _ [257, 140, 258, 132, 797, 798, 799, 800, 801, 802, 803, 804, 805, 806, 807, 808, 809, 810, 811, 812, 813, 814, 815] (by decide +kernel) (by decide +kernel)
set_option maxRecDepth 20000 in
theorem gL_law_X5_askSteady : GoodIn wsL_law (wsV RL 126 RX5 yX5_askSteady wsX5_askSteady) := goodIn_app (goodIn_of _ (by decide +kernel)) ggL_law_X5_askSteady
set_option maxRecDepth 20000 in
theorem ggL_law_X4_parts : GoodIn wsL_law wsX4_parts := goodIn_r _ [262, 16, 96, 97, 98, 15, 99, 100, 793, 794, 795, 796, 816, 817, 818, 819, 820, 821] (by decide +kernel) (by decide +kernel)
set_option maxRecDepth 20000 in
theorem gL_law_X4_parts : GoodIn wsL_law (wsV RL 127 RX4 yX4_parts wsX4_parts) := goodIn_app (goodIn_of _ (by decide +kernel)) ggL_law_X4_parts
set_option maxRecDepth 20000 in
theorem ggL_law_X5_parts : GoodIn wsL_law wsX5_parts := goodIn_r _ [266, 140, 131, 797, 798, 799, 800, 801, 802, 803, 804, 805, 806, 807, 808, 809, 810, 811, 812, 813, 814, 815] (by decide +kernel) (by decide +kernel)
set_option maxRecDepth 20000 in
theorem gL_law_X5_parts : GoodIn wsL_law (wsV RL 130 RX5 yX5_parts wsX5_parts) := goodIn_app (goodIn_of _ (by decide +kernel)) ggL_law_X5_parts
set_option maxRecDepth 20000 in
theorem ggL_law_L_isConnected : GoodIn wsL_law wsL_isConnected := goodIn_ca (goodIn_r _ [269, 82, 270, 271, 272, 2, 273, 16, 274, 275, 276, 277, 94, 95, 278, 279, 280, 15, 281, 100, 282, 283, 284, 285, 34, 286, 287, 288, 793, 794, 795, 796, 816, 817, 818, 819, 820, 821] (by decide +kernel) (by decide +kernel)) (goodIn_sub (fun _ h => List.mem_append_left _ (List.mem_append_right _ h)) (by decide +kernel))
set_option maxRecDepth 20000 in
theorem gL_law_L_isConnected : GoodIn wsL_law (va_wsS RL 131 yL_isConnected wsL_isConnected) := goodIn_app (goodIn_of _ (by decide +kernel)) ggL_law_L_isConnected
set_option maxRecDepth 20000 in
theorem ggL_law_X5_isConnected : GoodIn wsL_law wsX5_isConnected := goodIn_r _ [292, 293, 294, 295, 5, 296, 297, 298, 299, 300, 131, 136, 137, 138, 139, 140, 301, 302, 303, 304, 305, 306, 307, 308, 69, 797, 798, 799, 800, 801, 802, 803, 804, 805, 806, 807, 808, 809, 810, 811, 812, 813, 814, 815] (by decide +kernel) (by decide +kernel)
set_option maxRecDepth 20000 in
theorem gL_law_X5_isConnected : GoodIn wsL_law (wsV RL 133 RX5 yX5_isConnected wsX5_isConnected) := goodIn_app (goodIn_of _ (by decide +kernel)) ggL_law_X5_isConnected
set_option maxRecDepth 20000 in
theorem ggL_law_L_isSteady : GoodIn wsL_law wsL_isSteady := goodIn_ca (goodIn_r _ [311, 82, 312, 313, 314, 2, 315, 16, 274, 275, 276, 277, 94, 95, 278, 279, 280, 15, 281, 100, 316, 317, 318, 319, 35, 239, 286, 287, 288, 793, 794, 795, 796, 816, 817, 818, 819, 820, 821] (by decide +kernel) (by decide +kernel)) (goodIn_sub (fun _ h => List.mem_append_left _ (List.mem_append_right _ h)) (by decide +kernel))
set_option maxRecDepth 20000 in
theorem gL_law_L_isSteady : GoodIn wsL_law (va_wsS RL 134 yL_isSteady wsL_isSteady) := goodIn_app (goodIn_of _ (by decide +kernel)) ggL_law_L_isSteady
set_option maxRecDepth 20000 in
theorem ggL_law_X5_isSteady : GoodIn wsL_law wsX5_isSteady := goodIn_r _ [323, 293, 294, 295, 5, 296, 297, 298, 299, 300, 131, 136, 137, 138, 139, 140, 324, 325, 326, 327, 244, 70, 797, 798, 799, 800, 801, 802, 803, 804, 805, 806, 807, 808, 809, 810, 811, 812, 813, 814, 815] (by decide +kernel) (by decide +kernel)
set_option maxRecDepth 20000 in
theorem gL_law_X5_isSteady : GoodIn wsL_law (wsV RL 136 RX5 yX5_isSteady wsX5_isSteady) := goodIn_app (goodIn_of _ (by decide +kernel)) ggL_law_X5_isSteady
set_option maxRecDepth 20000 in
theorem ggL_law_L_free : GoodIn wsL_law wsL_free := goodIn_ca (goodIn_ca (goodIn_r _ [330, 148, 82, 331, 332, 333, 2, 334, 16, 153, 154, 155, 156, 157, 158, 96, 97, 98, 15, 99, 100, 335, 336, 337, 338, 94, 95, 274, 275, 276, 277, 278, 279, 280, 281, 339, 340, 341, 342, 35, 793, 794, 795, 796, 816, 817, 818, 819, 820, 821] (by decide +kernel) (by decide +kernel)) (goodIn_sub (fun _ h => List.mem_append_right _ h) (by decide +kernel))) (goodIn_sub (fun _ h => List.mem_append_left _ (List.mem_append_right _ h)) (by decide +kernel))
set_option maxRecDepth 20000 in
theorem gL_law_L_free : GoodIn wsL_law (va_wsS RL 137 yL_free wsL_free) := goodIn_app (goodIn_of _ (by decide +kernel)) ggL_law_L_free
set_option maxRecDepth 20000 in
theorem ggL_law_X5_free : GoodIn wsL_law wsX5_free := goodIn_r _ [346, 347, 348, 349, 5, 350, 167, 168, 169, 170, 131, 293, 294, 295, 296, 297, 298, 299, 300, 136, 137, 138, 139, 140, 351, 352, 353, 354, 70, 797, 798, 799, 800, 801, 802, 803, 804, 805, 806, 807, 808, 809, 810, 811, 812, 813, 814, 815] (by decide +kernel) (by decide +kernel)
set_option maxRecDepth 20000 in
theorem gL_law_X5_free : GoodIn wsL_law (wsV RL 139 RX5 yX5_free wsX5_free) := goodIn_app (goodIn_of _ (by decide +kernel)) ggL_law_X5_free
set_option maxRecDepth 20000 in
theorem ggL_law_L_canTake : GoodIn wsL_law wsL_canTake := goodIn_ca (goodIn_ca (goodIn_r _ [357, 148, 82, 358, 359, 360, 2, 361, 16, 153, 154, 155, 156, 157, 158, 96, 97, 98, 15, 99, 100, 335, 336, 337, 338, 94, 95, 274, 275, 276, 277, 278, 279, 280, 281, 362, 363, 364, 365, 366, 367, 368, 369, 253, 370, 283, 284, 285, 34, 286, 287, 288, 371, 317, 318, 319, 35, 239, 372, 340, 341, 342, 793, 794, 795, 796, 816, 817, 818, 819, 820, 821] (by decide +kernel) (by decide +kernel)) (goodIn_sub (fun _ h => List.mem_append_right _ h) (by decide +kernel))) (goodIn_sub (fun _ h => List.mem_append_left _ (List.mem_append_right _ h)) (by decide +kernel))
set_option maxRecDepth 20000 in
theorem gL_law_L_canTake : GoodIn wsL_law (va_wsS RL 140 yL_canTake wsL_canTake) := goodIn_app (goodIn_of _ (by decide +kernel)) ggL_law_L_canTake
set_option maxRecDepth 20000 in
theorem ggL_law_X5_canTake : GoodIn wsL_law wsX5_canTake := goodIn_r _ [376, 347, 348, 349, 5, 350, 167, 168, 169, 170, 131, 293, 294, 295, 296, 297, 298, 299, 300, 136, 137, 138, 139, 140, 377, 378, 379, 380, 258, 301, 302, 303, 304, 305, 306, 307, 308, 69, 324, 325, 326, 327, 244, 70, 351, 352, 353, 354, 797, 798, 799, 800, 801, 802, 803, 804, 805, 806, 807, 808, 809, 810, 811, 812, 813, 814, 815] (by decide +kernel) (by decide +kernel)
set_option maxRecDepth 20000 in
theorem gL_law_X5_canTake : GoodIn wsL_law (wsV RL 142 RX5 yX5_canTake wsX5_canTake) := goodIn_app (goodIn_of _ (by decide +kernel)) ggL_law_X5_canTake
set_option maxRecDepth 20000 in
theorem ggL_law_L_movesWith : GoodIn wsL_law wsL_movesWith := goodIn_ca (goodIn_r _ [383, 148, 384, 385, 386, 2, 387, 16, 153, 154, 155, 156, 157, 158, 96, 97, 98, 15, 99, 100, 210, 211, 212, 213, 388, 389, 390, 391, 35, 392, 279, 280, 281, 286, 287, 288, 793, 794, 795, 796, 816, 817, 818, 819, 820, 821] (by decide +kernel) (by decide +kernel)) (goodIn_sub (fun _ h => List.mem_append_right _ h) (by decide +kernel))
set_option maxRecDepth 20000 in
theorem gL_law_L_movesWith : GoodIn wsL_law (va_wsS RL 143 yL_movesWith wsL_movesWith) := goodIn_app (goodIn_of _ (by decide +kernel)) ggL_law_L_movesWith
set_option maxRecDepth 20000 in
theorem ggL_law_X5_movesWith : GoodIn wsL_law wsX5_movesWith := goodIn_r _ [396, 167, 168, 169, 5, 170, 131, 225, 226, 227, 136, 137, 138, 139, 140, 397, 398, 399, 400, 70, 797, 798, 799, 800, 801, 802, 803, 804, 805, 806, 807, 808, 809, 810, 811, 812, 813, 814, 815] (by decide +kernel) (by decide +kernel)
set_option maxRecDepth 20000 in
theorem gL_law_X5_movesWith : GoodIn wsL_law (wsV RL 145 RX5 yX5_movesWith wsX5_movesWith) := goodIn_app (goodIn_of _ (by decide +kernel)) ggL_law_X5_movesWith
set_option maxRecDepth 20000 in
theorem ggL_law_L_boundTo : GoodIn wsL_law wsL_boundTo := goodIn_ca (goodIn_r _ [403, 148, 404, 405, 406, 2, 407, 16, 153, 154, 155, 156, 157, 158, 96, 97, 98, 15, 99, 100, 210, 211, 212, 213, 408, 409, 410, 411, 412, 389, 390, 391, 35, 392, 279, 280, 281, 286, 287, 288, 218, 219, 220, 793, 794, 795, 796, 816, 817, 818, 819, 820, 821] (by decide +kernel) (by decide +kernel)) (goodIn_sub (fun _ h => List.mem_append_right _ h) (by decide +kernel))
set_option maxRecDepth 20000 in
theorem gL_law_L_boundTo : GoodIn wsL_law (va_wsS RL 146 yL_boundTo wsL_boundTo) := goodIn_app (goodIn_of _ (by decide +kernel)) ggL_law_L_boundTo
set_option maxRecDepth 20000 in
theorem ggL_law_X5_boundTo : GoodIn wsL_law wsX5_boundTo := goodIn_r _ [416, 167, 168, 169, 5, 170, 131, 225, 226, 227, 136, 137, 138, 139, 140, 417, 418, 419, 420, 397, 398, 399, 400, 70, 797, 798, 799, 800, 801, 802, 803, 804, 805, 806, 807, 808, 809, 810, 811, 812, 813, 814, 815] (by decide +kernel) (by decide +kernel)
set_option maxRecDepth 20000 in
theorem gL_law_X5_boundTo : GoodIn wsL_law (wsV RL 148 RX5 yX5_boundTo wsX5_boundTo) := goodIn_app (goodIn_of _ (by decide +kernel)) ggL_law_X5_boundTo
set_option maxRecDepth 20000 in
theorem ggL_law_L_groups : GoodIn wsL_law wsL_groups := goodIn_ca (goodIn_r _ [423, 148, 424, 425, 426, 2, 427, 16, 210, 211, 212, 213, 157, 158, 428, 429, 430, 15, 431, 100, 432, 409, 410, 411, 412, 389, 390, 391, 35, 392, 279, 280, 281, 286, 287, 288, 218, 219, 220, 793, 794, 795, 796, 816, 817, 818, 819, 820, 821] (by decide +kernel) (by decide +kernel)) (goodIn_sub (fun _ h => List.mem_append_right _ h) (by decide +kernel))
set_option maxRecDepth 20000 in
theorem gL_law_L_groups : GoodIn wsL_law (va_wsS RL 149 yL_groups wsL_groups) := goodIn_app (goodIn_of _ (by decide +kernel)) ggL_law_L_groups
set_option maxRecDepth 20000 in
theorem ggL_law_X5_groups : GoodIn wsL_law wsX5_groups := goodIn_r _ [436, 131, 225, 226, 5, 227, 136, 137, 138, 139, 140, 417, 418, 419, 420, 397, 398, 399, 400, 70, 797, 798, 799, 800, 801, 802, 803, 804, 805, 806, 807, 808, 809, 810, 811, 812, 813, 814, 815] (by decide +kernel) (by decide +kernel)
set_option maxRecDepth 20000 in
theorem gL_law_X5_groups : GoodIn wsL_law (wsV RL 151 RX5 yX5_groups wsX5_groups) := goodIn_app (goodIn_of _ (by decide +kernel)) ggL_law_X5_groups
set_option maxRecDepth 20000 in
theorem ggL_law_L_splits : GoodIn wsL_law wsL_splits := goodIn_ca (goodIn_r _ [439, 82, 440, 441, 442, 2, 443, 20, 274, 275, 276, 277, 94, 95, 16, 278, 279, 280, 15, 281, 100, 444, 445, 446, 19, 447, 42, 448, 449, 450, 451, 109, 45, 41, 452, 453, 283, 284, 285, 34, 286, 287, 288, 454, 455, 456, 457, 43, 44, 458, 459, 460, 461, 462, 463, 464, 465, 466, 467, 468, 469, 35, 470, 471, 472, 473, 474, 475, 476, 477, 478, 479, 480, 793, 794, 795, 796, 816, 817, 818, 819, 820, 821, 822, 823, 824, 825, 826, 827] (by decide +kernel) (by decide +kernel)) (goodIn_sub (fun _ h => List.mem_append_left _ (List.mem_append_right _ h)) (by decide +kernel))
set_option maxRecDepth 20000 in
theorem gL_law_L_splits : GoodIn wsL_law (va_wsS RL 152 yL_splits wsL_splits) := goodIn_app (goodIn_of _ (by decide +kernel)) ggL_law_L_splits
set_option maxRecDepth 20000 in
theorem ggL_law_X5_splits : GoodIn wsL_law wsX5_splits := goodIn_r _ [484, 293, 294, 295, 5, 296, 297, 298, 299, 300, 131, 136, 137, 138, 139, 140, 301, 302, 303, 304, 305, 306, 307, 308, 69, 485, 486, 487, 488, 489, 490, 491, 492, 70, 797, 798, 799, 800, 801, 802, 803, 804, 805, 806, 807, 808, 809, 810, 811, 812, 813, 814, 815] (by decide +kernel) (by decide +kernel)
set_option maxRecDepth 20000 in
theorem gL_law_X5_splits : GoodIn wsL_law (wsV RL 154 RX5 yX5_splits wsX5_splits) := goodIn_app (goodIn_of _ (by decide +kernel)) ggL_law_X5_splits
set_option maxRecDepth 20000 in
theorem ggL_law_L_ways : GoodIn wsL_law wsL_ways := goodIn_ca (goodIn_r _ [495, 83, 496, 497, 498, 2, 499, 20, 16, 500, 501, 502, 503, 88, 89, 96, 97, 98, 15, 99, 100, 278, 279, 280, 281, 504, 505, 506, 19, 507, 43, 448, 449, 450, 451, 109, 45, 41, 452, 453, 283, 284, 285, 34, 286, 287, 288, 454, 455, 456, 457, 42, 44, 458, 459, 460, 461, 462, 463, 464, 465, 466, 467, 468, 469, 35, 470, 471, 472, 473, 474, 475, 476, 477, 478, 479, 480, 793, 794, 795, 796, 816, 817, 818, 819, 820, 821, 822, 823, 824, 825, 826, 827] (by decide +kernel) (by decide +kernel)) (goodIn_sub (fun _ h => List.mem_append_left _ (List.mem_append_left _ (List.mem_append_right _ h))) (by decide +kernel))
set_option maxRecDepth 20000 in
theorem gL_law_L_ways : GoodIn wsL_law (va_wsS RL 155 yL_ways wsL_ways) := goodIn_app (goodIn_of _ (by decide +kernel)) ggL_law_L_ways
set_option maxRecDepth 20000 in
theorem ggL_law_X5_ways : GoodIn wsL_law wsX5_ways := goodIn_r _ [511, 131, 73, 136, 137, 138, 5, 139, 140, 512, 513, 514, 515, 74, 297, 298, 299, 300, 301, 302, 303, 304, 305, 306, 307, 308, 69, 485, 486, 487, 488, 489, 490, 491, 492, 70, 797, 798, 799, 800, 801, 802, 803, 804, 805, 806, 807, 808, 809, 810, 811, 812, 813, 814, 815] (by decide +kernel) (by decide +kernel)
set_option maxRecDepth 20000 in
theorem gL_law_X5_ways : GoodIn wsL_law (wsV RL 158 RX5 yX5_ways wsX5_ways) := goodIn_app (goodIn_of _ (by decide +kernel)) ggL_law_X5_ways
set_option maxRecDepth 20000 in
theorem ggL_law_L_leastDepth : GoodIn wsL_law wsL_leastDepth := goodIn_ca (goodIn_r _ [518, 83, 519, 520, 521, 2, 522, 20, 16, 500, 501, 502, 503, 88, 89, 96, 97, 98, 15, 99, 100, 278, 279, 280, 281, 523, 524, 525, 19, 526, 44, 448, 449, 450, 451, 109, 45, 41, 452, 453, 283, 284, 285, 34, 286, 287, 288, 454, 455, 456, 457, 42, 43, 458, 459, 460, 461, 462, 463, 464, 465, 466, 467, 468, 469, 35, 470, 471, 472, 473, 474, 475, 476, 477, 478, 479, 480, 793, 794, 795, 796, 816, 817, 818, 819, 820, 821, 822, 823, 824, 825, 826, 827] (by decide +kernel) (by decide +kernel)) (goodIn_sub (fun _ h => List.mem_append_left _ (List.mem_append_left _ (List.mem_append_right _ h))) (by decide +kernel))
set_option maxRecDepth 20000 in
theorem gL_law_L_leastDepth : GoodIn wsL_law (va_wsS RL 159 yL_leastDepth wsL_leastDepth) := goodIn_app (goodIn_of _ (by decide +kernel)) ggL_law_L_leastDepth
set_option maxRecDepth 20000 in
theorem ggL_law_X5_leastDepth : GoodIn wsL_law wsX5_leastDepth := goodIn_r _ [530, 131, 74, 136, 137, 138, 5, 139, 140, 512, 513, 514, 515, 73, 297, 298, 299, 300, 301, 302, 303, 304, 305, 306, 307, 308, 69, 485, 486, 487, 488, 489, 490, 491, 492, 70, 797, 798, 799, 800, 801, 802, 803, 804, 805, 806, 807, 808, 809, 810, 811, 812, 813, 814, 815] (by decide +kernel) (by decide +kernel)
set_option maxRecDepth 20000 in
theorem gL_law_X5_leastDepth : GoodIn wsL_law (wsV RL 161 RX5 yX5_leastDepth wsX5_leastDepth) := goodIn_app (goodIn_of _ (by decide +kernel)) ggL_law_X5_leastDepth
set_option maxRecDepth 20000 in
theorem ggL_law_L_orders : GoodIn wsL_law wsL_orders := goodIn_ca (goodIn_r _ [533, 83, 534, 535, 536, 2, 537, 24, 500, 501, 502, 503, 88, 89, 16, 96, 97, 98, 15, 99, 100, 538, 539, 540, 23, 541, 52, 542, 543, 544, 545, 114, 55, 50, 51, 53, 546, 547, 279, 280, 281, 548, 367, 368, 369, 253, 370, 283, 284, 285, 34, 286, 287, 288, 371, 317, 318, 319, 35, 239, 549, 550, 551, 552, 553, 554, 340, 341, 342, 555, 556, 557, 558, 559, 560, 561, 562, 563, 479, 476, 480, 564, 565, 566, 567, 568, 569, 570, 571, 33, 572, 573, 574, 575, 576, 577, 578, 54, 579, 580, 581, 582, 793, 794, 795, 796, 816, 817, 818, 819, 820, 821, 828, 829, 830, 831, 832, 833, 834, 835] (by decide +kernel) (by decide +kernel)) (goodIn_sub (fun _ h => List.mem_append_left _ (List.mem_append_left _ (List.mem_append_right _ h))) (by decide +kernel))
set_option maxRecDepth 20000 in
theorem gL_law_L_orders : GoodIn wsL_law (va_wsS RL 162 yL_orders wsL_orders) := goodIn_app (goodIn_of _ (by decide +kernel)) ggL_law_L_orders
set_option maxRecDepth 20000 in
theorem ggL_law_X5_orders : GoodIn wsL_law wsX5_orders := goodIn_r _ [586, 131, 75, 136, 137, 138, 5, 139, 140, 297, 298, 299, 300, 587, 588, 589, 590, 377, 378, 379, 380, 258, 301, 302, 303, 304, 305, 306, 307, 308, 69, 324, 325, 326, 327, 244, 70, 351, 352, 353, 354, 797, 798, 799, 800, 801, 802, 803, 804, 805, 806, 807, 808, 809, 810, 811, 812, 813, 814, 815] (by decide +kernel) (by decide +kernel)
set_option maxRecDepth 20000 in
theorem gL_law_X5_orders : GoodIn wsL_law (wsV RL 164 RX5 yX5_orders wsX5_orders) := goodIn_app (goodIn_of _ (by decide +kernel)) ggL_law_X5_orders
set_option maxRecDepth 20000 in
theorem ggL_law_L_fewestChanges : GoodIn wsL_law wsL_fewestChanges := goodIn_ca (goodIn_r _ [593, 83, 594, 595, 596, 2, 597, 24, 500, 501, 502, 503, 88, 89, 16, 96, 97, 98, 15, 99, 100, 598, 599, 600, 23, 601, 546, 542, 543, 544, 545, 114, 55, 50, 51, 52, 53, 547, 279, 280, 281, 548, 367, 368, 369, 253, 370, 283, 284, 285, 34, 286, 287, 288, 371, 317, 318, 319, 35, 239, 549, 550, 551, 552, 553, 554, 340, 341, 342, 555, 556, 557, 558, 559, 560, 561, 562, 563, 479, 476, 480, 564, 565, 566, 567, 568, 569, 570, 571, 33, 572, 573, 574, 575, 576, 577, 578, 54, 579, 580, 581, 582, 602, 603, 604, 793, 794, 795, 796, 816, 817, 818, 819, 820, 821, 828, 829, 830, 831, 832, 833, 834, 835] (by decide +kernel) (by decide +kernel)) (goodIn_sub (fun _ h => List.mem_append_left _ (List.mem_append_left _ (List.mem_append_right _ h))) (by decide +kernel))
set_option maxRecDepth 20000 in
theorem gL_law_L_fewestChanges : GoodIn wsL_law (va_wsS RL 165 yL_fewestChanges wsL_fewestChanges) := goodIn_app (goodIn_of _ (by decide +kernel)) ggL_law_L_fewestChanges
set_option maxRecDepth 20000 in
theorem ggL_law_X5_fewestChanges : GoodIn wsL_law wsX5_fewestChanges := goodIn_r _ [608, 131, 136, 137, 138, 5, 139, 140, 609, 610, 611, 612, 76, 68, 77, 613, 614, 615, 616, 297, 298, 299, 300, 587, 588, 589, 590, 377, 378, 379, 380, 258, 301, 302, 303, 304, 305, 306, 307, 308, 69, 324, 325, 326, 327, 244, 70, 351, 352, 353, 354, 797, 798, 799, 800, 801, 802, 803, 804, 805, 806, 807, 808, 809, 810, 811, 812, 813, 814, 815] (by decide +kernel) (by decide +kernel)
set_option maxRecDepth 20000 in
theorem gL_law_X5_fewestChanges : GoodIn wsL_law (wsV RL 167 RX5 yX5_fewestChanges wsX5_fewestChanges) := goodIn_app (goodIn_of _ (by decide +kernel)) ggL_law_X5_fewestChanges
set_option maxRecDepth 20000 in
theorem ggL_law_L_fewestByListing : GoodIn wsL_law wsL_fewestByListing := goodIn_ca (goodIn_r _ [619, 83, 620, 621, 622, 2, 623, 88, 89, 16, 24, 500, 501, 502, 503, 96, 97, 98, 15, 99, 100, 624, 625, 626, 23, 627, 542, 543, 544, 545, 114, 55, 50, 51, 52, 53, 546, 547, 279, 280, 281, 548, 367, 368, 369, 253, 370, 283, 284, 285, 34, 286, 287, 288, 371, 317, 318, 319, 35, 239, 549, 550, 551, 552, 553, 554, 340, 341, 342, 555, 556, 557, 558, 559, 560, 561, 562, 563, 479, 476, 480, 564, 565, 566, 567, 568, 569, 570, 571, 33, 572, 573, 574, 575, 576, 577, 578, 54, 579, 580, 581, 582, 628, 629, 630, 602, 603, 604, 793, 794, 795, 796, 816, 817, 818, 819, 820, 821, 828, 829, 830, 831, 832, 833, 834, 835] (by decide +kernel) (by decide +kernel)) (goodIn_sub (fun _ h => List.mem_append_left _ (List.mem_append_left _ (List.mem_append_right _ h))) (by decide +kernel))
set_option maxRecDepth 20000 in
theorem gL_law_L_fewestByListing : GoodIn wsL_law (va_wsS RL 168 yL_fewestByListing wsL_fewestByListing) := goodIn_app (goodIn_of _ (by decide +kernel)) ggL_law_L_fewestByListing
set_option maxRecDepth 20000 in
theorem ggL_law_X5_fewestByListing : GoodIn wsL_law wsX5_fewestByListing := goodIn_r _ [634, 131, 136, 137, 138, 5, 139, 140, 609, 610, 611, 612, 76, 68, 77, 613, 614, 615, 616, 297, 298, 299, 300, 587, 588, 589, 590, 377, 378, 379, 380, 258, 301, 302, 303, 304, 305, 306, 307, 308, 69, 324, 325, 326, 327, 244, 70, 351, 352, 353, 354, 797, 798, 799, 800, 801, 802, 803, 804, 805, 806, 807, 808, 809, 810, 811, 812, 813, 814, 815] (by decide +kernel) (by decide +kernel)
set_option maxRecDepth 20000 in
theorem gL_law_X5_fewestByListing : GoodIn wsL_law (wsV RL 170 RX5 yX5_fewestByListing wsX5_fewestByListing) := goodIn_app (goodIn_of _ (by decide +kernel)) ggL_law_X5_fewestByListing
set_option maxRecDepth 20000 in
theorem ggL_law_L_orderAt : GoodIn wsL_law wsL_orderAt := goodIn_ca (goodIn_r _ [637, 148, 638, 639, 640, 2, 641, 157, 158, 24, 642, 643, 644, 23, 645, 55, 546, 54, 553, 97, 98, 15, 99, 100, 542, 543, 544, 545, 114, 50, 51, 52, 53, 547, 279, 280, 281, 548, 367, 368, 369, 253, 370, 283, 284, 285, 34, 286, 287, 288, 371, 317, 318, 319, 35, 239, 549, 550, 551, 552, 554, 340, 341, 342, 555, 556, 557, 558, 559, 560, 561, 562, 563, 479, 476, 480, 564, 565, 566, 567, 568, 569, 570, 571, 33, 572, 573, 574, 575, 576, 577, 578, 579, 580, 581, 582, 793, 794, 795, 796, 828, 829, 830, 831, 832, 833, 834, 835, 816, 817, 818, 819, 820, 821] (by decide +kernel) (by decide +kernel)) (goodIn_sub (fun _ h => List.mem_append_right _ h) (by decide +kernel))
set_option maxRecDepth 20000 in
theorem gL_law_L_orderAt : GoodIn wsL_law (va_wsS RL 171 yL_orderAt wsL_orderAt) := goodIn_app (goodIn_of _ (by decide +kernel)) ggL_law_L_orderAt
set_option maxRecDepth 20000 in
theorem ggL_law_X5_orderAt : GoodIn wsL_law wsX5_orderAt := goodIn_r _ [649, 131, 77, 609, 610, 611, 5, 612, 76, 68, 613, 614, 615, 616, 297, 298, 299, 300, 587, 588, 589, 590, 377, 378, 379, 380, 258, 301, 302, 303, 304, 305, 306, 307, 308, 69, 324, 325, 326, 327, 244, 70, 351, 352, 353, 354, 136, 137, 138, 139, 140, 797, 798, 799, 800, 801, 802, 803, 804, 805, 806, 807, 808, 809, 810, 811, 812, 813, 814, 815] (by decide +kernel) (by decide +kernel)
set_option maxRecDepth 20000 in
theorem gL_law_X5_orderAt : GoodIn wsL_law (wsV RL 173 RX5 yX5_orderAt wsX5_orderAt) := goodIn_app (goodIn_of _ (by decide +kernel)) ggL_law_X5_orderAt
set_option maxRecDepth 20000 in
theorem ggL_law_L_setJams : GoodIn wsL_law wsL_setJams := goodIn_ca (goodIn_ca (goodIn_r _ [652, 148, 82, 653, 654, 655, 2, 656, 94, 95, 28, 153, 154, 155, 156, 157, 158, 16, 96, 97, 98, 15, 99, 100, 657, 658, 659, 27, 660, 60, 793, 794, 795, 796, 816, 817, 818, 819, 820, 821, 836, 837, 838, 839, 840, 841, 842, 843] (by decide +kernel) (by decide +kernel)) (goodIn_sub (fun _ h => List.mem_append_left _ (List.mem_append_right _ h)) (by decide +kernel))) (goodIn_sub (fun _ h => List.mem_append_right _ h) (by decide +kernel))
set_option maxRecDepth 20000 in
theorem gL_law_L_setJams : GoodIn wsL_law (va_wsS RL 174 yL_setJams wsL_setJams) := goodIn_app (goodIn_of _ (by decide +kernel)) ggL_law_L_setJams
set_option maxRecDepth 20000 in
theorem ggL_law_X5_setJams : GoodIn wsL_law wsX5_setJams := goodIn_r _ [664, 71, 167, 168, 169, 5, 170, 131, 136, 137, 138, 139, 140, 797, 798, 799, 800, 801, 802, 803, 804, 805, 806, 807, 808, 809, 810, 811, 812, 813, 814, 815] (by decide +kernel) (by decide +kernel)
set_option maxRecDepth 20000 in
theorem gL_law_X5_setJams : GoodIn wsL_law (wsV RL 176 RX5 yX5_setJams wsX5_setJams) := goodIn_app (goodIn_of _ (by decide +kernel)) ggL_law_X5_setJams
set_option maxRecDepth 20000 in
theorem ggL_law_L_begin : GoodIn wsL_law wsL_begin := goodIn_ca (goodIn_r _ [667, 83, 668, 669, 670, 2, 671, 88, 89, 24, 28, 16, 500, 501, 502, 503, 96, 97, 98, 15, 99, 100, 598, 599, 600, 23, 601, 546, 542, 543, 544, 545, 114, 55, 50, 51, 52, 53, 547, 279, 280, 281, 548, 367, 368, 369, 253, 370, 283, 284, 285, 34, 286, 287, 288, 371, 317, 318, 319, 35, 239, 549, 550, 551, 552, 553, 554, 340, 341, 342, 555, 556, 557, 558, 559, 560, 561, 562, 563, 479, 476, 480, 564, 565, 566, 567, 568, 569, 570, 571, 33, 572, 573, 574, 575, 576, 577, 578, 54, 579, 580, 581, 582, 602, 603, 604, 672, 673, 674, 27, 675, 119, 676, 116, 117, 118, 120, 121, 122, 62, 61, 793, 794, 795, 796, 816, 817, 818, 819, 820, 821, 828, 829, 830, 831, 832, 833, 834, 835, 836, 837, 838, 839, 840, 841, 842, 843] (by decide +kernel) (by decide +kernel)) (goodIn_sub (fun _ h => List.mem_append_left _ (List.mem_append_left _ (List.mem_append_right _ h))) (by decide +kernel))
set_option maxRecDepth 20000 in
theorem gL_law_L_begin : GoodIn wsL_law (va_wsS RL 177 yL_begin wsL_begin) := goodIn_app (goodIn_of _ (by decide +kernel)) ggL_law_L_begin
set_option maxRecDepth 20000 in
theorem ggL_law_X5_begin : GoodIn wsL_law wsX5_begin := goodIn_r _ [680, 131, 132, 681, 682, 683, 684, 72, 609, 610, 611, 5, 612, 76, 68, 77, 613, 614, 615, 616, 297, 298, 299, 300, 587, 588, 589, 590, 377, 378, 379, 380, 258, 301, 302, 303, 304, 305, 306, 307, 308, 69, 324, 325, 326, 327, 244, 70, 351, 352, 353, 354, 136, 137, 138, 139, 140, 797, 798, 799, 800, 801, 802, 803, 804, 805, 806, 807, 808, 809, 810, 811, 812, 813, 814, 815] (by decide +kernel) (by decide +kernel)
set_option maxRecDepth 20000 in
theorem gL_law_X5_begin : GoodIn wsL_law (wsV RL 179 RX5 yX5_begin wsX5_begin) := goodIn_app (goodIn_of _ (by decide +kernel)) ggL_law_X5_begin
set_option maxRecDepth 20000 in
theorem ggL_law_L_step : GoodIn wsL_law wsL_step := goodIn_ca (goodIn_r _ [687, 83, 688, 689, 690, 2, 691, 88, 89, 24, 28, 692, 693, 694, 27, 695, 119, 120, 642, 643, 644, 23, 645, 55, 546, 54, 553, 97, 98, 15, 99, 100, 542, 543, 544, 545, 114, 50, 51, 52, 53, 547, 279, 280, 281, 548, 367, 368, 369, 253, 370, 283, 284, 285, 34, 286, 287, 288, 371, 317, 318, 319, 35, 239, 549, 550, 551, 552, 554, 340, 341, 342, 555, 556, 557, 558, 559, 560, 561, 562, 563, 479, 476, 480, 564, 565, 566, 567, 568, 569, 570, 571, 33, 572, 573, 574, 575, 576, 577, 578, 579, 580, 581, 582, 696, 697, 698, 699, 63, 60, 122, 700, 701, 702, 703, 704, 62, 705, 706, 707, 708, 61, 709, 710, 711, 712, 713, 714, 715, 716, 121, 717, 793, 794, 795, 796, 836, 837, 838, 839, 840, 841, 842, 843, 828, 829, 830, 831, 832, 833, 834, 835, 816, 817, 818, 819, 820, 821] (by decide +kernel) (by decide +kernel)) (goodIn_sub (fun _ h => List.mem_append_left _ (List.mem_append_left _ (List.mem_append_right _ h))) (by decide +kernel))
set_option maxRecDepth 20000 in
theorem gL_law_L_step : GoodIn wsL_law (va_wsS RL 180 yL_step wsL_step) := goodIn_app (goodIn_of _ (by decide +kernel)) ggL_law_L_step
set_option maxRecDepth 20000 in
theorem ggL_law_X5_step : GoodIn wsL_law wsX5_step := goodIn_r _ [721, 132, 681, 131, 77, 684, 68, 683, 71, 72, 682, 70, 136, 137, 138, 5, 139, 140, 609, 610, 611, 612, 76, 613, 614, 615, 616, 297, 298, 299, 300, 587, 588, 589, 590, 377, 378, 379, 380, 258, 301, 302, 303, 304, 305, 306, 307, 308, 69, 324, 325, 326, 327, 244, 351, 352, 353, 354, 722, 723, 724, 725, 797, 798, 799, 800, 801, 802, 803, 804, 805, 806, 807, 808, 809, 810, 811, 812, 813, 814, 815] (by decide +kernel) (by decide +kernel)
set_option maxRecDepth 20000 in
theorem gL_law_X5_step : GoodIn wsL_law (wsV RL 182 RX5 yX5_step wsX5_step) := goodIn_app (goodIn_of _ (by decide +kernel)) ggL_law_X5_step
set_option maxRecDepth 20000 in
theorem ggL_law_L_stepBack : GoodIn wsL_law wsL_stepBack := goodIn_ca (goodIn_r _ [728, 83, 729, 730, 731, 2, 732, 88, 89, 24, 28, 733, 734, 735, 27, 736, 120, 642, 643, 644, 23, 645, 55, 546, 54, 553, 97, 98, 15, 99, 100, 542, 543, 544, 545, 114, 50, 51, 52, 53, 547, 279, 280, 281, 548, 367, 368, 369, 253, 370, 283, 284, 285, 34, 286, 287, 288, 371, 317, 318, 319, 35, 239, 549, 550, 551, 552, 554, 340, 341, 342, 555, 556, 557, 558, 559, 560, 561, 562, 563, 479, 476, 480, 564, 565, 566, 567, 568, 569, 570, 571, 33, 572, 573, 574, 575, 576, 577, 578, 579, 580, 581, 582, 737, 738, 739, 740, 121, 122, 793, 794, 795, 796, 836, 837, 838, 839, 840, 841, 842, 843, 828, 829, 830, 831, 832, 833, 834, 835, 816, 817, 818, 819, 820, 821] (by decide +kernel) (by decide +kernel)) (goodIn_sub (fun _ h => List.mem_append_left _ (List.mem_append_left _ (List.mem_append_right _ h))) (by decide +kernel))
set_option maxRecDepth 20000 in
theorem gL_law_L_stepBack : GoodIn wsL_law (va_wsS RL 183 yL_stepBack wsL_stepBack) := goodIn_app (goodIn_of _ (by decide +kernel)) ggL_law_L_stepBack
set_option maxRecDepth 20000 in
theorem ggL_law_X5_stepBack : GoodIn wsL_law wsX5_stepBack := goodIn_r _ [744, 132, 681, 682, 77, 683, 136, 137, 138, 5, 139, 140, 609, 610, 611, 612, 131, 76, 68, 613, 614, 615, 616, 297, 298, 299, 300, 587, 588, 589, 590, 377, 378, 379, 380, 258, 301, 302, 303, 304, 305, 306, 307, 308, 69, 324, 325, 326, 327, 244, 70, 351, 352, 353, 354, 797, 798, 799, 800, 801, 802, 803, 804, 805, 806, 807, 808, 809, 810, 811, 812, 813, 814, 815] (by decide +kernel) (by decide +kernel)
set_option maxRecDepth 20000 in
theorem gL_law_X5_stepBack : GoodIn wsL_law (wsV RL 185 RX5 yX5_stepBack wsX5_stepBack) := goodIn_app (goodIn_of _ (by decide +kernel)) ggL_law_X5_stepBack
set_option maxRecDepth 20000 in
theorem ggL_law_X4_built : GoodIn wsL_law wsX4_built := goodIn_r _ [748, 28, 749, 750, 751, 27, 752, 121, 793, 794, 795, 796, 836, 837, 838, 839, 840, 841, 842, 843] (by decide +kernel) (by decide +kernel)
set_option maxRecDepth 20000 in
theorem gL_law_X4_built : GoodIn wsL_law (wsV RL 186 RX4 yX4_built wsX4_built) := goodIn_app (goodIn_of _ (by decide +kernel)) ggL_law_X4_built
set_option maxRecDepth 20000 in
theorem ggL_law_X5_built : GoodIn wsL_law wsX5_built := goodIn_r _ [756, 140, 132, 682, 797, 798, 799, 800, 801, 802, 803, 804, 805, 806, 807, 808, 809, 810, 811, 812, 813, 814, 815] (by decide +kernel) (by decide +kernel)
set_option maxRecDepth 20000 in
theorem gL_law_X5_built : GoodIn wsL_law (wsV RL 189 RX5 yX5_built wsX5_built) := goodIn_app (goodIn_of _ (by decide +kernel)) ggL_law_X5_built
set_option maxRecDepth 20000 in
theorem ggL_law_X4_clock : GoodIn wsL_law wsX4_clock := goodIn_r _ [760, 28, 761, 762, 763, 27, 764, 122, 793, 794, 795, 796, 836, 837, 838, 839, 840, 841, 842, 843] (by decide +kernel) (by decide +kernel)
set_option maxRecDepth 20000 in
theorem gL_law_X4_clock : GoodIn wsL_law (wsV RL 190 RX4 yX4_clock wsX4_clock) := goodIn_app (goodIn_of _ (by decide +kernel)) ggL_law_X4_clock
set_option maxRecDepth 20000 in
theorem ggL_law_X5_clock : GoodIn wsL_law wsX5_clock := goodIn_r _ [768, 140, 132, 683, 797, 798, 799, 800, 801, 802, 803, 804, 805, 806, 807, 808, 809, 810, 811, 812, 813, 814, 815] (by decide +kernel) (by decide +kernel)
set_option maxRecDepth 20000 in
theorem gL_law_X5_clock : GoodIn wsL_law (wsV RL 193 RX5 yX5_clock wsX5_clock) := goodIn_app (goodIn_of _ (by decide +kernel)) ggL_law_X5_clock
set_option maxRecDepth 20000 in
theorem ggL_law_X4_mounted : GoodIn wsL_law wsX4_mounted := goodIn_r _ [772, 28, 773, 774, 775, 27, 776, 62, 793, 794, 795, 796, 836, 837, 838, 839, 840, 841, 842, 843] (by decide +kernel) (by decide +kernel)
set_option maxRecDepth 20000 in
theorem gL_law_X4_mounted : GoodIn wsL_law (wsV RL 194 RX4 yX4_mounted wsX4_mounted) := goodIn_app (goodIn_of _ (by decide +kernel)) ggL_law_X4_mounted
set_option maxRecDepth 20000 in
theorem ggL_law_X5_mounted : GoodIn wsL_law wsX5_mounted := goodIn_r _ [780, 140, 132, 684, 797, 798, 799, 800, 801, 802, 803, 804, 805, 806, 807, 808, 809, 810, 811, 812, 813, 814, 815] (by decide +kernel) (by decide +kernel)
set_option maxRecDepth 20000 in
theorem gL_law_X5_mounted : GoodIn wsL_law (wsV RL 197 RX5 yX5_mounted wsX5_mounted) := goodIn_app (goodIn_of _ (by decide +kernel)) ggL_law_X5_mounted
set_option maxRecDepth 20000 in
theorem ggL_law_L_isBypassed : GoodIn wsL_law wsL_isBypassed := goodIn_ca (goodIn_r _ [783, 148, 784, 785, 786, 2, 787, 28, 153, 154, 155, 156, 157, 158, 16, 96, 97, 98, 15, 99, 100, 788, 706, 707, 27, 708, 61, 793, 794, 795, 796, 816, 817, 818, 819, 820, 821, 836, 837, 838, 839, 840, 841, 842, 843] (by decide +kernel) (by decide +kernel)) (goodIn_sub (fun _ h => List.mem_append_right _ h) (by decide +kernel))
set_option maxRecDepth 20000 in
theorem gL_law_L_isBypassed : GoodIn wsL_law (va_wsS RL 198 yL_isBypassed wsL_isBypassed) := goodIn_app (goodIn_of _ (by decide +kernel)) ggL_law_L_isBypassed
set_option maxRecDepth 20000 in
theorem ggL_law_X5_isBypassed : GoodIn wsL_law wsX5_isBypassed := goodIn_r _ [792, 132, 167, 168, 169, 5, 170, 131, 136, 137, 138, 139, 140, 722, 723, 724, 725, 72, 797, 798, 799, 800, 801, 802, 803, 804, 805, 806, 807, 808, 809, 810, 811, 812, 813, 814, 815] (by decide +kernel) (by decide +kernel)
set_option maxRecDepth 20000 in
theorem gL_law_X5_isBypassed : GoodIn wsL_law (wsV RL 200 RX5 yX5_isBypassed wsX5_isBypassed) := goodIn_app (goodIn_of _ (by decide +kernel)) ggL_law_X5_isBypassed
